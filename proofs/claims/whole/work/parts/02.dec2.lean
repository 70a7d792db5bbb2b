theorem dX7_fails_15 : decode cX7_fails 15 = .ok (.aload_n 0, 1) := by decide +kernel
theorem dX7_fails_16 : decode cX7_fails 16 = .ok (.getfield 89, 3) := by decide +kernel
theorem dX7_fails_19 : decode cX7_fails 19 = .ok (.putfield 89, 3) := by decide +kernel
theorem dX7_fails_22 : decode cX7_fails 22 = .ok (.return_, 1) := by decide +kernel
theorem dX7_readsNumber_0 : decode cX7_readsNumber 0 = .ok (.aload_n 0, 1) := by decide +kernel
theorem dX7_readsNumber_1 : decode cX7_readsNumber 1 = .ok (.getfield 82, 3) := by decide +kernel
theorem dX7_readsNumber_4 : decode cX7_readsNumber 4 = .ok (.istore_n 2, 1) := by decide +kernel
theorem dX7_readsNumber_5 : decode cX7_readsNumber 5 = .ok (.iload_n 1, 1) := by decide +kernel
theorem dX7_readsNumber_6 : decode cX7_readsNumber 6 = .ok (.bipush 6, 2) := by decide +kernel
theorem dX7_readsNumber_8 : decode cX7_readsNumber 8 = .ok (.if_icmp .ne 16, 3) := by decide +kernel
theorem dX7_readsNumber_11 : decode cX7_readsNumber 11 = .ok (.aload_n 0, 1) := by decide +kernel
theorem dX7_readsNumber_12 : decode cX7_readsNumber 12 = .ok (.invokevirtual 85, 3) := by decide +kernel
theorem dX7_readsNumber_15 : decode cX7_readsNumber 15 = .ok (.bipush 45, 2) := by decide +kernel
theorem dX7_readsNumber_17 : decode cX7_readsNumber 17 = .ok (.if_icmp .ne 7, 3) := by decide +kernel
theorem dX7_readsNumber_20 : decode cX7_readsNumber 20 = .ok (.iconst 1, 1) := by decide +kernel
theorem dX7_readsNumber_21 : decode cX7_readsNumber 21 = .ok (.goto 4, 3) := by decide +kernel
theorem dX7_readsNumber_24 : decode cX7_readsNumber 24 = .ok (.iconst 0, 1) := by decide +kernel
theorem dX7_readsNumber_25 : decode cX7_readsNumber 25 = .ok (.istore_n 3, 1) := by decide +kernel
theorem dX7_readsNumber_26 : decode cX7_readsNumber 26 = .ok (.aload_n 0, 1) := by decide +kernel
theorem dX7_readsNumber_27 : decode cX7_readsNumber 27 = .ok (.dup, 1) := by decide +kernel
theorem dX7_readsNumber_28 : decode cX7_readsNumber 28 = .ok (.getfield 82, 3) := by decide +kernel
theorem dX7_readsNumber_31 : decode cX7_readsNumber 31 = .ok (.iload_n 3, 1) := by decide +kernel
theorem dX7_readsNumber_32 : decode cX7_readsNumber 32 = .ok (.ifCond .eq 7, 3) := by decide +kernel
theorem dX7_readsNumber_35 : decode cX7_readsNumber 35 = .ok (.iconst 1, 1) := by decide +kernel
theorem dX7_readsNumber_36 : decode cX7_readsNumber 36 = .ok (.goto 4, 3) := by decide +kernel
theorem dX7_readsNumber_39 : decode cX7_readsNumber 39 = .ok (.iconst 0, 1) := by decide +kernel
theorem dX7_readsNumber_40 : decode cX7_readsNumber 40 = .ok (.iadd, 1) := by decide +kernel
theorem dX7_readsNumber_41 : decode cX7_readsNumber 41 = .ok (.putfield 82, 3) := by decide +kernel
theorem dX7_readsNumber_44 : decode cX7_readsNumber 44 = .ok (.aload_n 0, 1) := by decide +kernel
theorem dX7_readsNumber_45 : decode cX7_readsNumber 45 = .ok (.getfield 82, 3) := by decide +kernel
theorem dX7_readsNumber_48 : decode cX7_readsNumber 48 = .ok (.istore 4, 2) := by decide +kernel
theorem dX7_readsNumber_50 : decode cX7_readsNumber 50 = .ok (.iconst 0, 1) := by decide +kernel
theorem dX7_readsNumber_51 : decode cX7_readsNumber 51 = .ok (.istore 5, 2) := by decide +kernel
theorem dX7_readsNumber_53 : decode cX7_readsNumber 53 = .ok (.aload_n 0, 1) := by decide +kernel
theorem dX7_readsNumber_54 : decode cX7_readsNumber 54 = .ok (.getfield 82, 3) := by decide +kernel
theorem dX7_readsNumber_57 : decode cX7_readsNumber 57 = .ok (.iload 4, 2) := by decide +kernel
theorem dX7_readsNumber_59 : decode cX7_readsNumber 59 = .ok (.iconst 3, 1) := by decide +kernel
theorem dX7_readsNumber_60 : decode cX7_readsNumber 60 = .ok (.iadd, 1) := by decide +kernel
theorem dX7_readsNumber_61 : decode cX7_readsNumber 61 = .ok (.if_icmp .ge 38, 3) := by decide +kernel
theorem dX7_readsNumber_64 : decode cX7_readsNumber 64 = .ok (.aload_n 0, 1) := by decide +kernel
theorem dX7_readsNumber_65 : decode cX7_readsNumber 65 = .ok (.invokevirtual 92, 3) := by decide +kernel
theorem dX7_readsNumber_68 : decode cX7_readsNumber 68 = .ok (.ifCond .eq 31, 3) := by decide +kernel
theorem dX7_readsNumber_71 : decode cX7_readsNumber 71 = .ok (.bipush 10, 2) := by decide +kernel
theorem dX7_readsNumber_73 : decode cX7_readsNumber 73 = .ok (.iload 5, 2) := by decide +kernel
theorem dX7_readsNumber_75 : decode cX7_readsNumber 75 = .ok (.imul, 1) := by decide +kernel
theorem dX7_readsNumber_76 : decode cX7_readsNumber 76 = .ok (.aload_n 0, 1) := by decide +kernel
theorem dX7_readsNumber_77 : decode cX7_readsNumber 77 = .ok (.invokevirtual 85, 3) := by decide +kernel
theorem dX7_readsNumber_80 : decode cX7_readsNumber 80 = .ok (.iadd, 1) := by decide +kernel
theorem dX7_readsNumber_81 : decode cX7_readsNumber 81 = .ok (.bipush 48, 2) := by decide +kernel
theorem dX7_readsNumber_83 : decode cX7_readsNumber 83 = .ok (.isub, 1) := by decide +kernel
theorem dX7_readsNumber_84 : decode cX7_readsNumber 84 = .ok (.istore 5, 2) := by decide +kernel
theorem dX7_readsNumber_86 : decode cX7_readsNumber 86 = .ok (.aload_n 0, 1) := by decide +kernel
theorem dX7_readsNumber_87 : decode cX7_readsNumber 87 = .ok (.dup, 1) := by decide +kernel
theorem dX7_readsNumber_88 : decode cX7_readsNumber 88 = .ok (.getfield 82, 3) := by decide +kernel
theorem dX7_readsNumber_91 : decode cX7_readsNumber 91 = .ok (.iconst 1, 1) := by decide +kernel
theorem dX7_readsNumber_92 : decode cX7_readsNumber 92 = .ok (.iadd, 1) := by decide +kernel
theorem dX7_readsNumber_93 : decode cX7_readsNumber 93 = .ok (.putfield 82, 3) := by decide +kernel
theorem dX7_readsNumber_96 : decode cX7_readsNumber 96 = .ok (.goto (-43), 3) := by decide +kernel
theorem dX7_readsNumber_99 : decode cX7_readsNumber 99 = .ok (.iload_n 3, 1) := by decide +kernel
theorem dX7_readsNumber_100 : decode cX7_readsNumber 100 = .ok (.ifCond .eq 9, 3) := by decide +kernel
theorem dX7_readsNumber_103 : decode cX7_readsNumber 103 = .ok (.iload 5, 2) := by decide +kernel
theorem dX7_readsNumber_105 : decode cX7_readsNumber 105 = .ok (.ineg, 1) := by decide +kernel
theorem dX7_readsNumber_106 : decode cX7_readsNumber 106 = .ok (.goto 5, 3) := by decide +kernel
theorem dX7_readsNumber_109 : decode cX7_readsNumber 109 = .ok (.iload 5, 2) := by decide +kernel
theorem dX7_readsNumber_111 : decode cX7_readsNumber 111 = .ok (.istore 5, 2) := by decide +kernel
theorem dX7_readsNumber_113 : decode cX7_readsNumber 113 = .ok (.aload_n 0, 1) := by decide +kernel
theorem dX7_readsNumber_114 : decode cX7_readsNumber 114 = .ok (.getfield 82, 3) := by decide +kernel
theorem dX7_readsNumber_117 : decode cX7_readsNumber 117 = .ok (.iload 4, 2) := by decide +kernel
theorem dX7_readsNumber_119 : decode cX7_readsNumber 119 = .ok (.if_icmp .ne 11, 3) := by decide +kernel
theorem dX7_readsNumber_122 : decode cX7_readsNumber 122 = .ok (.aload_n 0, 1) := by decide +kernel
theorem dX7_readsNumber_123 : decode cX7_readsNumber 123 = .ok (.aload_n 0, 1) := by decide +kernel
theorem dX7_readsNumber_124 : decode cX7_readsNumber 124 = .ok (.getfield 82, 3) := by decide +kernel
theorem dX7_readsNumber_127 : decode cX7_readsNumber 127 = .ok (.invokevirtual 96, 3) := by decide +kernel
theorem dX7_readsNumber_130 : decode cX7_readsNumber 130 = .ok (.iload 5, 2) := by decide +kernel
theorem dX7_readsNumber_132 : decode cX7_readsNumber 132 = .ok (.iload_n 1, 1) := by decide +kernel
theorem dX7_readsNumber_133 : decode cX7_readsNumber 133 = .ok (.invokestatic 100, 3) := by decide +kernel
theorem dX7_readsNumber_136 : decode cX7_readsNumber 136 = .ok (.iload_n 1, 1) := by decide +kernel
theorem dX7_readsNumber_137 : decode cX7_readsNumber 137 = .ok (.invokestatic 104, 3) := by decide +kernel
theorem dX7_readsNumber_140 : decode cX7_readsNumber 140 = .ok (.invokestatic 75, 3) := by decide +kernel
theorem dX7_readsNumber_143 : decode cX7_readsNumber 143 = .ok (.ifCond .ne 8, 3) := by decide +kernel
theorem dX7_readsNumber_146 : decode cX7_readsNumber 146 = .ok (.aload_n 0, 1) := by decide +kernel
theorem dX7_readsNumber_147 : decode cX7_readsNumber 147 = .ok (.iload_n 2, 1) := by decide +kernel
theorem dX7_readsNumber_148 : decode cX7_readsNumber 148 = .ok (.invokevirtual 96, 3) := by decide +kernel
theorem dX7_readsNumber_151 : decode cX7_readsNumber 151 = .ok (.aload_n 0, 1) := by decide +kernel
theorem dX7_readsNumber_152 : decode cX7_readsNumber 152 = .ok (.invokevirtual 92, 3) := by decide +kernel
theorem dX7_readsNumber_155 : decode cX7_readsNumber 155 = .ok (.ifCond .eq 11, 3) := by decide +kernel
theorem dX7_readsNumber_158 : decode cX7_readsNumber 158 = .ok (.aload_n 0, 1) := by decide +kernel
theorem dX7_readsNumber_159 : decode cX7_readsNumber 159 = .ok (.aload_n 0, 1) := by decide +kernel
theorem dX7_readsNumber_160 : decode cX7_readsNumber 160 = .ok (.getfield 82, 3) := by decide +kernel
theorem dX7_readsNumber_163 : decode cX7_readsNumber 163 = .ok (.invokevirtual 96, 3) := by decide +kernel
theorem dX7_readsNumber_166 : decode cX7_readsNumber 166 = .ok (.aload_n 0, 1) := by decide +kernel
theorem dX7_readsNumber_167 : decode cX7_readsNumber 167 = .ok (.getfield 19, 3) := by decide +kernel
theorem dX7_readsNumber_170 : decode cX7_readsNumber 170 = .ok (.iload_n 1, 1) := by decide +kernel
theorem dX7_readsNumber_171 : decode cX7_readsNumber 171 = .ok (.iload 5, 2) := by decide +kernel
theorem dX7_readsNumber_173 : decode cX7_readsNumber 173 = .ok (.iastore, 1) := by decide +kernel
theorem dX7_readsNumber_174 : decode cX7_readsNumber 174 = .ok (.aload_n 0, 1) := by decide +kernel
theorem dX7_readsNumber_175 : decode cX7_readsNumber 175 = .ok (.invokevirtual 107, 3) := by decide +kernel
theorem dX7_readsNumber_178 : decode cX7_readsNumber 178 = .ok (.return_, 1) := by decide +kernel
theorem dX7_isWord_0 : decode cX7_isWord 0 = .ok (.aload_n 0, 1) := by decide +kernel
theorem dX7_isWord_1 : decode cX7_isWord 1 = .ok (.getfield 82, 3) := by decide +kernel
theorem dX7_isWord_4 : decode cX7_isWord 4 = .ok (.iload_n 1, 1) := by decide +kernel
theorem dX7_isWord_5 : decode cX7_isWord 5 = .ok (.isub, 1) := by decide +kernel
theorem dX7_isWord_6 : decode cX7_isWord 6 = .ok (.iload 4, 2) := by decide +kernel
theorem dX7_isWord_8 : decode cX7_isWord 8 = .ok (.if_icmp .ne 7, 3) := by decide +kernel
theorem dX7_isWord_11 : decode cX7_isWord 11 = .ok (.iconst 1, 1) := by decide +kernel
theorem dX7_isWord_12 : decode cX7_isWord 12 = .ok (.goto 4, 3) := by decide +kernel
theorem dX7_isWord_15 : decode cX7_isWord 15 = .ok (.iconst 0, 1) := by decide +kernel
theorem dX7_isWord_16 : decode cX7_isWord 16 = .ok (.istore 5, 2) := by decide +kernel
theorem dX7_isWord_18 : decode cX7_isWord 18 = .ok (.iconst 0, 1) := by decide +kernel
theorem dX7_isWord_19 : decode cX7_isWord 19 = .ok (.istore 6, 2) := by decide +kernel
theorem dX7_isWord_21 : decode cX7_isWord 21 = .ok (.iload 6, 2) := by decide +kernel
theorem dX7_isWord_23 : decode cX7_isWord 23 = .ok (.iload 4, 2) := by decide +kernel
theorem dX7_isWord_25 : decode cX7_isWord 25 = .ok (.if_icmp .ge 50, 3) := by decide +kernel
theorem dX7_isWord_28 : decode cX7_isWord 28 = .ok (.iload 5, 2) := by decide +kernel
theorem dX7_isWord_30 : decode cX7_isWord 30 = .ok (.ifCond .eq 45, 3) := by decide +kernel
theorem dX7_isWord_33 : decode cX7_isWord 33 = .ok (.aload_n 0, 1) := by decide +kernel
theorem dX7_isWord_34 : decode cX7_isWord 34 = .ok (.getfield 16, 3) := by decide +kernel
theorem dX7_isWord_37 : decode cX7_isWord 37 = .ok (.iload_n 1, 1) := by decide +kernel
theorem dX7_isWord_38 : decode cX7_isWord 38 = .ok (.iload 6, 2) := by decide +kernel
theorem dX7_isWord_40 : decode cX7_isWord 40 = .ok (.iadd, 1) := by decide +kernel
theorem dX7_isWord_41 : decode cX7_isWord 41 = .ok (.iaload, 1) := by decide +kernel
theorem dX7_isWord_42 : decode cX7_isWord 42 = .ok (.lload_n 2, 1) := by decide +kernel
theorem dX7_isWord_43 : decode cX7_isWord 43 = .ok (.bipush 8, 2) := by decide +kernel
theorem dX7_isWord_45 : decode cX7_isWord 45 = .ok (.iload 4, 2) := by decide +kernel
theorem dX7_isWord_47 : decode cX7_isWord 47 = .ok (.iconst 1, 1) := by decide +kernel
theorem dX7_isWord_48 : decode cX7_isWord 48 = .ok (.isub, 1) := by decide +kernel
theorem dX7_isWord_49 : decode cX7_isWord 49 = .ok (.iload 6, 2) := by decide +kernel
theorem dX7_isWord_51 : decode cX7_isWord 51 = .ok (.isub, 1) := by decide +kernel
theorem dX7_isWord_52 : decode cX7_isWord 52 = .ok (.imul, 1) := by decide +kernel
theorem dX7_isWord_53 : decode cX7_isWord 53 = .ok (.lshr, 1) := by decide +kernel
theorem dX7_isWord_54 : decode cX7_isWord 54 = .ok (.ldc2_w 110, 3) := by decide +kernel
theorem dX7_isWord_57 : decode cX7_isWord 57 = .ok (.land, 1) := by decide +kernel
theorem dX7_isWord_58 : decode cX7_isWord 58 = .ok (.l2i, 1) := by decide +kernel
theorem dX7_isWord_59 : decode cX7_isWord 59 = .ok (.if_icmp .ne 7, 3) := by decide +kernel
theorem dX7_isWord_62 : decode cX7_isWord 62 = .ok (.iconst 1, 1) := by decide +kernel
theorem dX7_isWord_63 : decode cX7_isWord 63 = .ok (.goto 4, 3) := by decide +kernel
theorem dX7_isWord_66 : decode cX7_isWord 66 = .ok (.iconst 0, 1) := by decide +kernel
theorem dX7_isWord_67 : decode cX7_isWord 67 = .ok (.istore 5, 2) := by decide +kernel
theorem dX7_isWord_69 : decode cX7_isWord 69 = .ok (.iinc 6 1, 3) := by decide +kernel
theorem dX7_isWord_72 : decode cX7_isWord 72 = .ok (.goto (-51), 3) := by decide +kernel
theorem dX7_isWord_75 : decode cX7_isWord 75 = .ok (.iload 5, 2) := by decide +kernel
theorem dX7_isWord_77 : decode cX7_isWord 77 = .ok (.ireturn, 1) := by decide +kernel
theorem dX7_wordOf_0 : decode cX7_wordOf 0 = .ok (.aload_n 0, 1) := by decide +kernel
theorem dX7_wordOf_1 : decode cX7_wordOf 1 = .ok (.iload_n 1, 1) := by decide +kernel
theorem dX7_wordOf_2 : decode cX7_wordOf 2 = .ok (.ldc2_w 112, 3) := by decide +kernel
theorem dX7_wordOf_5 : decode cX7_wordOf 5 = .ok (.iconst 4, 1) := by decide +kernel
theorem dX7_wordOf_6 : decode cX7_wordOf 6 = .ok (.invokevirtual 114, 3) := by decide +kernel
theorem dX7_wordOf_9 : decode cX7_wordOf 9 = .ok (.ifCond .eq 5, 3) := by decide +kernel
theorem dX7_wordOf_12 : decode cX7_wordOf 12 = .ok (.iconst 1, 1) := by decide +kernel
theorem dX7_wordOf_13 : decode cX7_wordOf 13 = .ok (.ireturn, 1) := by decide +kernel
theorem dX7_wordOf_14 : decode cX7_wordOf 14 = .ok (.aload_n 0, 1) := by decide +kernel
theorem dX7_wordOf_15 : decode cX7_wordOf 15 = .ok (.iload_n 1, 1) := by decide +kernel
theorem dX7_wordOf_16 : decode cX7_wordOf 16 = .ok (.ldc2_w 118, 3) := by decide +kernel
theorem dX7_wordOf_19 : decode cX7_wordOf 19 = .ok (.bipush 6, 2) := by decide +kernel
theorem dX7_wordOf_21 : decode cX7_wordOf 21 = .ok (.invokevirtual 114, 3) := by decide +kernel
theorem dX7_wordOf_24 : decode cX7_wordOf 24 = .ok (.ifCond .eq 5, 3) := by decide +kernel
theorem dX7_wordOf_27 : decode cX7_wordOf 27 = .ok (.iconst 2, 1) := by decide +kernel
theorem dX7_wordOf_28 : decode cX7_wordOf 28 = .ok (.ireturn, 1) := by decide +kernel
theorem dX7_wordOf_29 : decode cX7_wordOf 29 = .ok (.aload_n 0, 1) := by decide +kernel
theorem dX7_wordOf_30 : decode cX7_wordOf 30 = .ok (.iload_n 1, 1) := by decide +kernel
theorem dX7_wordOf_31 : decode cX7_wordOf 31 = .ok (.ldc2_w 120, 3) := by decide +kernel
theorem dX7_wordOf_34 : decode cX7_wordOf 34 = .ok (.iconst 3, 1) := by decide +kernel
theorem dX7_wordOf_35 : decode cX7_wordOf 35 = .ok (.invokevirtual 114, 3) := by decide +kernel
theorem dX7_wordOf_38 : decode cX7_wordOf 38 = .ok (.ifCond .eq 5, 3) := by decide +kernel
theorem dX7_wordOf_41 : decode cX7_wordOf 41 = .ok (.iconst 3, 1) := by decide +kernel
theorem dX7_wordOf_42 : decode cX7_wordOf 42 = .ok (.ireturn, 1) := by decide +kernel
theorem dX7_wordOf_43 : decode cX7_wordOf 43 = .ok (.aload_n 0, 1) := by decide +kernel
theorem dX7_wordOf_44 : decode cX7_wordOf 44 = .ok (.iload_n 1, 1) := by decide +kernel
theorem dX7_wordOf_45 : decode cX7_wordOf 45 = .ok (.ldc2_w 122, 3) := by decide +kernel
theorem dX7_wordOf_48 : decode cX7_wordOf 48 = .ok (.iconst 3, 1) := by decide +kernel
theorem dX7_wordOf_49 : decode cX7_wordOf 49 = .ok (.invokevirtual 114, 3) := by decide +kernel
theorem dX7_wordOf_52 : decode cX7_wordOf 52 = .ok (.ifCond .eq 5, 3) := by decide +kernel
theorem dX7_wordOf_55 : decode cX7_wordOf 55 = .ok (.iconst 4, 1) := by decide +kernel
theorem dX7_wordOf_56 : decode cX7_wordOf 56 = .ok (.ireturn, 1) := by decide +kernel
theorem dX7_wordOf_57 : decode cX7_wordOf 57 = .ok (.aload_n 0, 1) := by decide +kernel
theorem dX7_wordOf_58 : decode cX7_wordOf 58 = .ok (.iload_n 1, 1) := by decide +kernel
theorem dX7_wordOf_59 : decode cX7_wordOf 59 = .ok (.ldc2_w 124, 3) := by decide +kernel
theorem dX7_wordOf_62 : decode cX7_wordOf 62 = .ok (.bipush 6, 2) := by decide +kernel
theorem dX7_wordOf_64 : decode cX7_wordOf 64 = .ok (.invokevirtual 114, 3) := by decide +kernel
theorem dX7_wordOf_67 : decode cX7_wordOf 67 = .ok (.ifCond .eq 5, 3) := by decide +kernel
theorem dX7_wordOf_70 : decode cX7_wordOf 70 = .ok (.iconst 5, 1) := by decide +kernel
theorem dX7_wordOf_71 : decode cX7_wordOf 71 = .ok (.ireturn, 1) := by decide +kernel
theorem dX7_wordOf_72 : decode cX7_wordOf 72 = .ok (.aload_n 0, 1) := by decide +kernel
theorem dX7_wordOf_73 : decode cX7_wordOf 73 = .ok (.iload_n 1, 1) := by decide +kernel
theorem dX7_wordOf_74 : decode cX7_wordOf 74 = .ok (.ldc2_w 126, 3) := by decide +kernel
theorem dX7_wordOf_77 : decode cX7_wordOf 77 = .ok (.iconst 4, 1) := by decide +kernel
theorem dX7_wordOf_78 : decode cX7_wordOf 78 = .ok (.invokevirtual 114, 3) := by decide +kernel
theorem dX7_wordOf_81 : decode cX7_wordOf 81 = .ok (.ifCond .eq 6, 3) := by decide +kernel
theorem dX7_wordOf_84 : decode cX7_wordOf 84 = .ok (.bipush 6, 2) := by decide +kernel
theorem dX7_wordOf_86 : decode cX7_wordOf 86 = .ok (.ireturn, 1) := by decide +kernel
theorem dX7_wordOf_87 : decode cX7_wordOf 87 = .ok (.aload_n 0, 1) := by decide +kernel
theorem dX7_wordOf_88 : decode cX7_wordOf 88 = .ok (.iload_n 1, 1) := by decide +kernel
theorem dX7_wordOf_89 : decode cX7_wordOf 89 = .ok (.ldc2_w 128, 3) := by decide +kernel
theorem dX7_wordOf_92 : decode cX7_wordOf 92 = .ok (.bipush 6, 2) := by decide +kernel
theorem dX7_wordOf_94 : decode cX7_wordOf 94 = .ok (.invokevirtual 114, 3) := by decide +kernel
theorem dX7_wordOf_97 : decode cX7_wordOf 97 = .ok (.ifCond .eq 6, 3) := by decide +kernel
theorem dX7_wordOf_100 : decode cX7_wordOf 100 = .ok (.bipush 7, 2) := by decide +kernel
theorem dX7_wordOf_102 : decode cX7_wordOf 102 = .ok (.ireturn, 1) := by decide +kernel
theorem dX7_wordOf_103 : decode cX7_wordOf 103 = .ok (.aload_n 0, 1) := by decide +kernel
theorem dX7_wordOf_104 : decode cX7_wordOf 104 = .ok (.iload_n 1, 1) := by decide +kernel
theorem dX7_wordOf_105 : decode cX7_wordOf 105 = .ok (.ldc2_w 130, 3) := by decide +kernel
theorem dX7_wordOf_108 : decode cX7_wordOf 108 = .ok (.iconst 5, 1) := by decide +kernel
theorem dX7_wordOf_109 : decode cX7_wordOf 109 = .ok (.invokevirtual 114, 3) := by decide +kernel
theorem dX7_wordOf_112 : decode cX7_wordOf 112 = .ok (.ifCond .eq 6, 3) := by decide +kernel
theorem dX7_wordOf_115 : decode cX7_wordOf 115 = .ok (.bipush 8, 2) := by decide +kernel
theorem dX7_wordOf_117 : decode cX7_wordOf 117 = .ok (.ireturn, 1) := by decide +kernel
theorem dX7_wordOf_118 : decode cX7_wordOf 118 = .ok (.aload_n 0, 1) := by decide +kernel
theorem dX7_wordOf_119 : decode cX7_wordOf 119 = .ok (.iload_n 1, 1) := by decide +kernel
theorem dX7_wordOf_120 : decode cX7_wordOf 120 = .ok (.ldc2_w 132, 3) := by decide +kernel
theorem dX7_wordOf_123 : decode cX7_wordOf 123 = .ok (.bipush 6, 2) := by decide +kernel
theorem dX7_wordOf_125 : decode cX7_wordOf 125 = .ok (.invokevirtual 114, 3) := by decide +kernel
theorem dX7_wordOf_128 : decode cX7_wordOf 128 = .ok (.ifCond .eq 8, 3) := by decide +kernel
theorem dX7_wordOf_131 : decode cX7_wordOf 131 = .ok (.bipush 9, 2) := by decide +kernel
theorem dX7_wordOf_133 : decode cX7_wordOf 133 = .ok (.goto 4, 3) := by decide +kernel
theorem dX7_wordOf_136 : decode cX7_wordOf 136 = .ok (.iconst 0, 1) := by decide +kernel
theorem dX7_wordOf_137 : decode cX7_wordOf 137 = .ok (.ireturn, 1) := by decide +kernel
theorem dX7_readsItem_0 : decode cX7_readsItem 0 = .ok (.aload_n 0, 1) := by decide +kernel
theorem dX7_readsItem_1 : decode cX7_readsItem 1 = .ok (.iconst 0, 1) := by decide +kernel
theorem dX7_readsItem_2 : decode cX7_readsItem 2 = .ok (.putfield 82, 3) := by decide +kernel
theorem dX7_readsItem_5 : decode cX7_readsItem 5 = .ok (.aload_n 0, 1) := by decide +kernel
theorem dX7_readsItem_6 : decode cX7_readsItem 6 = .ok (.sipush (-1001), 3) := by decide +kernel
theorem dX7_readsItem_9 : decode cX7_readsItem 9 = .ok (.putfield 89, 3) := by decide +kernel
theorem dX7_readsItem_12 : decode cX7_readsItem 12 = .ok (.iconst 0, 1) := by decide +kernel
theorem dX7_readsItem_13 : decode cX7_readsItem 13 = .ok (.istore_n 1, 1) := by decide +kernel
theorem dX7_readsItem_14 : decode cX7_readsItem 14 = .ok (.iload_n 1, 1) := by decide +kernel
theorem dX7_readsItem_15 : decode cX7_readsItem 15 = .ok (.bipush 11, 2) := by decide +kernel
theorem dX7_readsItem_17 : decode cX7_readsItem 17 = .ok (.if_icmp .ge 57, 3) := by decide +kernel
theorem dX7_readsItem_20 : decode cX7_readsItem 20 = .ok (.aload_n 0, 1) := by decide +kernel
theorem dX7_readsItem_21 : decode cX7_readsItem 21 = .ok (.getfield 19, 3) := by decide +kernel
theorem dX7_readsItem_24 : decode cX7_readsItem 24 = .ok (.iload_n 1, 1) := by decide +kernel
theorem dX7_readsItem_25 : decode cX7_readsItem 25 = .ok (.iload_n 1, 1) := by decide +kernel
theorem dX7_readsItem_26 : decode cX7_readsItem 26 = .ok (.iconst 2, 1) := by decide +kernel
theorem dX7_readsItem_27 : decode cX7_readsItem 27 = .ok (.if_icmp .ne 7, 3) := by decide +kernel
theorem dX7_readsItem_30 : decode cX7_readsItem 30 = .ok (.iconst 1, 1) := by decide +kernel
theorem dX7_readsItem_31 : decode cX7_readsItem 31 = .ok (.goto 36, 3) := by decide +kernel
theorem dX7_readsItem_34 : decode cX7_readsItem 34 = .ok (.iload_n 1, 1) := by decide +kernel
theorem dX7_readsItem_35 : decode cX7_readsItem 35 = .ok (.iconst 4, 1) := by decide +kernel
theorem dX7_readsItem_36 : decode cX7_readsItem 36 = .ok (.if_icmp .ne 9, 3) := by decide +kernel
theorem dX7_readsItem_39 : decode cX7_readsItem 39 = .ok (.sipush 400, 3) := by decide +kernel
theorem dX7_readsItem_42 : decode cX7_readsItem 42 = .ok (.goto 25, 3) := by decide +kernel
theorem dX7_readsItem_45 : decode cX7_readsItem 45 = .ok (.iload_n 1, 1) := by decide +kernel
theorem dX7_readsItem_46 : decode cX7_readsItem 46 = .ok (.bipush 7, 2) := by decide +kernel
theorem dX7_readsItem_48 : decode cX7_readsItem 48 = .ok (.if_icmp .ne 8, 3) := by decide +kernel
theorem dX7_readsItem_51 : decode cX7_readsItem 51 = .ok (.bipush 10, 2) := by decide +kernel
theorem dX7_readsItem_53 : decode cX7_readsItem 53 = .ok (.goto 14, 3) := by decide +kernel
theorem dX7_readsItem_56 : decode cX7_readsItem 56 = .ok (.iload_n 1, 1) := by decide +kernel
theorem dX7_readsItem_57 : decode cX7_readsItem 57 = .ok (.bipush 9, 2) := by decide +kernel
theorem dX7_readsItem_59 : decode cX7_readsItem 59 = .ok (.if_icmp .ne 7, 3) := by decide +kernel
theorem dX7_readsItem_62 : decode cX7_readsItem 62 = .ok (.iconst 4, 1) := by decide +kernel
theorem dX7_readsItem_63 : decode cX7_readsItem 63 = .ok (.goto 4, 3) := by decide +kernel
theorem dX7_readsItem_66 : decode cX7_readsItem 66 = .ok (.iconst 0, 1) := by decide +kernel
theorem dX7_readsItem_67 : decode cX7_readsItem 67 = .ok (.iastore, 1) := by decide +kernel
theorem dX7_readsItem_68 : decode cX7_readsItem 68 = .ok (.iinc 1 1, 3) := by decide +kernel
theorem dX7_readsItem_71 : decode cX7_readsItem 71 = .ok (.goto (-57), 3) := by decide +kernel
theorem dX7_readsItem_74 : decode cX7_readsItem 74 = .ok (.aload_n 0, 1) := by decide +kernel
theorem dX7_readsItem_75 : decode cX7_readsItem 75 = .ok (.invokevirtual 107, 3) := by decide +kernel
theorem dX7_readsItem_78 : decode cX7_readsItem 78 = .ok (.aload_n 0, 1) := by decide +kernel
theorem dX7_readsItem_79 : decode cX7_readsItem 79 = .ok (.iconst 0, 1) := by decide +kernel
theorem dX7_readsItem_80 : decode cX7_readsItem 80 = .ok (.invokevirtual 134, 3) := by decide +kernel
theorem dX7_readsItem_83 : decode cX7_readsItem 83 = .ok (.iconst 0, 1) := by decide +kernel
theorem dX7_readsItem_84 : decode cX7_readsItem 84 = .ok (.istore_n 1, 1) := by decide +kernel
theorem dX7_readsItem_85 : decode cX7_readsItem 85 = .ok (.aload_n 0, 1) := by decide +kernel
theorem dX7_readsItem_86 : decode cX7_readsItem 86 = .ok (.getfield 89, 3) := by decide +kernel
theorem dX7_readsItem_89 : decode cX7_readsItem 89 = .ok (.sipush (-1001), 3) := by decide +kernel
theorem dX7_readsItem_92 : decode cX7_readsItem 92 = .ok (.if_icmp .ne 91, 3) := by decide +kernel
theorem dX7_readsItem_95 : decode cX7_readsItem 95 = .ok (.aload_n 0, 1) := by decide +kernel
theorem dX7_readsItem_96 : decode cX7_readsItem 96 = .ok (.getfield 82, 3) := by decide +kernel
theorem dX7_readsItem_99 : decode cX7_readsItem 99 = .ok (.aload_n 0, 1) := by decide +kernel
theorem dX7_readsItem_100 : decode cX7_readsItem 100 = .ok (.getfield 79, 3) := by decide +kernel
theorem dX7_readsItem_103 : decode cX7_readsItem 103 = .ok (.if_icmp .ge 80, 3) := by decide +kernel
theorem dX7_readsItem_106 : decode cX7_readsItem 106 = .ok (.aload_n 0, 1) := by decide +kernel
theorem dX7_readsItem_107 : decode cX7_readsItem 107 = .ok (.getfield 82, 3) := by decide +kernel
theorem dX7_readsItem_110 : decode cX7_readsItem 110 = .ok (.istore_n 2, 1) := by decide +kernel
theorem dX7_readsItem_111 : decode cX7_readsItem 111 = .ok (.aload_n 0, 1) := by decide +kernel
theorem dX7_readsItem_112 : decode cX7_readsItem 112 = .ok (.invokevirtual 85, 3) := by decide +kernel
theorem dX7_readsItem_115 : decode cX7_readsItem 115 = .ok (.bipush 97, 2) := by decide +kernel
theorem dX7_readsItem_117 : decode cX7_readsItem 117 = .ok (.bipush 122, 2) := by decide +kernel
theorem dX7_readsItem_119 : decode cX7_readsItem 119 = .ok (.invokestatic 75, 3) := by decide +kernel
theorem dX7_readsItem_122 : decode cX7_readsItem 122 = .ok (.ifCond .eq 16, 3) := by decide +kernel
theorem dX7_readsItem_125 : decode cX7_readsItem 125 = .ok (.aload_n 0, 1) := by decide +kernel
theorem dX7_readsItem_126 : decode cX7_readsItem 126 = .ok (.dup, 1) := by decide +kernel
theorem dX7_readsItem_127 : decode cX7_readsItem 127 = .ok (.getfield 82, 3) := by decide +kernel
theorem dX7_readsItem_130 : decode cX7_readsItem 130 = .ok (.iconst 1, 1) := by decide +kernel
theorem dX7_readsItem_131 : decode cX7_readsItem 131 = .ok (.iadd, 1) := by decide +kernel
theorem dX7_readsItem_132 : decode cX7_readsItem 132 = .ok (.putfield 82, 3) := by decide +kernel
theorem dX7_readsItem_135 : decode cX7_readsItem 135 = .ok (.goto (-24), 3) := by decide +kernel
theorem dX7_readsItem_138 : decode cX7_readsItem 138 = .ok (.aload_n 0, 1) := by decide +kernel
theorem dX7_readsItem_139 : decode cX7_readsItem 139 = .ok (.iload_n 2, 1) := by decide +kernel
theorem dX7_readsItem_140 : decode cX7_readsItem 140 = .ok (.invokevirtual 137, 3) := by decide +kernel
theorem dX7_readsItem_143 : decode cX7_readsItem 143 = .ok (.istore_n 3, 1) := by decide +kernel
theorem dX7_readsItem_144 : decode cX7_readsItem 144 = .ok (.iload_n 3, 1) := by decide +kernel
theorem dX7_readsItem_145 : decode cX7_readsItem 145 = .ok (.ifCond .eq 12, 3) := by decide +kernel
theorem dX7_readsItem_148 : decode cX7_readsItem 148 = .ok (.iload_n 1, 1) := by decide +kernel
theorem dX7_readsItem_149 : decode cX7_readsItem 149 = .ok (.iload_n 3, 1) := by decide +kernel
theorem dX7_readsItem_150 : decode cX7_readsItem 150 = .ok (.ishr, 1) := by decide +kernel
theorem dX7_readsItem_151 : decode cX7_readsItem 151 = .ok (.iconst 1, 1) := by decide +kernel
theorem dX7_readsItem_152 : decode cX7_readsItem 152 = .ok (.iand, 1) := by decide +kernel
theorem dX7_readsItem_153 : decode cX7_readsItem 153 = .ok (.iconst 1, 1) := by decide +kernel
theorem dX7_readsItem_154 : decode cX7_readsItem 154 = .ok (.if_icmp .ne 11, 3) := by decide +kernel
theorem dX7_readsItem_157 : decode cX7_readsItem 157 = .ok (.aload_n 0, 1) := by decide +kernel
theorem dX7_readsItem_158 : decode cX7_readsItem 158 = .ok (.iload_n 2, 1) := by decide +kernel
theorem dX7_readsItem_159 : decode cX7_readsItem 159 = .ok (.invokevirtual 96, 3) := by decide +kernel
theorem dX7_readsItem_162 : decode cX7_readsItem 162 = .ok (.goto 18, 3) := by decide +kernel
theorem dX7_readsItem_165 : decode cX7_readsItem 165 = .ok (.iload_n 1, 1) := by decide +kernel
theorem dX7_readsItem_166 : decode cX7_readsItem 166 = .ok (.iconst 1, 1) := by decide +kernel
theorem dX7_readsItem_167 : decode cX7_readsItem 167 = .ok (.iload_n 3, 1) := by decide +kernel
theorem dX7_readsItem_168 : decode cX7_readsItem 168 = .ok (.ishl, 1) := by decide +kernel
theorem dX7_readsItem_169 : decode cX7_readsItem 169 = .ok (.ior, 1) := by decide +kernel
theorem dX7_readsItem_170 : decode cX7_readsItem 170 = .ok (.istore_n 1, 1) := by decide +kernel
theorem dX7_readsItem_171 : decode cX7_readsItem 171 = .ok (.aload_n 0, 1) := by decide +kernel
theorem dX7_readsItem_172 : decode cX7_readsItem 172 = .ok (.invokevirtual 107, 3) := by decide +kernel
theorem dX7_readsItem_175 : decode cX7_readsItem 175 = .ok (.aload_n 0, 1) := by decide +kernel
theorem dX7_readsItem_176 : decode cX7_readsItem 176 = .ok (.iload_n 3, 1) := by decide +kernel
theorem dX7_readsItem_177 : decode cX7_readsItem 177 = .ok (.invokevirtual 134, 3) := by decide +kernel
theorem dX7_readsItem_180 : decode cX7_readsItem 180 = .ok (.goto (-95), 3) := by decide +kernel
theorem dX7_readsItem_183 : decode cX7_readsItem 183 = .ok (.return_, 1) := by decide +kernel
theorem dX7_isItem_0 : decode cX7_isItem 0 = .ok (.iload_n 1, 1) := by decide +kernel
theorem dX7_isItem_1 : decode cX7_isItem 1 = .ok (.iconst 0, 1) := by decide +kernel
theorem dX7_isItem_2 : decode cX7_isItem 2 = .ok (.aload_n 0, 1) := by decide +kernel
theorem dX7_isItem_3 : decode cX7_isItem 3 = .ok (.getfield 7, 3) := by decide +kernel
theorem dX7_isItem_6 : decode cX7_isItem 6 = .ok (.sipush 176, 3) := by decide +kernel
theorem dX7_isItem_9 : decode cX7_isItem 9 = .ok (.iaload, 1) := by decide +kernel
theorem dX7_isItem_10 : decode cX7_isItem 10 = .ok (.iconst 1, 1) := by decide +kernel
theorem dX7_isItem_11 : decode cX7_isItem 11 = .ok (.isub, 1) := by decide +kernel
theorem dX7_isItem_12 : decode cX7_isItem 12 = .ok (.invokestatic 75, 3) := by decide +kernel
theorem dX7_isItem_15 : decode cX7_isItem 15 = .ok (.ireturn, 1) := by decide +kernel
theorem dX7_of_0 : decode cX7_of 0 = .ok (.aload_n 0, 1) := by decide +kernel
theorem dX7_of_1 : decode cX7_of 1 = .ok (.getfield 7, 3) := by decide +kernel
theorem dX7_of_4 : decode cX7_of 4 = .ok (.bipush 11, 2) := by decide +kernel
theorem dX7_of_6 : decode cX7_of 6 = .ok (.iload_n 1, 1) := by decide +kernel
theorem dX7_of_7 : decode cX7_of 7 = .ok (.imul, 1) := by decide +kernel
theorem dX7_of_8 : decode cX7_of 8 = .ok (.iload_n 2, 1) := by decide +kernel
theorem dX7_of_9 : decode cX7_of 9 = .ok (.iadd, 1) := by decide +kernel
theorem dX7_of_10 : decode cX7_of 10 = .ok (.iaload, 1) := by decide +kernel
theorem dX7_of_11 : decode cX7_of 11 = .ok (.ireturn, 1) := by decide +kernel
theorem dX7_copies_0 : decode cX7_copies 0 = .ok (.iconst 0, 1) := by decide +kernel
theorem dX7_copies_1 : decode cX7_copies 1 = .ok (.istore_n 3, 1) := by decide +kernel
theorem dX7_copies_2 : decode cX7_copies 2 = .ok (.iload_n 3, 1) := by decide +kernel
theorem dX7_copies_3 : decode cX7_copies 3 = .ok (.bipush 11, 2) := by decide +kernel
theorem dX7_copies_5 : decode cX7_copies 5 = .ok (.if_icmp .ge 31, 3) := by decide +kernel
theorem dX7_copies_8 : decode cX7_copies 8 = .ok (.aload_n 0, 1) := by decide +kernel
theorem dX7_copies_9 : decode cX7_copies 9 = .ok (.getfield 7, 3) := by decide +kernel
theorem dX7_copies_12 : decode cX7_copies 12 = .ok (.bipush 11, 2) := by decide +kernel
theorem dX7_copies_14 : decode cX7_copies 14 = .ok (.iload_n 2, 1) := by decide +kernel
theorem dX7_copies_15 : decode cX7_copies 15 = .ok (.imul, 1) := by decide +kernel
theorem dX7_copies_16 : decode cX7_copies 16 = .ok (.iload_n 3, 1) := by decide +kernel
theorem dX7_copies_17 : decode cX7_copies 17 = .ok (.iadd, 1) := by decide +kernel
theorem dX7_copies_18 : decode cX7_copies 18 = .ok (.aload_n 0, 1) := by decide +kernel
theorem dX7_copies_19 : decode cX7_copies 19 = .ok (.getfield 7, 3) := by decide +kernel
theorem dX7_copies_22 : decode cX7_copies 22 = .ok (.bipush 11, 2) := by decide +kernel
theorem dX7_copies_24 : decode cX7_copies 24 = .ok (.iload_n 1, 1) := by decide +kernel
theorem dX7_copies_25 : decode cX7_copies 25 = .ok (.imul, 1) := by decide +kernel
theorem dX7_copies_26 : decode cX7_copies 26 = .ok (.iload_n 3, 1) := by decide +kernel
theorem dX7_copies_27 : decode cX7_copies 27 = .ok (.iadd, 1) := by decide +kernel
theorem dX7_copies_28 : decode cX7_copies 28 = .ok (.iaload, 1) := by decide +kernel
theorem dX7_copies_29 : decode cX7_copies 29 = .ok (.iastore, 1) := by decide +kernel
theorem dX7_copies_30 : decode cX7_copies 30 = .ok (.iinc 3 1, 3) := by decide +kernel
theorem dX7_copies_33 : decode cX7_copies 33 = .ok (.goto (-31), 3) := by decide +kernel
theorem dX7_copies_36 : decode cX7_copies 36 = .ok (.return_, 1) := by decide +kernel
theorem dX7_lays_0 : decode cX7_lays 0 = .ok (.iconst 0, 1) := by decide +kernel
theorem dX7_lays_1 : decode cX7_lays 1 = .ok (.istore_n 2, 1) := by decide +kernel
theorem dX7_lays_2 : decode cX7_lays 2 = .ok (.iload_n 2, 1) := by decide +kernel
theorem dX7_lays_3 : decode cX7_lays 3 = .ok (.bipush 11, 2) := by decide +kernel
theorem dX7_lays_5 : decode cX7_lays 5 = .ok (.if_icmp .ge 26, 3) := by decide +kernel
theorem dX7_lays_8 : decode cX7_lays 8 = .ok (.aload_n 0, 1) := by decide +kernel
theorem dX7_lays_9 : decode cX7_lays 9 = .ok (.getfield 7, 3) := by decide +kernel
theorem dX7_lays_12 : decode cX7_lays 12 = .ok (.bipush 11, 2) := by decide +kernel
theorem dX7_lays_14 : decode cX7_lays 14 = .ok (.iload_n 1, 1) := by decide +kernel
theorem dX7_lays_15 : decode cX7_lays 15 = .ok (.imul, 1) := by decide +kernel
theorem dX7_lays_16 : decode cX7_lays 16 = .ok (.iload_n 2, 1) := by decide +kernel
theorem dX7_lays_17 : decode cX7_lays 17 = .ok (.iadd, 1) := by decide +kernel
theorem dX7_lays_18 : decode cX7_lays 18 = .ok (.aload_n 0, 1) := by decide +kernel
theorem dX7_lays_19 : decode cX7_lays 19 = .ok (.getfield 19, 3) := by decide +kernel
theorem dX7_lays_22 : decode cX7_lays 22 = .ok (.iload_n 2, 1) := by decide +kernel
theorem dX7_lays_23 : decode cX7_lays 23 = .ok (.iaload, 1) := by decide +kernel
theorem dX7_lays_24 : decode cX7_lays 24 = .ok (.iastore, 1) := by decide +kernel
theorem dX7_lays_25 : decode cX7_lays 25 = .ok (.iinc 2 1, 3) := by decide +kernel
theorem dX7_lays_28 : decode cX7_lays 28 = .ok (.goto (-26), 3) := by decide +kernel
theorem dX7_lays_31 : decode cX7_lays 31 = .ok (.return_, 1) := by decide +kernel
theorem dX7_insert_0 : decode cX7_insert 0 = .ok (.iload_n 1, 1) := by decide +kernel
theorem dX7_insert_1 : decode cX7_insert 1 = .ok (.iconst 0, 1) := by decide +kernel
theorem dX7_insert_2 : decode cX7_insert 2 = .ok (.aload_n 0, 1) := by decide +kernel
theorem dX7_insert_3 : decode cX7_insert 3 = .ok (.getfield 7, 3) := by decide +kernel
theorem dX7_insert_6 : decode cX7_insert 6 = .ok (.sipush 176, 3) := by decide +kernel
theorem dX7_insert_9 : decode cX7_insert 9 = .ok (.iaload, 1) := by decide +kernel
theorem dX7_insert_10 : decode cX7_insert 10 = .ok (.invokestatic 75, 3) := by decide +kernel
theorem dX7_insert_13 : decode cX7_insert 13 = .ok (.ifCond .ne 7, 3) := by decide +kernel
theorem dX7_insert_16 : decode cX7_insert 16 = .ok (.sipush (-1002), 3) := by decide +kernel
theorem dX7_insert_19 : decode cX7_insert 19 = .ok (.ireturn, 1) := by decide +kernel
theorem dX7_insert_20 : decode cX7_insert 20 = .ok (.aload_n 0, 1) := by decide +kernel
theorem dX7_insert_21 : decode cX7_insert 21 = .ok (.invokevirtual 140, 3) := by decide +kernel
theorem dX7_insert_24 : decode cX7_insert 24 = .ok (.aload_n 0, 1) := by decide +kernel
theorem dX7_insert_25 : decode cX7_insert 25 = .ok (.getfield 89, 3) := by decide +kernel
theorem dX7_insert_28 : decode cX7_insert 28 = .ok (.sipush (-1001), 3) := by decide +kernel
theorem dX7_insert_31 : decode cX7_insert 31 = .ok (.if_icmp .eq 12, 3) := by decide +kernel
theorem dX7_insert_34 : decode cX7_insert 34 = .ok (.sipush (-2000), 3) := by decide +kernel
theorem dX7_insert_37 : decode cX7_insert 37 = .ok (.aload_n 0, 1) := by decide +kernel
theorem dX7_insert_38 : decode cX7_insert 38 = .ok (.getfield 89, 3) := by decide +kernel
theorem dX7_insert_41 : decode cX7_insert 41 = .ok (.isub, 1) := by decide +kernel
theorem dX7_insert_42 : decode cX7_insert 42 = .ok (.ireturn, 1) := by decide +kernel
theorem dX7_insert_43 : decode cX7_insert 43 = .ok (.aload_n 0, 1) := by decide +kernel
theorem dX7_insert_44 : decode cX7_insert 44 = .ok (.getfield 7, 3) := by decide +kernel
theorem dX7_insert_47 : decode cX7_insert 47 = .ok (.sipush 176, 3) := by decide +kernel
theorem dX7_insert_50 : decode cX7_insert 50 = .ok (.iaload, 1) := by decide +kernel
theorem dX7_insert_51 : decode cX7_insert 51 = .ok (.bipush 16, 2) := by decide +kernel
theorem dX7_insert_53 : decode cX7_insert 53 = .ok (.if_icmp .ne 7, 3) := by decide +kernel
theorem dX7_insert_56 : decode cX7_insert 56 = .ok (.sipush (-1004), 3) := by decide +kernel
theorem dX7_insert_59 : decode cX7_insert 59 = .ok (.ireturn, 1) := by decide +kernel
theorem dX7_insert_60 : decode cX7_insert 60 = .ok (.aload_n 0, 1) := by decide +kernel
theorem dX7_insert_61 : decode cX7_insert 61 = .ok (.invokevirtual 143, 3) := by decide +kernel
theorem dX7_insert_64 : decode cX7_insert 64 = .ok (.aload_n 0, 1) := by decide +kernel
theorem dX7_insert_65 : decode cX7_insert 65 = .ok (.getfield 7, 3) := by decide +kernel
theorem dX7_insert_68 : decode cX7_insert 68 = .ok (.sipush 176, 3) := by decide +kernel
theorem dX7_insert_71 : decode cX7_insert 71 = .ok (.iaload, 1) := by decide +kernel
theorem dX7_insert_72 : decode cX7_insert 72 = .ok (.istore_n 2, 1) := by decide +kernel
theorem dX7_insert_73 : decode cX7_insert 73 = .ok (.iload_n 2, 1) := by decide +kernel
theorem dX7_insert_74 : decode cX7_insert 74 = .ok (.iload_n 1, 1) := by decide +kernel
theorem dX7_insert_75 : decode cX7_insert 75 = .ok (.if_icmp .le 17, 3) := by decide +kernel
theorem dX7_insert_78 : decode cX7_insert 78 = .ok (.aload_n 0, 1) := by decide +kernel
theorem dX7_insert_79 : decode cX7_insert 79 = .ok (.iload_n 2, 1) := by decide +kernel
theorem dX7_insert_80 : decode cX7_insert 80 = .ok (.iconst 1, 1) := by decide +kernel
theorem dX7_insert_81 : decode cX7_insert 81 = .ok (.isub, 1) := by decide +kernel
theorem dX7_insert_82 : decode cX7_insert 82 = .ok (.iload_n 2, 1) := by decide +kernel
theorem dX7_insert_83 : decode cX7_insert 83 = .ok (.invokevirtual 146, 3) := by decide +kernel
theorem dX7_insert_86 : decode cX7_insert 86 = .ok (.iinc 2 (-1), 3) := by decide +kernel
theorem dX7_insert_89 : decode cX7_insert 89 = .ok (.goto (-16), 3) := by decide +kernel
theorem dX7_insert_92 : decode cX7_insert 92 = .ok (.aload_n 0, 1) := by decide +kernel
theorem dX7_insert_93 : decode cX7_insert 93 = .ok (.iload_n 1, 1) := by decide +kernel
theorem dX7_insert_94 : decode cX7_insert 94 = .ok (.invokevirtual 150, 3) := by decide +kernel
theorem dX7_insert_97 : decode cX7_insert 97 = .ok (.aload_n 0, 1) := by decide +kernel
theorem dX7_insert_98 : decode cX7_insert 98 = .ok (.getfield 7, 3) := by decide +kernel
theorem dX7_insert_101 : decode cX7_insert 101 = .ok (.sipush 176, 3) := by decide +kernel
theorem dX7_insert_104 : decode cX7_insert 104 = .ok (.dup2, 1) := by decide +kernel
theorem dX7_insert_105 : decode cX7_insert 105 = .ok (.iaload, 1) := by decide +kernel
theorem dX7_insert_106 : decode cX7_insert 106 = .ok (.iconst 1, 1) := by decide +kernel
theorem dX7_insert_107 : decode cX7_insert 107 = .ok (.iadd, 1) := by decide +kernel
theorem dX7_insert_108 : decode cX7_insert 108 = .ok (.iastore, 1) := by decide +kernel
theorem dX7_insert_109 : decode cX7_insert 109 = .ok (.aload_n 0, 1) := by decide +kernel
theorem dX7_insert_110 : decode cX7_insert 110 = .ok (.getfield 7, 3) := by decide +kernel
theorem dX7_insert_113 : decode cX7_insert 113 = .ok (.sipush 176, 3) := by decide +kernel
theorem dX7_insert_116 : decode cX7_insert 116 = .ok (.iaload, 1) := by decide +kernel
theorem dX7_insert_117 : decode cX7_insert 117 = .ok (.ireturn, 1) := by decide +kernel
theorem dX7_remove_0 : decode cX7_remove 0 = .ok (.aload_n 0, 1) := by decide +kernel
theorem dX7_remove_1 : decode cX7_remove 1 = .ok (.iload_n 1, 1) := by decide +kernel
theorem dX7_remove_2 : decode cX7_remove 2 = .ok (.invokevirtual 153, 3) := by decide +kernel
theorem dX7_remove_5 : decode cX7_remove 5 = .ok (.ifCond .ne 7, 3) := by decide +kernel
theorem dX7_remove_8 : decode cX7_remove 8 = .ok (.sipush (-1002), 3) := by decide +kernel
theorem dX7_remove_11 : decode cX7_remove 11 = .ok (.ireturn, 1) := by decide +kernel
theorem dX7_remove_12 : decode cX7_remove 12 = .ok (.aload_n 0, 1) := by decide +kernel
theorem dX7_remove_13 : decode cX7_remove 13 = .ok (.invokevirtual 143, 3) := by decide +kernel
theorem dX7_remove_16 : decode cX7_remove 16 = .ok (.aload_n 0, 1) := by decide +kernel
theorem dX7_remove_17 : decode cX7_remove 17 = .ok (.getfield 7, 3) := by decide +kernel
theorem dX7_remove_20 : decode cX7_remove 20 = .ok (.sipush 176, 3) := by decide +kernel
theorem dX7_remove_23 : decode cX7_remove 23 = .ok (.dup2, 1) := by decide +kernel
theorem dX7_remove_24 : decode cX7_remove 24 = .ok (.iaload, 1) := by decide +kernel
theorem dX7_remove_25 : decode cX7_remove 25 = .ok (.iconst 1, 1) := by decide +kernel
theorem dX7_remove_26 : decode cX7_remove 26 = .ok (.isub, 1) := by decide +kernel
theorem dX7_remove_27 : decode cX7_remove 27 = .ok (.iastore, 1) := by decide +kernel
theorem dX7_remove_28 : decode cX7_remove 28 = .ok (.iload_n 1, 1) := by decide +kernel
theorem dX7_remove_29 : decode cX7_remove 29 = .ok (.istore_n 2, 1) := by decide +kernel
theorem dX7_remove_30 : decode cX7_remove 30 = .ok (.iload_n 2, 1) := by decide +kernel
theorem dX7_remove_31 : decode cX7_remove 31 = .ok (.aload_n 0, 1) := by decide +kernel
theorem dX7_remove_32 : decode cX7_remove 32 = .ok (.getfield 7, 3) := by decide +kernel
theorem dX7_remove_35 : decode cX7_remove 35 = .ok (.sipush 176, 3) := by decide +kernel
theorem dX7_remove_38 : decode cX7_remove 38 = .ok (.iaload, 1) := by decide +kernel
theorem dX7_remove_39 : decode cX7_remove 39 = .ok (.if_icmp .ge 17, 3) := by decide +kernel
theorem dX7_remove_42 : decode cX7_remove 42 = .ok (.aload_n 0, 1) := by decide +kernel
theorem dX7_remove_43 : decode cX7_remove 43 = .ok (.iload_n 2, 1) := by decide +kernel
theorem dX7_remove_44 : decode cX7_remove 44 = .ok (.iconst 1, 1) := by decide +kernel
theorem dX7_remove_45 : decode cX7_remove 45 = .ok (.iadd, 1) := by decide +kernel
theorem dX7_remove_46 : decode cX7_remove 46 = .ok (.iload_n 2, 1) := by decide +kernel
theorem dX7_remove_47 : decode cX7_remove 47 = .ok (.invokevirtual 146, 3) := by decide +kernel
theorem dX7_remove_50 : decode cX7_remove 50 = .ok (.iinc 2 1, 3) := by decide +kernel
theorem dX7_remove_53 : decode cX7_remove 53 = .ok (.goto (-23), 3) := by decide +kernel
theorem dX7_remove_56 : decode cX7_remove 56 = .ok (.aload_n 0, 1) := by decide +kernel
theorem dX7_remove_57 : decode cX7_remove 57 = .ok (.getfield 7, 3) := by decide +kernel
theorem dX7_remove_60 : decode cX7_remove 60 = .ok (.sipush 176, 3) := by decide +kernel
theorem dX7_remove_63 : decode cX7_remove 63 = .ok (.iaload, 1) := by decide +kernel
theorem dX7_remove_64 : decode cX7_remove 64 = .ok (.ireturn, 1) := by decide +kernel
theorem dX7_move_0 : decode cX7_move 0 = .ok (.aload_n 0, 1) := by decide +kernel
theorem dX7_move_1 : decode cX7_move 1 = .ok (.iload_n 1, 1) := by decide +kernel
theorem dX7_move_2 : decode cX7_move 2 = .ok (.invokevirtual 153, 3) := by decide +kernel
theorem dX7_move_5 : decode cX7_move 5 = .ok (.ifCond .eq 11, 3) := by decide +kernel
theorem dX7_move_8 : decode cX7_move 8 = .ok (.aload_n 0, 1) := by decide +kernel
theorem dX7_move_9 : decode cX7_move 9 = .ok (.iload_n 2, 1) := by decide +kernel
theorem dX7_move_10 : decode cX7_move 10 = .ok (.invokevirtual 153, 3) := by decide +kernel
theorem dX7_move_13 : decode cX7_move 13 = .ok (.ifCond .ne 7, 3) := by decide +kernel
theorem dX7_move_16 : decode cX7_move 16 = .ok (.sipush (-1002), 3) := by decide +kernel
theorem dX7_move_19 : decode cX7_move 19 = .ok (.ireturn, 1) := by decide +kernel
theorem dX7_move_20 : decode cX7_move 20 = .ok (.aload_n 0, 1) := by decide +kernel
theorem dX7_move_21 : decode cX7_move 21 = .ok (.invokevirtual 143, 3) := by decide +kernel
theorem dX7_move_24 : decode cX7_move 24 = .ok (.iconst 0, 1) := by decide +kernel
theorem dX7_move_25 : decode cX7_move 25 = .ok (.istore_n 3, 1) := by decide +kernel
theorem dX7_move_26 : decode cX7_move 26 = .ok (.iload_n 3, 1) := by decide +kernel
theorem dX7_move_27 : decode cX7_move 27 = .ok (.bipush 11, 2) := by decide +kernel
theorem dX7_move_29 : decode cX7_move 29 = .ok (.if_icmp .ge 21, 3) := by decide +kernel
theorem dX7_move_32 : decode cX7_move 32 = .ok (.aload_n 0, 1) := by decide +kernel
theorem dX7_move_33 : decode cX7_move 33 = .ok (.getfield 19, 3) := by decide +kernel
theorem dX7_move_36 : decode cX7_move 36 = .ok (.iload_n 3, 1) := by decide +kernel
theorem dX7_move_37 : decode cX7_move 37 = .ok (.aload_n 0, 1) := by decide +kernel
theorem dX7_move_38 : decode cX7_move 38 = .ok (.iload_n 1, 1) := by decide +kernel
theorem dX7_move_39 : decode cX7_move 39 = .ok (.iload_n 3, 1) := by decide +kernel
theorem dX7_move_40 : decode cX7_move 40 = .ok (.invokevirtual 157, 3) := by decide +kernel
theorem dX7_move_43 : decode cX7_move 43 = .ok (.iastore, 1) := by decide +kernel
theorem dX7_move_44 : decode cX7_move 44 = .ok (.iinc 3 1, 3) := by decide +kernel
theorem dX7_move_47 : decode cX7_move 47 = .ok (.goto (-21), 3) := by decide +kernel
theorem dX7_move_50 : decode cX7_move 50 = .ok (.iload_n 1, 1) := by decide +kernel
theorem dX7_move_51 : decode cX7_move 51 = .ok (.istore_n 3, 1) := by decide +kernel
theorem dX7_move_52 : decode cX7_move 52 = .ok (.iload_n 3, 1) := by decide +kernel
theorem dX7_move_53 : decode cX7_move 53 = .ok (.iload_n 2, 1) := by decide +kernel
theorem dX7_move_54 : decode cX7_move 54 = .ok (.if_icmp .le 17, 3) := by decide +kernel
theorem dX7_move_57 : decode cX7_move 57 = .ok (.aload_n 0, 1) := by decide +kernel
theorem dX7_move_58 : decode cX7_move 58 = .ok (.iload_n 3, 1) := by decide +kernel
theorem dX7_move_59 : decode cX7_move 59 = .ok (.iconst 1, 1) := by decide +kernel
theorem dX7_move_60 : decode cX7_move 60 = .ok (.isub, 1) := by decide +kernel
theorem dX7_move_61 : decode cX7_move 61 = .ok (.iload_n 3, 1) := by decide +kernel
theorem dX7_move_62 : decode cX7_move 62 = .ok (.invokevirtual 146, 3) := by decide +kernel
theorem dX7_move_65 : decode cX7_move 65 = .ok (.iinc 3 (-1), 3) := by decide +kernel
theorem dX7_move_68 : decode cX7_move 68 = .ok (.goto (-16), 3) := by decide +kernel
theorem dX7_move_71 : decode cX7_move 71 = .ok (.iload_n 1, 1) := by decide +kernel
theorem dX7_move_72 : decode cX7_move 72 = .ok (.istore_n 3, 1) := by decide +kernel
theorem dX7_move_73 : decode cX7_move 73 = .ok (.iload_n 3, 1) := by decide +kernel
theorem dX7_move_74 : decode cX7_move 74 = .ok (.iload_n 2, 1) := by decide +kernel
theorem dX7_move_75 : decode cX7_move 75 = .ok (.if_icmp .ge 17, 3) := by decide +kernel
theorem dX7_move_78 : decode cX7_move 78 = .ok (.aload_n 0, 1) := by decide +kernel
theorem dX7_move_79 : decode cX7_move 79 = .ok (.iload_n 3, 1) := by decide +kernel
theorem dX7_move_80 : decode cX7_move 80 = .ok (.iconst 1, 1) := by decide +kernel
theorem dX7_move_81 : decode cX7_move 81 = .ok (.iadd, 1) := by decide +kernel
theorem dX7_move_82 : decode cX7_move 82 = .ok (.iload_n 3, 1) := by decide +kernel
theorem dX7_move_83 : decode cX7_move 83 = .ok (.invokevirtual 146, 3) := by decide +kernel
theorem dX7_move_86 : decode cX7_move 86 = .ok (.iinc 3 1, 3) := by decide +kernel
theorem dX7_move_89 : decode cX7_move 89 = .ok (.goto (-16), 3) := by decide +kernel
theorem dX7_move_92 : decode cX7_move 92 = .ok (.aload_n 0, 1) := by decide +kernel
theorem dX7_move_93 : decode cX7_move 93 = .ok (.iload_n 2, 1) := by decide +kernel
theorem dX7_move_94 : decode cX7_move 94 = .ok (.invokevirtual 150, 3) := by decide +kernel
theorem dX7_move_97 : decode cX7_move 97 = .ok (.aload_n 0, 1) := by decide +kernel
theorem dX7_move_98 : decode cX7_move 98 = .ok (.aload_n 0, 1) := by decide +kernel
theorem dX7_move_99 : decode cX7_move 99 = .ok (.getfield 7, 3) := by decide +kernel
theorem dX7_move_102 : decode cX7_move 102 = .ok (.sipush 177, 3) := by decide +kernel
theorem dX7_move_105 : decode cX7_move 105 = .ok (.iaload, 1) := by decide +kernel
theorem dX7_move_106 : decode cX7_move 106 = .ok (.invokevirtual 161, 3) := by decide +kernel
theorem dX7_move_109 : decode cX7_move 109 = .ok (.aload_n 0, 1) := by decide +kernel
theorem dX7_move_110 : decode cX7_move 110 = .ok (.iload_n 2, 1) := by decide +kernel
theorem dX7_move_111 : decode cX7_move 111 = .ok (.invokevirtual 164, 3) := by decide +kernel
theorem dX7_move_114 : decode cX7_move 114 = .ok (.ireturn, 1) := by decide +kernel
theorem dX7_change_0 : decode cX7_change 0 = .ok (.aload_n 0, 1) := by decide +kernel
theorem dX7_change_1 : decode cX7_change 1 = .ok (.iload_n 1, 1) := by decide +kernel
theorem dX7_change_2 : decode cX7_change 2 = .ok (.invokevirtual 153, 3) := by decide +kernel
theorem dX7_change_5 : decode cX7_change 5 = .ok (.ifCond .eq 28, 3) := by decide +kernel
theorem dX7_change_8 : decode cX7_change 8 = .ok (.iload_n 2, 1) := by decide +kernel
theorem dX7_change_9 : decode cX7_change 9 = .ok (.iconst 0, 1) := by decide +kernel
theorem dX7_change_10 : decode cX7_change 10 = .ok (.bipush 9, 2) := by decide +kernel
theorem dX7_change_12 : decode cX7_change 12 = .ok (.invokestatic 75, 3) := by decide +kernel
theorem dX7_change_15 : decode cX7_change 15 = .ok (.ifCond .eq 18, 3) := by decide +kernel
theorem dX7_change_18 : decode cX7_change 18 = .ok (.iload_n 3, 1) := by decide +kernel
theorem dX7_change_19 : decode cX7_change 19 = .ok (.iload_n 2, 1) := by decide +kernel
theorem dX7_change_20 : decode cX7_change 20 = .ok (.invokestatic 100, 3) := by decide +kernel
theorem dX7_change_23 : decode cX7_change 23 = .ok (.iload_n 2, 1) := by decide +kernel
theorem dX7_change_24 : decode cX7_change 24 = .ok (.invokestatic 104, 3) := by decide +kernel
theorem dX7_change_27 : decode cX7_change 27 = .ok (.invokestatic 75, 3) := by decide +kernel
theorem dX7_change_30 : decode cX7_change 30 = .ok (.ifCond .ne 7, 3) := by decide +kernel
theorem dX7_change_33 : decode cX7_change 33 = .ok (.sipush (-1002), 3) := by decide +kernel
theorem dX7_change_36 : decode cX7_change 36 = .ok (.ireturn, 1) := by decide +kernel
theorem dX7_change_37 : decode cX7_change 37 = .ok (.aload_n 0, 1) := by decide +kernel
theorem dX7_change_38 : decode cX7_change 38 = .ok (.invokevirtual 143, 3) := by decide +kernel
theorem dX7_change_41 : decode cX7_change 41 = .ok (.aload_n 0, 1) := by decide +kernel
theorem dX7_change_42 : decode cX7_change 42 = .ok (.iload_n 1, 1) := by decide +kernel
theorem dX7_change_43 : decode cX7_change 43 = .ok (.iload_n 2, 1) := by decide +kernel
theorem dX7_change_44 : decode cX7_change 44 = .ok (.invokevirtual 157, 3) := by decide +kernel
theorem dX7_change_47 : decode cX7_change 47 = .ok (.istore 4, 2) := by decide +kernel
theorem dX7_change_49 : decode cX7_change 49 = .ok (.aload_n 0, 1) := by decide +kernel
theorem dX7_change_50 : decode cX7_change 50 = .ok (.getfield 7, 3) := by decide +kernel
theorem dX7_change_53 : decode cX7_change 53 = .ok (.bipush 11, 2) := by decide +kernel
theorem dX7_change_55 : decode cX7_change 55 = .ok (.iload_n 1, 1) := by decide +kernel
theorem dX7_change_56 : decode cX7_change 56 = .ok (.imul, 1) := by decide +kernel
theorem dX7_change_57 : decode cX7_change 57 = .ok (.iload_n 2, 1) := by decide +kernel
theorem dX7_change_58 : decode cX7_change 58 = .ok (.iadd, 1) := by decide +kernel
theorem dX7_change_59 : decode cX7_change 59 = .ok (.iload_n 3, 1) := by decide +kernel
theorem dX7_change_60 : decode cX7_change 60 = .ok (.iastore, 1) := by decide +kernel
theorem dX7_change_61 : decode cX7_change 61 = .ok (.iload 4, 2) := by decide +kernel
theorem dX7_change_63 : decode cX7_change 63 = .ok (.ireturn, 1) := by decide +kernel
theorem dX7_hide_0 : decode cX7_hide 0 = .ok (.aload_n 0, 1) := by decide +kernel
theorem dX7_hide_1 : decode cX7_hide 1 = .ok (.iload_n 1, 1) := by decide +kernel
theorem dX7_hide_2 : decode cX7_hide 2 = .ok (.invokevirtual 153, 3) := by decide +kernel
theorem dX7_hide_5 : decode cX7_hide 5 = .ok (.ifCond .ne 7, 3) := by decide +kernel
theorem dX7_hide_8 : decode cX7_hide 8 = .ok (.sipush (-1002), 3) := by decide +kernel
theorem dX7_hide_11 : decode cX7_hide 11 = .ok (.ireturn, 1) := by decide +kernel
theorem dX7_hide_12 : decode cX7_hide 12 = .ok (.aload_n 0, 1) := by decide +kernel
theorem dX7_hide_13 : decode cX7_hide 13 = .ok (.invokevirtual 143, 3) := by decide +kernel
theorem dX7_hide_16 : decode cX7_hide 16 = .ok (.aload_n 0, 1) := by decide +kernel
theorem dX7_hide_17 : decode cX7_hide 17 = .ok (.getfield 7, 3) := by decide +kernel
theorem dX7_hide_20 : decode cX7_hide 20 = .ok (.bipush 11, 2) := by decide +kernel
theorem dX7_hide_22 : decode cX7_hide 22 = .ok (.iload_n 1, 1) := by decide +kernel
theorem dX7_hide_23 : decode cX7_hide 23 = .ok (.imul, 1) := by decide +kernel
theorem dX7_hide_24 : decode cX7_hide 24 = .ok (.bipush 10, 2) := by decide +kernel
theorem dX7_hide_26 : decode cX7_hide 26 = .ok (.iadd, 1) := by decide +kernel
theorem dX7_hide_27 : decode cX7_hide 27 = .ok (.iconst 1, 1) := by decide +kernel
theorem dX7_hide_28 : decode cX7_hide 28 = .ok (.aload_n 0, 1) := by decide +kernel
theorem dX7_hide_29 : decode cX7_hide 29 = .ok (.iload_n 1, 1) := by decide +kernel
theorem dX7_hide_30 : decode cX7_hide 30 = .ok (.bipush 10, 2) := by decide +kernel
theorem dX7_hide_32 : decode cX7_hide 32 = .ok (.invokevirtual 157, 3) := by decide +kernel
theorem dX7_hide_35 : decode cX7_hide 35 = .ok (.isub, 1) := by decide +kernel
theorem dX7_hide_36 : decode cX7_hide 36 = .ok (.iastore, 1) := by decide +kernel
theorem dX7_hide_37 : decode cX7_hide 37 = .ok (.aload_n 0, 1) := by decide +kernel
theorem dX7_hide_38 : decode cX7_hide 38 = .ok (.iload_n 1, 1) := by decide +kernel
theorem dX7_hide_39 : decode cX7_hide 39 = .ok (.bipush 10, 2) := by decide +kernel
theorem dX7_hide_41 : decode cX7_hide 41 = .ok (.invokevirtual 157, 3) := by decide +kernel
theorem dX7_hide_44 : decode cX7_hide 44 = .ok (.ireturn, 1) := by decide +kernel
theorem dX7_set_0 : decode cX7_set 0 = .ok (.iload_n 1, 1) := by decide +kernel
theorem dX7_set_1 : decode cX7_set 1 = .ok (.ifCond .ne 9, 3) := by decide +kernel
theorem dX7_set_4 : decode cX7_set 4 = .ok (.sipush 999, 3) := by decide +kernel
theorem dX7_set_7 : decode cX7_set 7 = .ok (.goto 37, 3) := by decide +kernel
theorem dX7_set_10 : decode cX7_set 10 = .ok (.iload_n 1, 1) := by decide +kernel
theorem dX7_set_11 : decode cX7_set 11 = .ok (.iconst 1, 1) := by decide +kernel
theorem dX7_set_12 : decode cX7_set 12 = .ok (.if_icmp .eq 8, 3) := by decide +kernel
theorem dX7_set_15 : decode cX7_set 15 = .ok (.iload_n 1, 1) := by decide +kernel
theorem dX7_set_16 : decode cX7_set 16 = .ok (.iconst 2, 1) := by decide +kernel
theorem dX7_set_17 : decode cX7_set 17 = .ok (.if_icmp .ne 8, 3) := by decide +kernel
theorem dX7_set_20 : decode cX7_set 20 = .ok (.bipush 40, 2) := by decide +kernel
theorem dX7_set_22 : decode cX7_set 22 = .ok (.goto 22, 3) := by decide +kernel
theorem dX7_set_25 : decode cX7_set 25 = .ok (.iload_n 1, 1) := by decide +kernel
theorem dX7_set_26 : decode cX7_set 26 = .ok (.iconst 4, 1) := by decide +kernel
theorem dX7_set_27 : decode cX7_set 27 = .ok (.if_icmp .ne 7, 3) := by decide +kernel
theorem dX7_set_30 : decode cX7_set 30 = .ok (.iconst 5, 1) := by decide +kernel
theorem dX7_set_31 : decode cX7_set 31 = .ok (.goto 13, 3) := by decide +kernel
theorem dX7_set_34 : decode cX7_set 34 = .ok (.iload_n 1, 1) := by decide +kernel
theorem dX7_set_35 : decode cX7_set 35 = .ok (.iconst 5, 1) := by decide +kernel
theorem dX7_set_36 : decode cX7_set 36 = .ok (.if_icmp .ne 7, 3) := by decide +kernel
theorem dX7_set_39 : decode cX7_set 39 = .ok (.iconst 3, 1) := by decide +kernel
theorem dX7_set_40 : decode cX7_set 40 = .ok (.goto 4, 3) := by decide +kernel
theorem dX7_set_43 : decode cX7_set 43 = .ok (.iconst 1, 1) := by decide +kernel
theorem dX7_set_44 : decode cX7_set 44 = .ok (.istore_n 3, 1) := by decide +kernel
theorem dX7_set_45 : decode cX7_set 45 = .ok (.iload_n 1, 1) := by decide +kernel
theorem dX7_set_46 : decode cX7_set 46 = .ok (.iconst 0, 1) := by decide +kernel
theorem dX7_set_47 : decode cX7_set 47 = .ok (.bipush 6, 2) := by decide +kernel
theorem dX7_set_49 : decode cX7_set 49 = .ok (.invokestatic 75, 3) := by decide +kernel
theorem dX7_set_52 : decode cX7_set 52 = .ok (.ifCond .eq 21, 3) := by decide +kernel
theorem dX7_set_55 : decode cX7_set 55 = .ok (.iload_n 2, 1) := by decide +kernel
theorem dX7_set_56 : decode cX7_set 56 = .ok (.iload_n 1, 1) := by decide +kernel
theorem dX7_set_57 : decode cX7_set 57 = .ok (.ifCond .ne 8, 3) := by decide +kernel
theorem dX7_set_60 : decode cX7_set 60 = .ok (.bipush 20, 2) := by decide +kernel
theorem dX7_set_62 : decode cX7_set 62 = .ok (.goto 4, 3) := by decide +kernel
theorem dX7_set_65 : decode cX7_set 65 = .ok (.iconst 0, 1) := by decide +kernel
theorem dX7_set_66 : decode cX7_set 66 = .ok (.iload_n 3, 1) := by decide +kernel
theorem dX7_set_67 : decode cX7_set 67 = .ok (.invokestatic 75, 3) := by decide +kernel
theorem dX7_set_70 : decode cX7_set 70 = .ok (.ifCond .ne 7, 3) := by decide +kernel
theorem dX7_set_73 : decode cX7_set 73 = .ok (.sipush (-1002), 3) := by decide +kernel
theorem dX7_set_76 : decode cX7_set 76 = .ok (.ireturn, 1) := by decide +kernel
theorem dX7_set_77 : decode cX7_set 77 = .ok (.aload_n 0, 1) := by decide +kernel
theorem dX7_set_78 : decode cX7_set 78 = .ok (.invokevirtual 143, 3) := by decide +kernel
theorem dX7_set_81 : decode cX7_set 81 = .ok (.aload_n 0, 1) := by decide +kernel
theorem dX7_set_82 : decode cX7_set 82 = .ok (.getfield 7, 3) := by decide +kernel
theorem dX7_set_85 : decode cX7_set 85 = .ok (.sipush 177, 3) := by decide +kernel
theorem dX7_set_88 : decode cX7_set 88 = .ok (.iload_n 1, 1) := by decide +kernel
theorem dX7_set_89 : decode cX7_set 89 = .ok (.iadd, 1) := by decide +kernel
theorem dX7_set_90 : decode cX7_set 90 = .ok (.iaload, 1) := by decide +kernel
theorem dX7_set_91 : decode cX7_set 91 = .ok (.istore 4, 2) := by decide +kernel
theorem dX7_set_93 : decode cX7_set 93 = .ok (.aload_n 0, 1) := by decide +kernel
theorem dX7_set_94 : decode cX7_set 94 = .ok (.getfield 7, 3) := by decide +kernel
theorem dX7_set_97 : decode cX7_set 97 = .ok (.sipush 177, 3) := by decide +kernel
theorem dX7_set_100 : decode cX7_set 100 = .ok (.iload_n 1, 1) := by decide +kernel
theorem dX7_set_101 : decode cX7_set 101 = .ok (.iadd, 1) := by decide +kernel
theorem dX7_set_102 : decode cX7_set 102 = .ok (.iload_n 2, 1) := by decide +kernel
theorem dX7_set_103 : decode cX7_set 103 = .ok (.iastore, 1) := by decide +kernel
theorem dX7_set_104 : decode cX7_set 104 = .ok (.iload 4, 2) := by decide +kernel
theorem dX7_set_106 : decode cX7_set 106 = .ok (.ireturn, 1) := by decide +kernel
theorem dX7_greatest_0 : decode cX7_greatest 0 = .ok (.aload_n 0, 1) := by decide +kernel
theorem dX7_greatest_1 : decode cX7_greatest 1 = .ok (.iload_n 1, 1) := by decide +kernel
theorem dX7_greatest_2 : decode cX7_greatest 2 = .ok (.iconst 3, 1) := by decide +kernel
theorem dX7_greatest_3 : decode cX7_greatest 3 = .ok (.invokevirtual 157, 3) := by decide +kernel
theorem dX7_greatest_6 : decode cX7_greatest 6 = .ok (.aload_n 0, 1) := by decide +kernel
theorem dX7_greatest_7 : decode cX7_greatest 7 = .ok (.iload_n 1, 1) := by decide +kernel
theorem dX7_greatest_8 : decode cX7_greatest 8 = .ok (.iconst 4, 1) := by decide +kernel
theorem dX7_greatest_9 : decode cX7_greatest 9 = .ok (.invokevirtual 157, 3) := by decide +kernel
theorem dX7_greatest_12 : decode cX7_greatest 12 = .ok (.invokestatic 167, 3) := by decide +kernel
theorem dX7_greatest_15 : decode cX7_greatest 15 = .ok (.ireturn, 1) := by decide +kernel
theorem dX7_wish_0 : decode cX7_wish 0 = .ok (.aload_n 0, 1) := by decide +kernel
theorem dX7_wish_1 : decode cX7_wish 1 = .ok (.iload_n 1, 1) := by decide +kernel
theorem dX7_wish_2 : decode cX7_wish 2 = .ok (.iconst 0, 1) := by decide +kernel
theorem dX7_wish_3 : decode cX7_wish 3 = .ok (.invokevirtual 157, 3) := by decide +kernel
theorem dX7_wish_6 : decode cX7_wish 6 = .ok (.aload_n 0, 1) := by decide +kernel
theorem dX7_wish_7 : decode cX7_wish 7 = .ok (.iload_n 1, 1) := by decide +kernel
theorem dX7_wish_8 : decode cX7_wish 8 = .ok (.iconst 3, 1) := by decide +kernel
theorem dX7_wish_9 : decode cX7_wish 9 = .ok (.invokevirtual 157, 3) := by decide +kernel
theorem dX7_wish_12 : decode cX7_wish 12 = .ok (.invokestatic 167, 3) := by decide +kernel
theorem dX7_wish_15 : decode cX7_wish 15 = .ok (.aload_n 0, 1) := by decide +kernel
theorem dX7_wish_16 : decode cX7_wish 16 = .ok (.iload_n 1, 1) := by decide +kernel
theorem dX7_wish_17 : decode cX7_wish 17 = .ok (.invokevirtual 170, 3) := by decide +kernel
theorem dX7_wish_20 : decode cX7_wish 20 = .ok (.invokestatic 173, 3) := by decide +kernel
theorem dX7_wish_23 : decode cX7_wish 23 = .ok (.ireturn, 1) := by decide +kernel
theorem dX7_orders_0 : decode cX7_orders 0 = .ok (.aload_n 0, 1) := by decide +kernel
theorem dX7_orders_1 : decode cX7_orders 1 = .ok (.iconst 0, 1) := by decide +kernel
theorem dX7_orders_2 : decode cX7_orders 2 = .ok (.putfield 176, 3) := by decide +kernel
theorem dX7_orders_5 : decode cX7_orders 5 = .ok (.iconst 0, 1) := by decide +kernel
theorem dX7_orders_6 : decode cX7_orders 6 = .ok (.istore_n 1, 1) := by decide +kernel
theorem dX7_orders_7 : decode cX7_orders 7 = .ok (.iload_n 1, 1) := by decide +kernel
theorem dX7_orders_8 : decode cX7_orders 8 = .ok (.aload_n 0, 1) := by decide +kernel
theorem dX7_orders_9 : decode cX7_orders 9 = .ok (.getfield 7, 3) := by decide +kernel
theorem dX7_orders_12 : decode cX7_orders 12 = .ok (.sipush 176, 3) := by decide +kernel
theorem dX7_orders_15 : decode cX7_orders 15 = .ok (.iaload, 1) := by decide +kernel
theorem dX7_orders_16 : decode cX7_orders 16 = .ok (.if_icmp .ge 89, 3) := by decide +kernel
theorem dX7_orders_19 : decode cX7_orders 19 = .ok (.aload_n 0, 1) := by decide +kernel
theorem dX7_orders_20 : decode cX7_orders 20 = .ok (.iload_n 1, 1) := by decide +kernel
theorem dX7_orders_21 : decode cX7_orders 21 = .ok (.bipush 10, 2) := by decide +kernel
theorem dX7_orders_23 : decode cX7_orders 23 = .ok (.invokevirtual 157, 3) := by decide +kernel
theorem dX7_orders_26 : decode cX7_orders 26 = .ok (.ifCond .ne 73, 3) := by decide +kernel
theorem dX7_orders_29 : decode cX7_orders 29 = .ok (.aload_n 0, 1) := by decide +kernel
theorem dX7_orders_30 : decode cX7_orders 30 = .ok (.getfield 176, 3) := by decide +kernel
theorem dX7_orders_33 : decode cX7_orders 33 = .ok (.istore_n 2, 1) := by decide +kernel
theorem dX7_orders_34 : decode cX7_orders 34 = .ok (.iload_n 2, 1) := by decide +kernel
theorem dX7_orders_35 : decode cX7_orders 35 = .ok (.ifCond .le 47, 3) := by decide +kernel
theorem dX7_orders_38 : decode cX7_orders 38 = .ok (.aload_n 0, 1) := by decide +kernel
theorem dX7_orders_39 : decode cX7_orders 39 = .ok (.aload_n 0, 1) := by decide +kernel
theorem dX7_orders_40 : decode cX7_orders 40 = .ok (.getfield 22, 3) := by decide +kernel
theorem dX7_orders_43 : decode cX7_orders 43 = .ok (.iload_n 2, 1) := by decide +kernel
theorem dX7_orders_44 : decode cX7_orders 44 = .ok (.iconst 1, 1) := by decide +kernel
theorem dX7_orders_45 : decode cX7_orders 45 = .ok (.isub, 1) := by decide +kernel
theorem dX7_orders_46 : decode cX7_orders 46 = .ok (.iaload, 1) := by decide +kernel
theorem dX7_orders_47 : decode cX7_orders 47 = .ok (.bipush 6, 2) := by decide +kernel
theorem dX7_orders_49 : decode cX7_orders 49 = .ok (.invokevirtual 157, 3) := by decide +kernel
theorem dX7_orders_52 : decode cX7_orders 52 = .ok (.aload_n 0, 1) := by decide +kernel
theorem dX7_orders_53 : decode cX7_orders 53 = .ok (.iload_n 1, 1) := by decide +kernel
theorem dX7_orders_54 : decode cX7_orders 54 = .ok (.bipush 6, 2) := by decide +kernel
theorem dX7_orders_56 : decode cX7_orders 56 = .ok (.invokevirtual 157, 3) := by decide +kernel
theorem dX7_orders_59 : decode cX7_orders 59 = .ok (.if_icmp .le 23, 3) := by decide +kernel
theorem dX7_orders_62 : decode cX7_orders 62 = .ok (.aload_n 0, 1) := by decide +kernel
theorem dX7_orders_63 : decode cX7_orders 63 = .ok (.getfield 22, 3) := by decide +kernel
theorem dX7_orders_66 : decode cX7_orders 66 = .ok (.iload_n 2, 1) := by decide +kernel
theorem dX7_orders_67 : decode cX7_orders 67 = .ok (.aload_n 0, 1) := by decide +kernel
theorem dX7_orders_68 : decode cX7_orders 68 = .ok (.getfield 22, 3) := by decide +kernel
theorem dX7_orders_71 : decode cX7_orders 71 = .ok (.iload_n 2, 1) := by decide +kernel
theorem dX7_orders_72 : decode cX7_orders 72 = .ok (.iconst 1, 1) := by decide +kernel
theorem dX7_orders_73 : decode cX7_orders 73 = .ok (.isub, 1) := by decide +kernel
theorem dX7_orders_74 : decode cX7_orders 74 = .ok (.iaload, 1) := by decide +kernel
theorem dX7_orders_75 : decode cX7_orders 75 = .ok (.iastore, 1) := by decide +kernel
theorem dX7_orders_76 : decode cX7_orders 76 = .ok (.iinc 2 (-1), 3) := by decide +kernel
theorem dX7_orders_79 : decode cX7_orders 79 = .ok (.goto (-45), 3) := by decide +kernel
theorem dX7_orders_82 : decode cX7_orders 82 = .ok (.aload_n 0, 1) := by decide +kernel
theorem dX7_orders_83 : decode cX7_orders 83 = .ok (.getfield 22, 3) := by decide +kernel
theorem dX7_orders_86 : decode cX7_orders 86 = .ok (.iload_n 2, 1) := by decide +kernel
theorem dX7_orders_87 : decode cX7_orders 87 = .ok (.iload_n 1, 1) := by decide +kernel
theorem dX7_orders_88 : decode cX7_orders 88 = .ok (.iastore, 1) := by decide +kernel
theorem dX7_orders_89 : decode cX7_orders 89 = .ok (.aload_n 0, 1) := by decide +kernel
theorem dX7_orders_90 : decode cX7_orders 90 = .ok (.dup, 1) := by decide +kernel
theorem dX7_orders_91 : decode cX7_orders 91 = .ok (.getfield 176, 3) := by decide +kernel
theorem dX7_orders_94 : decode cX7_orders 94 = .ok (.iconst 1, 1) := by decide +kernel
theorem dX7_orders_95 : decode cX7_orders 95 = .ok (.iadd, 1) := by decide +kernel
theorem dX7_orders_96 : decode cX7_orders 96 = .ok (.putfield 176, 3) := by decide +kernel
theorem dX7_orders_99 : decode cX7_orders 99 = .ok (.iinc 1 1, 3) := by decide +kernel
theorem dX7_orders_102 : decode cX7_orders 102 = .ok (.goto (-95), 3) := by decide +kernel
theorem dX7_orders_105 : decode cX7_orders 105 = .ok (.return_, 1) := by decide +kernel
theorem dX7_placeOf_0 : decode cX7_placeOf 0 = .ok (.iconst 0, 1) := by decide +kernel
theorem dX7_placeOf_1 : decode cX7_placeOf 1 = .ok (.istore_n 2, 1) := by decide +kernel
theorem dX7_placeOf_2 : decode cX7_placeOf 2 = .ok (.iload_n 2, 1) := by decide +kernel
theorem dX7_placeOf_3 : decode cX7_placeOf 3 = .ok (.aload_n 0, 1) := by decide +kernel
theorem dX7_placeOf_4 : decode cX7_placeOf 4 = .ok (.getfield 176, 3) := by decide +kernel
theorem dX7_placeOf_7 : decode cX7_placeOf 7 = .ok (.if_icmp .ge 21, 3) := by decide +kernel
theorem dX7_placeOf_10 : decode cX7_placeOf 10 = .ok (.aload_n 0, 1) := by decide +kernel
theorem dX7_placeOf_11 : decode cX7_placeOf 11 = .ok (.getfield 22, 3) := by decide +kernel
theorem dX7_placeOf_14 : decode cX7_placeOf 14 = .ok (.iload_n 2, 1) := by decide +kernel
theorem dX7_placeOf_15 : decode cX7_placeOf 15 = .ok (.iaload, 1) := by decide +kernel
theorem dX7_placeOf_16 : decode cX7_placeOf 16 = .ok (.iload_n 1, 1) := by decide +kernel
theorem dX7_placeOf_17 : decode cX7_placeOf 17 = .ok (.if_icmp .ne 5, 3) := by decide +kernel
theorem dX7_placeOf_20 : decode cX7_placeOf 20 = .ok (.iload_n 2, 1) := by decide +kernel
theorem dX7_placeOf_21 : decode cX7_placeOf 21 = .ok (.ireturn, 1) := by decide +kernel
theorem dX7_placeOf_22 : decode cX7_placeOf 22 = .ok (.iinc 2 1, 3) := by decide +kernel
theorem dX7_placeOf_25 : decode cX7_placeOf 25 = .ok (.goto (-23), 3) := by decide +kernel
theorem dX7_placeOf_28 : decode cX7_placeOf 28 = .ok (.sipush (-1001), 3) := by decide +kernel
theorem dX7_placeOf_31 : decode cX7_placeOf 31 = .ok (.ireturn, 1) := by decide +kernel
theorem dX7_outerWish_0 : decode cX7_outerWish 0 = .ok (.aload_n 0, 1) := by decide +kernel
theorem dX7_outerWish_1 : decode cX7_outerWish 1 = .ok (.aload_n 0, 1) := by decide +kernel
theorem dX7_outerWish_2 : decode cX7_outerWish 2 = .ok (.getfield 22, 3) := by decide +kernel
theorem dX7_outerWish_5 : decode cX7_outerWish 5 = .ok (.iload_n 1, 1) := by decide +kernel
theorem dX7_outerWish_6 : decode cX7_outerWish 6 = .ok (.iaload, 1) := by decide +kernel
theorem dX7_outerWish_7 : decode cX7_outerWish 7 = .ok (.invokevirtual 179, 3) := by decide +kernel
theorem dX7_outerWish_10 : decode cX7_outerWish 10 = .ok (.iconst 2, 1) := by decide +kernel
theorem dX7_outerWish_11 : decode cX7_outerWish 11 = .ok (.aload_n 0, 1) := by decide +kernel
theorem dX7_outerWish_12 : decode cX7_outerWish 12 = .ok (.aload_n 0, 1) := by decide +kernel
theorem dX7_outerWish_13 : decode cX7_outerWish 13 = .ok (.getfield 22, 3) := by decide +kernel
theorem dX7_outerWish_16 : decode cX7_outerWish 16 = .ok (.iload_n 1, 1) := by decide +kernel
theorem dX7_outerWish_17 : decode cX7_outerWish 17 = .ok (.iaload, 1) := by decide +kernel
theorem dX7_outerWish_18 : decode cX7_outerWish 18 = .ok (.iconst 5, 1) := by decide +kernel
theorem dX7_outerWish_19 : decode cX7_outerWish 19 = .ok (.invokevirtual 157, 3) := by decide +kernel
theorem dX7_outerWish_22 : decode cX7_outerWish 22 = .ok (.imul, 1) := by decide +kernel
theorem dX7_outerWish_23 : decode cX7_outerWish 23 = .ok (.iadd, 1) := by decide +kernel
theorem dX7_outerWish_24 : decode cX7_outerWish 24 = .ok (.ireturn, 1) := by decide +kernel
theorem dX7_wraps_0 : decode cX7_wraps 0 = .ok (.aload_n 0, 1) := by decide +kernel
theorem dX7_wraps_1 : decode cX7_wraps 1 = .ok (.iconst 0, 1) := by decide +kernel
theorem dX7_wraps_2 : decode cX7_wraps 2 = .ok (.putfield 182, 3) := by decide +kernel
theorem dX7_wraps_5 : decode cX7_wraps 5 = .ok (.iconst 0, 1) := by decide +kernel
theorem dX7_wraps_6 : decode cX7_wraps 6 = .ok (.istore_n 2, 1) := by decide +kernel
theorem dX7_wraps_7 : decode cX7_wraps 7 = .ok (.iconst 0, 1) := by decide +kernel
theorem dX7_wraps_8 : decode cX7_wraps 8 = .ok (.istore_n 3, 1) := by decide +kernel
theorem dX7_wraps_9 : decode cX7_wraps 9 = .ok (.iload_n 3, 1) := by decide +kernel
theorem dX7_wraps_10 : decode cX7_wraps 10 = .ok (.aload_n 0, 1) := by decide +kernel
theorem dX7_wraps_11 : decode cX7_wraps 11 = .ok (.getfield 176, 3) := by decide +kernel
theorem dX7_wraps_14 : decode cX7_wraps 14 = .ok (.if_icmp .ge 99, 3) := by decide +kernel
theorem dX7_wraps_17 : decode cX7_wraps 17 = .ok (.iload_n 2, 1) := by decide +kernel
theorem dX7_wraps_18 : decode cX7_wraps 18 = .ok (.aload_n 0, 1) := by decide +kernel
theorem dX7_wraps_19 : decode cX7_wraps 19 = .ok (.getfield 7, 3) := by decide +kernel
theorem dX7_wraps_22 : decode cX7_wraps 22 = .ok (.sipush 178, 3) := by decide +kernel
theorem dX7_wraps_25 : decode cX7_wraps 25 = .ok (.iaload, 1) := by decide +kernel
theorem dX7_wraps_26 : decode cX7_wraps 26 = .ok (.aload_n 0, 1) := by decide +kernel
theorem dX7_wraps_27 : decode cX7_wraps 27 = .ok (.iload_n 3, 1) := by decide +kernel
theorem dX7_wraps_28 : decode cX7_wraps 28 = .ok (.invokevirtual 185, 3) := by decide +kernel
theorem dX7_wraps_31 : decode cX7_wraps 31 = .ok (.iadd, 1) := by decide +kernel
theorem dX7_wraps_32 : decode cX7_wraps 32 = .ok (.iadd, 1) := by decide +kernel
theorem dX7_wraps_33 : decode cX7_wraps 33 = .ok (.istore_n 2, 1) := by decide +kernel
theorem dX7_wraps_34 : decode cX7_wraps 34 = .ok (.iload_n 3, 1) := by decide +kernel
theorem dX7_wraps_35 : decode cX7_wraps 35 = .ok (.ifCond .eq 20, 3) := by decide +kernel
theorem dX7_wraps_38 : decode cX7_wraps 38 = .ok (.aload_n 0, 1) := by decide +kernel
theorem dX7_wraps_39 : decode cX7_wraps 39 = .ok (.getfield 7, 3) := by decide +kernel
theorem dX7_wraps_42 : decode cX7_wraps 42 = .ok (.sipush 180, 3) := by decide +kernel
theorem dX7_wraps_45 : decode cX7_wraps 45 = .ok (.iaload, 1) := by decide +kernel
theorem dX7_wraps_46 : decode cX7_wraps 46 = .ok (.iconst 1, 1) := by decide +kernel
theorem dX7_wraps_47 : decode cX7_wraps 47 = .ok (.if_icmp .ne 34, 3) := by decide +kernel
theorem dX7_wraps_50 : decode cX7_wraps 50 = .ok (.iload_n 2, 1) := by decide +kernel
theorem dX7_wraps_51 : decode cX7_wraps 51 = .ok (.iload_n 1, 1) := by decide +kernel
theorem dX7_wraps_52 : decode cX7_wraps 52 = .ok (.if_icmp .le 29, 3) := by decide +kernel
theorem dX7_wraps_55 : decode cX7_wraps 55 = .ok (.aload_n 0, 1) := by decide +kernel
theorem dX7_wraps_56 : decode cX7_wraps 56 = .ok (.getfield 28, 3) := by decide +kernel
theorem dX7_wraps_59 : decode cX7_wraps 59 = .ok (.aload_n 0, 1) := by decide +kernel
theorem dX7_wraps_60 : decode cX7_wraps 60 = .ok (.getfield 182, 3) := by decide +kernel
theorem dX7_wraps_63 : decode cX7_wraps 63 = .ok (.iload_n 3, 1) := by decide +kernel
theorem dX7_wraps_64 : decode cX7_wraps 64 = .ok (.iastore, 1) := by decide +kernel
theorem dX7_wraps_65 : decode cX7_wraps 65 = .ok (.aload_n 0, 1) := by decide +kernel
theorem dX7_wraps_66 : decode cX7_wraps 66 = .ok (.dup, 1) := by decide +kernel
theorem dX7_wraps_67 : decode cX7_wraps 67 = .ok (.getfield 182, 3) := by decide +kernel
theorem dX7_wraps_70 : decode cX7_wraps 70 = .ok (.iconst 1, 1) := by decide +kernel
theorem dX7_wraps_71 : decode cX7_wraps 71 = .ok (.iadd, 1) := by decide +kernel
theorem dX7_wraps_72 : decode cX7_wraps 72 = .ok (.putfield 182, 3) := by decide +kernel
theorem dX7_wraps_75 : decode cX7_wraps 75 = .ok (.aload_n 0, 1) := by decide +kernel
theorem dX7_wraps_76 : decode cX7_wraps 76 = .ok (.iload_n 3, 1) := by decide +kernel
theorem dX7_wraps_77 : decode cX7_wraps 77 = .ok (.invokevirtual 185, 3) := by decide +kernel
theorem dX7_wraps_80 : decode cX7_wraps 80 = .ok (.istore_n 2, 1) := by decide +kernel
theorem dX7_wraps_81 : decode cX7_wraps 81 = .ok (.aload_n 0, 1) := by decide +kernel
theorem dX7_wraps_82 : decode cX7_wraps 82 = .ok (.getfield 25, 3) := by decide +kernel
theorem dX7_wraps_85 : decode cX7_wraps 85 = .ok (.iload_n 3, 1) := by decide +kernel
theorem dX7_wraps_86 : decode cX7_wraps 86 = .ok (.aload_n 0, 1) := by decide +kernel
theorem dX7_wraps_87 : decode cX7_wraps 87 = .ok (.getfield 182, 3) := by decide +kernel
theorem dX7_wraps_90 : decode cX7_wraps 90 = .ok (.iconst 1, 1) := by decide +kernel
theorem dX7_wraps_91 : decode cX7_wraps 91 = .ok (.isub, 1) := by decide +kernel
theorem dX7_wraps_92 : decode cX7_wraps 92 = .ok (.iastore, 1) := by decide +kernel
theorem dX7_wraps_93 : decode cX7_wraps 93 = .ok (.aload_n 0, 1) := by decide +kernel
theorem dX7_wraps_94 : decode cX7_wraps 94 = .ok (.getfield 31, 3) := by decide +kernel
theorem dX7_wraps_97 : decode cX7_wraps 97 = .ok (.aload_n 0, 1) := by decide +kernel
theorem dX7_wraps_98 : decode cX7_wraps 98 = .ok (.getfield 182, 3) := by decide +kernel
theorem dX7_wraps_101 : decode cX7_wraps 101 = .ok (.iconst 1, 1) := by decide +kernel
theorem dX7_wraps_102 : decode cX7_wraps 102 = .ok (.isub, 1) := by decide +kernel
theorem dX7_wraps_103 : decode cX7_wraps 103 = .ok (.iload_n 3, 1) := by decide +kernel
theorem dX7_wraps_104 : decode cX7_wraps 104 = .ok (.iconst 1, 1) := by decide +kernel
theorem dX7_wraps_105 : decode cX7_wraps 105 = .ok (.iadd, 1) := by decide +kernel
theorem dX7_wraps_106 : decode cX7_wraps 106 = .ok (.iastore, 1) := by decide +kernel
theorem dX7_wraps_107 : decode cX7_wraps 107 = .ok (.iinc 3 1, 3) := by decide +kernel
theorem dX7_wraps_110 : decode cX7_wraps 110 = .ok (.goto (-101), 3) := by decide +kernel
theorem dX7_wraps_113 : decode cX7_wraps 113 = .ok (.return_, 1) := by decide +kernel
theorem dX7_weight_0 : decode cX7_weight 0 = .ok (.iload_n 2, 1) := by decide +kernel
theorem dX7_weight_1 : decode cX7_weight 1 = .ok (.ifCond .eq 12, 3) := by decide +kernel
theorem dX7_weight_4 : decode cX7_weight 4 = .ok (.aload_n 0, 1) := by decide +kernel
theorem dX7_weight_5 : decode cX7_weight 5 = .ok (.iload_n 1, 1) := by decide +kernel
theorem dX7_weight_6 : decode cX7_weight 6 = .ok (.iconst 1, 1) := by decide +kernel
theorem dX7_weight_7 : decode cX7_weight 7 = .ok (.invokevirtual 157, 3) := by decide +kernel
theorem dX7_weight_10 : decode cX7_weight 10 = .ok (.goto 16, 3) := by decide +kernel
theorem dX7_weight_13 : decode cX7_weight 13 = .ok (.aload_n 0, 1) := by decide +kernel
theorem dX7_weight_14 : decode cX7_weight 14 = .ok (.iload_n 1, 1) := by decide +kernel
theorem dX7_weight_15 : decode cX7_weight 15 = .ok (.iconst 2, 1) := by decide +kernel
theorem dX7_weight_16 : decode cX7_weight 16 = .ok (.invokevirtual 157, 3) := by decide +kernel
theorem dX7_weight_19 : decode cX7_weight 19 = .ok (.aload_n 0, 1) := by decide +kernel
theorem dX7_weight_20 : decode cX7_weight 20 = .ok (.iload_n 1, 1) := by decide +kernel
theorem dX7_weight_21 : decode cX7_weight 21 = .ok (.iconst 0, 1) := by decide +kernel
theorem dX7_weight_22 : decode cX7_weight 22 = .ok (.invokevirtual 157, 3) := by decide +kernel
theorem dX7_weight_25 : decode cX7_weight 25 = .ok (.imul, 1) := by decide +kernel
theorem dX7_weight_26 : decode cX7_weight 26 = .ok (.ireturn, 1) := by decide +kernel
theorem dX7_share_0 : decode cX7_share 0 = .ok (.aload_n 0, 1) := by decide +kernel
theorem dX7_share_1 : decode cX7_share 1 = .ok (.getfield 47, 3) := by decide +kernel
theorem dX7_share_4 : decode cX7_share 4 = .ok (.iload_n 1, 1) := by decide +kernel
theorem dX7_share_5 : decode cX7_share 5 = .ok (.iaload, 1) := by decide +kernel
theorem dX7_share_6 : decode cX7_share 6 = .ok (.istore_n 2, 1) := by decide +kernel
theorem dX7_share_7 : decode cX7_share 7 = .ok (.aload_n 0, 1) := by decide +kernel
theorem dX7_share_8 : decode cX7_share 8 = .ok (.getfield 28, 3) := by decide +kernel
theorem dX7_share_11 : decode cX7_share 11 = .ok (.iload_n 1, 1) := by decide +kernel
theorem dX7_share_12 : decode cX7_share 12 = .ok (.iaload, 1) := by decide +kernel
theorem dX7_share_13 : decode cX7_share 13 = .ok (.istore_n 3, 1) := by decide +kernel
theorem dX7_share_14 : decode cX7_share 14 = .ok (.iload_n 3, 1) := by decide +kernel
theorem dX7_share_15 : decode cX7_share 15 = .ok (.aload_n 0, 1) := by decide +kernel
theorem dX7_share_16 : decode cX7_share 16 = .ok (.getfield 31, 3) := by decide +kernel
theorem dX7_share_19 : decode cX7_share 19 = .ok (.iload_n 1, 1) := by decide +kernel
theorem dX7_share_20 : decode cX7_share 20 = .ok (.iaload, 1) := by decide +kernel
theorem dX7_share_21 : decode cX7_share 21 = .ok (.if_icmp .ge 41, 3) := by decide +kernel
theorem dX7_share_24 : decode cX7_share 24 = .ok (.iload_n 2, 1) := by decide +kernel
theorem dX7_share_25 : decode cX7_share 25 = .ok (.aload_n 0, 1) := by decide +kernel
theorem dX7_share_26 : decode cX7_share 26 = .ok (.getfield 43, 3) := by decide +kernel
theorem dX7_share_29 : decode cX7_share 29 = .ok (.iload_n 3, 1) := by decide +kernel
theorem dX7_share_30 : decode cX7_share 30 = .ok (.baload, 1) := by decide +kernel
theorem dX7_share_31 : decode cX7_share 31 = .ok (.ifCond .eq 12, 3) := by decide +kernel
theorem dX7_share_34 : decode cX7_share 34 = .ok (.aload_n 0, 1) := by decide +kernel
theorem dX7_share_35 : decode cX7_share 35 = .ok (.getfield 34, 3) := by decide +kernel
theorem dX7_share_38 : decode cX7_share 38 = .ok (.iload_n 3, 1) := by decide +kernel
theorem dX7_share_39 : decode cX7_share 39 = .ok (.iaload, 1) := by decide +kernel
theorem dX7_share_40 : decode cX7_share 40 = .ok (.goto 14, 3) := by decide +kernel
theorem dX7_share_43 : decode cX7_share 43 = .ok (.aload_n 0, 1) := by decide +kernel
theorem dX7_share_44 : decode cX7_share 44 = .ok (.aload_n 0, 1) := by decide +kernel
theorem dX7_share_45 : decode cX7_share 45 = .ok (.getfield 22, 3) := by decide +kernel
theorem dX7_share_48 : decode cX7_share 48 = .ok (.iload_n 3, 1) := by decide +kernel
theorem dX7_share_49 : decode cX7_share 49 = .ok (.iaload, 1) := by decide +kernel
theorem dX7_share_50 : decode cX7_share 50 = .ok (.iconst 0, 1) := by decide +kernel
theorem dX7_share_51 : decode cX7_share 51 = .ok (.invokevirtual 157, 3) := by decide +kernel
theorem dX7_share_54 : decode cX7_share 54 = .ok (.isub, 1) := by decide +kernel
theorem dX7_share_55 : decode cX7_share 55 = .ok (.istore_n 2, 1) := by decide +kernel
theorem dX7_share_56 : decode cX7_share 56 = .ok (.iinc 3 1, 3) := by decide +kernel
theorem dX7_share_59 : decode cX7_share 59 = .ok (.goto (-45), 3) := by decide +kernel
theorem dX7_share_62 : decode cX7_share 62 = .ok (.iconst 0, 1) := by decide +kernel
theorem dX7_share_63 : decode cX7_share 63 = .ok (.aload_n 0, 1) := by decide +kernel
theorem dX7_share_64 : decode cX7_share 64 = .ok (.getfield 56, 3) := by decide +kernel
theorem dX7_share_67 : decode cX7_share 67 = .ok (.iload_n 1, 1) := by decide +kernel
theorem dX7_share_68 : decode cX7_share 68 = .ok (.baload, 1) := by decide +kernel
theorem dX7_share_69 : decode cX7_share 69 = .ok (.ifCond .eq 7, 3) := by decide +kernel
theorem dX7_share_72 : decode cX7_share 72 = .ok (.iload_n 2, 1) := by decide +kernel
theorem dX7_share_73 : decode cX7_share 73 = .ok (.goto 5, 3) := by decide +kernel
theorem dX7_share_76 : decode cX7_share 76 = .ok (.iload_n 2, 1) := by decide +kernel
theorem dX7_share_77 : decode cX7_share 77 = .ok (.ineg, 1) := by decide +kernel
theorem dX7_share_78 : decode cX7_share 78 = .ok (.invokestatic 167, 3) := by decide +kernel
theorem dX7_share_81 : decode cX7_share 81 = .ok (.ireturn, 1) := by decide +kernel
theorem dX7_isLeft_0 : decode cX7_isLeft 0 = .ok (.iconst 0, 1) := by decide +kernel
theorem dX7_isLeft_1 : decode cX7_isLeft 1 = .ok (.istore_n 2, 1) := by decide +kernel
theorem dX7_isLeft_2 : decode cX7_isLeft 2 = .ok (.aload_n 0, 1) := by decide +kernel
theorem dX7_isLeft_3 : decode cX7_isLeft 3 = .ok (.getfield 28, 3) := by decide +kernel
theorem dX7_isLeft_6 : decode cX7_isLeft 6 = .ok (.iload_n 1, 1) := by decide +kernel
theorem dX7_isLeft_7 : decode cX7_isLeft 7 = .ok (.iaload, 1) := by decide +kernel
theorem dX7_isLeft_8 : decode cX7_isLeft 8 = .ok (.istore_n 3, 1) := by decide +kernel
theorem dX7_isLeft_9 : decode cX7_isLeft 9 = .ok (.iload_n 3, 1) := by decide +kernel
theorem dX7_isLeft_10 : decode cX7_isLeft 10 = .ok (.aload_n 0, 1) := by decide +kernel
theorem dX7_isLeft_11 : decode cX7_isLeft 11 = .ok (.getfield 31, 3) := by decide +kernel
theorem dX7_isLeft_14 : decode cX7_isLeft 14 = .ok (.iload_n 1, 1) := by decide +kernel
theorem dX7_isLeft_15 : decode cX7_isLeft 15 = .ok (.iaload, 1) := by decide +kernel
theorem dX7_isLeft_16 : decode cX7_isLeft 16 = .ok (.if_icmp .ge 28, 3) := by decide +kernel
theorem dX7_isLeft_19 : decode cX7_isLeft 19 = .ok (.iload_n 2, 1) := by decide +kernel
theorem dX7_isLeft_20 : decode cX7_isLeft 20 = .ok (.ifCond .ne 12, 3) := by decide +kernel
theorem dX7_isLeft_23 : decode cX7_isLeft 23 = .ok (.aload_n 0, 1) := by decide +kernel
theorem dX7_isLeft_24 : decode cX7_isLeft 24 = .ok (.getfield 43, 3) := by decide +kernel
theorem dX7_isLeft_27 : decode cX7_isLeft 27 = .ok (.iload_n 3, 1) := by decide +kernel
theorem dX7_isLeft_28 : decode cX7_isLeft 28 = .ok (.baload, 1) := by decide +kernel
theorem dX7_isLeft_29 : decode cX7_isLeft 29 = .ok (.ifCond .ne 7, 3) := by decide +kernel
theorem dX7_isLeft_32 : decode cX7_isLeft 32 = .ok (.iconst 1, 1) := by decide +kernel
theorem dX7_isLeft_33 : decode cX7_isLeft 33 = .ok (.goto 4, 3) := by decide +kernel
theorem dX7_isLeft_36 : decode cX7_isLeft 36 = .ok (.iconst 0, 1) := by decide +kernel
theorem dX7_isLeft_37 : decode cX7_isLeft 37 = .ok (.istore_n 2, 1) := by decide +kernel
theorem dX7_isLeft_38 : decode cX7_isLeft 38 = .ok (.iinc 3 1, 3) := by decide +kernel
theorem dX7_isLeft_41 : decode cX7_isLeft 41 = .ok (.goto (-32), 3) := by decide +kernel
theorem dX7_isLeft_44 : decode cX7_isLeft 44 = .ok (.iload_n 2, 1) := by decide +kernel
theorem dX7_isLeft_45 : decode cX7_isLeft 45 = .ok (.ireturn, 1) := by decide +kernel
theorem dX7_pass_0 : decode cX7_pass 0 = .ok (.aload_n 0, 1) := by decide +kernel
theorem dX7_pass_1 : decode cX7_pass 1 = .ok (.iload_n 1, 1) := by decide +kernel
theorem dX7_pass_2 : decode cX7_pass 2 = .ok (.invokevirtual 188, 3) := by decide +kernel
theorem dX7_pass_5 : decode cX7_pass 5 = .ok (.istore_n 2, 1) := by decide +kernel
theorem dX7_pass_6 : decode cX7_pass 6 = .ok (.iconst 0, 1) := by decide +kernel
theorem dX7_pass_7 : decode cX7_pass 7 = .ok (.istore_n 3, 1) := by decide +kernel
theorem dX7_pass_8 : decode cX7_pass 8 = .ok (.aload_n 0, 1) := by decide +kernel
theorem dX7_pass_9 : decode cX7_pass 9 = .ok (.getfield 28, 3) := by decide +kernel
theorem dX7_pass_12 : decode cX7_pass 12 = .ok (.iload_n 1, 1) := by decide +kernel
theorem dX7_pass_13 : decode cX7_pass 13 = .ok (.iaload, 1) := by decide +kernel
theorem dX7_pass_14 : decode cX7_pass 14 = .ok (.istore 4, 2) := by decide +kernel
theorem dX7_pass_16 : decode cX7_pass 16 = .ok (.iload 4, 2) := by decide +kernel
theorem dX7_pass_18 : decode cX7_pass 18 = .ok (.aload_n 0, 1) := by decide +kernel
theorem dX7_pass_19 : decode cX7_pass 19 = .ok (.getfield 31, 3) := by decide +kernel
theorem dX7_pass_22 : decode cX7_pass 22 = .ok (.iload_n 1, 1) := by decide +kernel
theorem dX7_pass_23 : decode cX7_pass 23 = .ok (.iaload, 1) := by decide +kernel
theorem dX7_pass_24 : decode cX7_pass 24 = .ok (.if_icmp .ge 43, 3) := by decide +kernel
theorem dX7_pass_27 : decode cX7_pass 27 = .ok (.iload_n 3, 1) := by decide +kernel
theorem dX7_pass_28 : decode cX7_pass 28 = .ok (.aload_n 0, 1) := by decide +kernel
theorem dX7_pass_29 : decode cX7_pass 29 = .ok (.getfield 43, 3) := by decide +kernel
theorem dX7_pass_32 : decode cX7_pass 32 = .ok (.iload 4, 2) := by decide +kernel
theorem dX7_pass_34 : decode cX7_pass 34 = .ok (.baload, 1) := by decide +kernel
theorem dX7_pass_35 : decode cX7_pass 35 = .ok (.ifCond .eq 7, 3) := by decide +kernel
theorem dX7_pass_38 : decode cX7_pass 38 = .ok (.iconst 0, 1) := by decide +kernel
theorem dX7_pass_39 : decode cX7_pass 39 = .ok (.goto 20, 3) := by decide +kernel
theorem dX7_pass_42 : decode cX7_pass 42 = .ok (.aload_n 0, 1) := by decide +kernel
theorem dX7_pass_43 : decode cX7_pass 43 = .ok (.aload_n 0, 1) := by decide +kernel
theorem dX7_pass_44 : decode cX7_pass 44 = .ok (.getfield 22, 3) := by decide +kernel
theorem dX7_pass_47 : decode cX7_pass 47 = .ok (.iload 4, 2) := by decide +kernel
theorem dX7_pass_49 : decode cX7_pass 49 = .ok (.iaload, 1) := by decide +kernel
theorem dX7_pass_50 : decode cX7_pass 50 = .ok (.aload_n 0, 1) := by decide +kernel
theorem dX7_pass_51 : decode cX7_pass 51 = .ok (.getfield 56, 3) := by decide +kernel
theorem dX7_pass_54 : decode cX7_pass 54 = .ok (.iload_n 1, 1) := by decide +kernel
theorem dX7_pass_55 : decode cX7_pass 55 = .ok (.baload, 1) := by decide +kernel
theorem dX7_pass_56 : decode cX7_pass 56 = .ok (.invokevirtual 191, 3) := by decide +kernel
theorem dX7_pass_59 : decode cX7_pass 59 = .ok (.iadd, 1) := by decide +kernel
theorem dX7_pass_60 : decode cX7_pass 60 = .ok (.istore_n 3, 1) := by decide +kernel
theorem dX7_pass_61 : decode cX7_pass 61 = .ok (.iinc 4 1, 3) := by decide +kernel
theorem dX7_pass_64 : decode cX7_pass 64 = .ok (.goto (-48), 3) := by decide +kernel
theorem dX7_pass_67 : decode cX7_pass 67 = .ok (.iconst 0, 1) := by decide +kernel
theorem dX7_pass_68 : decode cX7_pass 68 = .ok (.istore 4, 2) := by decide +kernel
theorem dX7_pass_70 : decode cX7_pass 70 = .ok (.iconst 0, 1) := by decide +kernel
theorem dX7_pass_71 : decode cX7_pass 71 = .ok (.istore 5, 2) := by decide +kernel
theorem dX7_pass_73 : decode cX7_pass 73 = .ok (.aload_n 0, 1) := by decide +kernel
theorem dX7_pass_74 : decode cX7_pass 74 = .ok (.getfield 28, 3) := by decide +kernel
theorem dX7_pass_77 : decode cX7_pass 77 = .ok (.iload_n 1, 1) := by decide +kernel
theorem dX7_pass_78 : decode cX7_pass 78 = .ok (.iaload, 1) := by decide +kernel
theorem dX7_pass_79 : decode cX7_pass 79 = .ok (.istore 6, 2) := by decide +kernel
theorem dX7_pass_81 : decode cX7_pass 81 = .ok (.iload 6, 2) := by decide +kernel
theorem dX7_pass_83 : decode cX7_pass 83 = .ok (.aload_n 0, 1) := by decide +kernel
theorem dX7_pass_84 : decode cX7_pass 84 = .ok (.getfield 31, 3) := by decide +kernel
theorem dX7_pass_87 : decode cX7_pass 87 = .ok (.iload_n 1, 1) := by decide +kernel
theorem dX7_pass_88 : decode cX7_pass 88 = .ok (.iaload, 1) := by decide +kernel
theorem dX7_pass_89 : decode cX7_pass 89 = .ok (.if_icmp .ge 172, 3) := by decide +kernel
theorem dX7_pass_92 : decode cX7_pass 92 = .ok (.aload_n 0, 1) := by decide +kernel
theorem dX7_pass_93 : decode cX7_pass 93 = .ok (.getfield 43, 3) := by decide +kernel
theorem dX7_pass_96 : decode cX7_pass 96 = .ok (.iload 6, 2) := by decide +kernel
theorem dX7_pass_98 : decode cX7_pass 98 = .ok (.baload, 1) := by decide +kernel
theorem dX7_pass_99 : decode cX7_pass 99 = .ok (.ifCond .ne 156, 3) := by decide +kernel
theorem dX7_pass_102 : decode cX7_pass 102 = .ok (.aload_n 0, 1) := by decide +kernel
theorem dX7_pass_103 : decode cX7_pass 103 = .ok (.aload_n 0, 1) := by decide +kernel
theorem dX7_pass_104 : decode cX7_pass 104 = .ok (.getfield 22, 3) := by decide +kernel
theorem dX7_pass_107 : decode cX7_pass 107 = .ok (.iload 6, 2) := by decide +kernel
theorem dX7_pass_109 : decode cX7_pass 109 = .ok (.iaload, 1) := by decide +kernel
theorem dX7_pass_110 : decode cX7_pass 110 = .ok (.aload_n 0, 1) := by decide +kernel
theorem dX7_pass_111 : decode cX7_pass 111 = .ok (.getfield 56, 3) := by decide +kernel
theorem dX7_pass_114 : decode cX7_pass 114 = .ok (.iload_n 1, 1) := by decide +kernel
theorem dX7_pass_115 : decode cX7_pass 115 = .ok (.baload, 1) := by decide +kernel
theorem dX7_pass_116 : decode cX7_pass 116 = .ok (.invokevirtual 191, 3) := by decide +kernel
theorem dX7_pass_119 : decode cX7_pass 119 = .ok (.istore 7, 2) := by decide +kernel
theorem dX7_pass_121 : decode cX7_pass 121 = .ok (.iload 4, 2) := by decide +kernel
theorem dX7_pass_123 : decode cX7_pass 123 = .ok (.istore 8, 2) := by decide +kernel
theorem dX7_pass_125 : decode cX7_pass 125 = .ok (.iload 4, 2) := by decide +kernel
theorem dX7_pass_127 : decode cX7_pass 127 = .ok (.iload 7, 2) := by decide +kernel
theorem dX7_pass_129 : decode cX7_pass 129 = .ok (.iadd, 1) := by decide +kernel
theorem dX7_pass_130 : decode cX7_pass 130 = .ok (.istore 4, 2) := by decide +kernel
theorem dX7_pass_132 : decode cX7_pass 132 = .ok (.iload_n 3, 1) := by decide +kernel
theorem dX7_pass_133 : decode cX7_pass 133 = .ok (.ifCond .ne 7, 3) := by decide +kernel
theorem dX7_pass_136 : decode cX7_pass 136 = .ok (.iconst 0, 1) := by decide +kernel
theorem dX7_pass_137 : decode cX7_pass 137 = .ok (.goto 16, 3) := by decide +kernel
theorem dX7_pass_140 : decode cX7_pass 140 = .ok (.iload_n 2, 1) := by decide +kernel
theorem dX7_pass_141 : decode cX7_pass 141 = .ok (.iload 4, 2) := by decide +kernel
theorem dX7_pass_143 : decode cX7_pass 143 = .ok (.imul, 1) := by decide +kernel
theorem dX7_pass_144 : decode cX7_pass 144 = .ok (.iload_n 3, 1) := by decide +kernel
theorem dX7_pass_145 : decode cX7_pass 145 = .ok (.idiv, 1) := by decide +kernel
theorem dX7_pass_146 : decode cX7_pass 146 = .ok (.iload_n 2, 1) := by decide +kernel
theorem dX7_pass_147 : decode cX7_pass 147 = .ok (.iload 8, 2) := by decide +kernel
theorem dX7_pass_149 : decode cX7_pass 149 = .ok (.imul, 1) := by decide +kernel
theorem dX7_pass_150 : decode cX7_pass 150 = .ok (.iload_n 3, 1) := by decide +kernel
theorem dX7_pass_151 : decode cX7_pass 151 = .ok (.idiv, 1) := by decide +kernel
theorem dX7_pass_152 : decode cX7_pass 152 = .ok (.isub, 1) := by decide +kernel
theorem dX7_pass_153 : decode cX7_pass 153 = .ok (.istore 9, 2) := by decide +kernel
theorem dX7_pass_155 : decode cX7_pass 155 = .ok (.aload_n 0, 1) := by decide +kernel
theorem dX7_pass_156 : decode cX7_pass 156 = .ok (.getfield 34, 3) := by decide +kernel
theorem dX7_pass_159 : decode cX7_pass 159 = .ok (.iload 6, 2) := by decide +kernel
theorem dX7_pass_161 : decode cX7_pass 161 = .ok (.aload_n 0, 1) := by decide +kernel
theorem dX7_pass_162 : decode cX7_pass 162 = .ok (.aload_n 0, 1) := by decide +kernel
theorem dX7_pass_163 : decode cX7_pass 163 = .ok (.getfield 22, 3) := by decide +kernel
theorem dX7_pass_166 : decode cX7_pass 166 = .ok (.iload 6, 2) := by decide +kernel
theorem dX7_pass_168 : decode cX7_pass 168 = .ok (.iaload, 1) := by decide +kernel
theorem dX7_pass_169 : decode cX7_pass 169 = .ok (.iconst 0, 1) := by decide +kernel
theorem dX7_pass_170 : decode cX7_pass 170 = .ok (.invokevirtual 157, 3) := by decide +kernel
theorem dX7_pass_173 : decode cX7_pass 173 = .ok (.aload_n 0, 1) := by decide +kernel
theorem dX7_pass_174 : decode cX7_pass 174 = .ok (.getfield 56, 3) := by decide +kernel
theorem dX7_pass_177 : decode cX7_pass 177 = .ok (.iload_n 1, 1) := by decide +kernel
theorem dX7_pass_178 : decode cX7_pass 178 = .ok (.baload, 1) := by decide +kernel
theorem dX7_pass_179 : decode cX7_pass 179 = .ok (.ifCond .eq 8, 3) := by decide +kernel
theorem dX7_pass_182 : decode cX7_pass 182 = .ok (.iload 9, 2) := by decide +kernel
theorem dX7_pass_184 : decode cX7_pass 184 = .ok (.goto 6, 3) := by decide +kernel
theorem dX7_pass_187 : decode cX7_pass 187 = .ok (.iload 9, 2) := by decide +kernel
theorem dX7_pass_189 : decode cX7_pass 189 = .ok (.ineg, 1) := by decide +kernel
theorem dX7_pass_190 : decode cX7_pass 190 = .ok (.iadd, 1) := by decide +kernel
theorem dX7_pass_191 : decode cX7_pass 191 = .ok (.iastore, 1) := by decide +kernel
theorem dX7_pass_192 : decode cX7_pass 192 = .ok (.aload_n 0, 1) := by decide +kernel
theorem dX7_pass_193 : decode cX7_pass 193 = .ok (.getfield 37, 3) := by decide +kernel
theorem dX7_pass_196 : decode cX7_pass 196 = .ok (.iload 6, 2) := by decide +kernel
theorem dX7_pass_198 : decode cX7_pass 198 = .ok (.aload_n 0, 1) := by decide +kernel
theorem dX7_pass_199 : decode cX7_pass 199 = .ok (.getfield 34, 3) := by decide +kernel
theorem dX7_pass_202 : decode cX7_pass 202 = .ok (.iload 6, 2) := by decide +kernel
theorem dX7_pass_204 : decode cX7_pass 204 = .ok (.iaload, 1) := by decide +kernel
theorem dX7_pass_205 : decode cX7_pass 205 = .ok (.aload_n 0, 1) := by decide +kernel
theorem dX7_pass_206 : decode cX7_pass 206 = .ok (.aload_n 0, 1) := by decide +kernel
theorem dX7_pass_207 : decode cX7_pass 207 = .ok (.getfield 22, 3) := by decide +kernel
theorem dX7_pass_210 : decode cX7_pass 210 = .ok (.iload 6, 2) := by decide +kernel
theorem dX7_pass_212 : decode cX7_pass 212 = .ok (.iaload, 1) := by decide +kernel
theorem dX7_pass_213 : decode cX7_pass 213 = .ok (.iconst 3, 1) := by decide +kernel
theorem dX7_pass_214 : decode cX7_pass 214 = .ok (.invokevirtual 157, 3) := by decide +kernel
theorem dX7_pass_217 : decode cX7_pass 217 = .ok (.invokestatic 167, 3) := by decide +kernel
theorem dX7_pass_220 : decode cX7_pass 220 = .ok (.aload_n 0, 1) := by decide +kernel
theorem dX7_pass_221 : decode cX7_pass 221 = .ok (.aload_n 0, 1) := by decide +kernel
theorem dX7_pass_222 : decode cX7_pass 222 = .ok (.getfield 22, 3) := by decide +kernel
theorem dX7_pass_225 : decode cX7_pass 225 = .ok (.iload 6, 2) := by decide +kernel
theorem dX7_pass_227 : decode cX7_pass 227 = .ok (.iaload, 1) := by decide +kernel
theorem dX7_pass_228 : decode cX7_pass 228 = .ok (.invokevirtual 170, 3) := by decide +kernel
theorem dX7_pass_231 : decode cX7_pass 231 = .ok (.invokestatic 173, 3) := by decide +kernel
theorem dX7_pass_234 : decode cX7_pass 234 = .ok (.iastore, 1) := by decide +kernel
theorem dX7_pass_235 : decode cX7_pass 235 = .ok (.iload 5, 2) := by decide +kernel
theorem dX7_pass_237 : decode cX7_pass 237 = .ok (.aload_n 0, 1) := by decide +kernel
theorem dX7_pass_238 : decode cX7_pass 238 = .ok (.getfield 37, 3) := by decide +kernel
theorem dX7_pass_241 : decode cX7_pass 241 = .ok (.iload 6, 2) := by decide +kernel
theorem dX7_pass_243 : decode cX7_pass 243 = .ok (.iaload, 1) := by decide +kernel
theorem dX7_pass_244 : decode cX7_pass 244 = .ok (.aload_n 0, 1) := by decide +kernel
theorem dX7_pass_245 : decode cX7_pass 245 = .ok (.getfield 34, 3) := by decide +kernel
theorem dX7_pass_248 : decode cX7_pass 248 = .ok (.iload 6, 2) := by decide +kernel
theorem dX7_pass_250 : decode cX7_pass 250 = .ok (.iaload, 1) := by decide +kernel
theorem dX7_pass_251 : decode cX7_pass 251 = .ok (.isub, 1) := by decide +kernel
theorem dX7_pass_252 : decode cX7_pass 252 = .ok (.iadd, 1) := by decide +kernel
theorem dX7_pass_253 : decode cX7_pass 253 = .ok (.istore 5, 2) := by decide +kernel
theorem dX7_pass_255 : decode cX7_pass 255 = .ok (.iinc 6 1, 3) := by decide +kernel
theorem dX7_pass_258 : decode cX7_pass 258 = .ok (.goto (-177), 3) := by decide +kernel
theorem dX7_pass_261 : decode cX7_pass 261 = .ok (.aload_n 0, 1) := by decide +kernel
theorem dX7_pass_262 : decode cX7_pass 262 = .ok (.getfield 28, 3) := by decide +kernel
theorem dX7_pass_265 : decode cX7_pass 265 = .ok (.iload_n 1, 1) := by decide +kernel
theorem dX7_pass_266 : decode cX7_pass 266 = .ok (.iaload, 1) := by decide +kernel
theorem dX7_pass_267 : decode cX7_pass 267 = .ok (.istore 6, 2) := by decide +kernel
theorem dX7_pass_269 : decode cX7_pass 269 = .ok (.iload 6, 2) := by decide +kernel
theorem dX7_pass_271 : decode cX7_pass 271 = .ok (.aload_n 0, 1) := by decide +kernel
theorem dX7_pass_272 : decode cX7_pass 272 = .ok (.getfield 31, 3) := by decide +kernel
theorem dX7_pass_275 : decode cX7_pass 275 = .ok (.iload_n 1, 1) := by decide +kernel
theorem dX7_pass_276 : decode cX7_pass 276 = .ok (.iaload, 1) := by decide +kernel
theorem dX7_pass_277 : decode cX7_pass 277 = .ok (.if_icmp .ge 115, 3) := by decide +kernel
theorem dX7_pass_280 : decode cX7_pass 280 = .ok (.iload 5, 2) := by decide +kernel
theorem dX7_pass_282 : decode cX7_pass 282 = .ok (.ifCond .eq 47, 3) := by decide +kernel
theorem dX7_pass_285 : decode cX7_pass 285 = .ok (.iload 5, 2) := by decide +kernel
theorem dX7_pass_287 : decode cX7_pass 287 = .ok (.ifCond .le 20, 3) := by decide +kernel
theorem dX7_pass_290 : decode cX7_pass 290 = .ok (.aload_n 0, 1) := by decide +kernel
theorem dX7_pass_291 : decode cX7_pass 291 = .ok (.getfield 37, 3) := by decide +kernel
theorem dX7_pass_294 : decode cX7_pass 294 = .ok (.iload 6, 2) := by decide +kernel
theorem dX7_pass_296 : decode cX7_pass 296 = .ok (.iaload, 1) := by decide +kernel
theorem dX7_pass_297 : decode cX7_pass 297 = .ok (.aload_n 0, 1) := by decide +kernel
theorem dX7_pass_298 : decode cX7_pass 298 = .ok (.getfield 34, 3) := by decide +kernel
theorem dX7_pass_301 : decode cX7_pass 301 = .ok (.iload 6, 2) := by decide +kernel
theorem dX7_pass_303 : decode cX7_pass 303 = .ok (.iaload, 1) := by decide +kernel
theorem dX7_pass_304 : decode cX7_pass 304 = .ok (.if_icmp .gt 25, 3) := by decide +kernel
theorem dX7_pass_307 : decode cX7_pass 307 = .ok (.iload 5, 2) := by decide +kernel
theorem dX7_pass_309 : decode cX7_pass 309 = .ok (.ifCond .ge 24, 3) := by decide +kernel
theorem dX7_pass_312 : decode cX7_pass 312 = .ok (.aload_n 0, 1) := by decide +kernel
theorem dX7_pass_313 : decode cX7_pass 313 = .ok (.getfield 37, 3) := by decide +kernel
theorem dX7_pass_316 : decode cX7_pass 316 = .ok (.iload 6, 2) := by decide +kernel
theorem dX7_pass_318 : decode cX7_pass 318 = .ok (.iaload, 1) := by decide +kernel
theorem dX7_pass_319 : decode cX7_pass 319 = .ok (.aload_n 0, 1) := by decide +kernel
theorem dX7_pass_320 : decode cX7_pass 320 = .ok (.getfield 34, 3) := by decide +kernel
theorem dX7_pass_323 : decode cX7_pass 323 = .ok (.iload 6, 2) := by decide +kernel
theorem dX7_pass_325 : decode cX7_pass 325 = .ok (.iaload, 1) := by decide +kernel
theorem dX7_pass_326 : decode cX7_pass 326 = .ok (.if_icmp .ge 7, 3) := by decide +kernel
theorem dX7_pass_329 : decode cX7_pass 329 = .ok (.iconst 1, 1) := by decide +kernel
theorem dX7_pass_330 : decode cX7_pass 330 = .ok (.goto 4, 3) := by decide +kernel
theorem dX7_pass_333 : decode cX7_pass 333 = .ok (.iconst 0, 1) := by decide +kernel
theorem dX7_pass_334 : decode cX7_pass 334 = .ok (.istore 7, 2) := by decide +kernel
theorem dX7_pass_336 : decode cX7_pass 336 = .ok (.aload_n 0, 1) := by decide +kernel
theorem dX7_pass_337 : decode cX7_pass 337 = .ok (.getfield 43, 3) := by decide +kernel
theorem dX7_pass_340 : decode cX7_pass 340 = .ok (.iload 6, 2) := by decide +kernel
theorem dX7_pass_342 : decode cX7_pass 342 = .ok (.baload, 1) := by decide +kernel
theorem dX7_pass_343 : decode cX7_pass 343 = .ok (.ifCond .ne 43, 3) := by decide +kernel
theorem dX7_pass_346 : decode cX7_pass 346 = .ok (.iload 7, 2) := by decide +kernel
theorem dX7_pass_348 : decode cX7_pass 348 = .ok (.ifCond .eq 38, 3) := by decide +kernel
theorem dX7_pass_351 : decode cX7_pass 351 = .ok (.aload_n 0, 1) := by decide +kernel
theorem dX7_pass_352 : decode cX7_pass 352 = .ok (.getfield 43, 3) := by decide +kernel
theorem dX7_pass_355 : decode cX7_pass 355 = .ok (.iload 6, 2) := by decide +kernel
theorem dX7_pass_357 : decode cX7_pass 357 = .ok (.iconst 1, 1) := by decide +kernel
theorem dX7_pass_358 : decode cX7_pass 358 = .ok (.bastore, 1) := by decide +kernel
theorem dX7_pass_359 : decode cX7_pass 359 = .ok (.aload_n 0, 1) := by decide +kernel
theorem dX7_pass_360 : decode cX7_pass 360 = .ok (.getfield 34, 3) := by decide +kernel
theorem dX7_pass_363 : decode cX7_pass 363 = .ok (.iload 6, 2) := by decide +kernel
theorem dX7_pass_365 : decode cX7_pass 365 = .ok (.aload_n 0, 1) := by decide +kernel
theorem dX7_pass_366 : decode cX7_pass 366 = .ok (.getfield 37, 3) := by decide +kernel
theorem dX7_pass_369 : decode cX7_pass 369 = .ok (.iload 6, 2) := by decide +kernel
theorem dX7_pass_371 : decode cX7_pass 371 = .ok (.iaload, 1) := by decide +kernel
theorem dX7_pass_372 : decode cX7_pass 372 = .ok (.iastore, 1) := by decide +kernel
theorem dX7_pass_373 : decode cX7_pass 373 = .ok (.aload_n 0, 1) := by decide +kernel
theorem dX7_pass_374 : decode cX7_pass 374 = .ok (.getfield 40, 3) := by decide +kernel
theorem dX7_pass_377 : decode cX7_pass 377 = .ok (.iload 6, 2) := by decide +kernel
theorem dX7_pass_379 : decode cX7_pass 379 = .ok (.aload_n 0, 1) := by decide +kernel
theorem dX7_pass_380 : decode cX7_pass 380 = .ok (.getfield 53, 3) := by decide +kernel
theorem dX7_pass_383 : decode cX7_pass 383 = .ok (.iload_n 1, 1) := by decide +kernel
theorem dX7_pass_384 : decode cX7_pass 384 = .ok (.iaload, 1) := by decide +kernel
theorem dX7_pass_385 : decode cX7_pass 385 = .ok (.iastore, 1) := by decide +kernel
theorem dX7_pass_386 : decode cX7_pass 386 = .ok (.iinc 6 1, 3) := by decide +kernel
theorem dX7_pass_389 : decode cX7_pass 389 = .ok (.goto (-120), 3) := by decide +kernel
theorem dX7_pass_392 : decode cX7_pass 392 = .ok (.return_, 1) := by decide +kernel
theorem dX7_sizes_0 : decode cX7_sizes 0 = .ok (.iconst 0, 1) := by decide +kernel
theorem dX7_sizes_1 : decode cX7_sizes 1 = .ok (.istore_n 3, 1) := by decide +kernel
theorem dX7_sizes_2 : decode cX7_sizes 2 = .ok (.aload_n 0, 1) := by decide +kernel
theorem dX7_sizes_3 : decode cX7_sizes 3 = .ok (.getfield 47, 3) := by decide +kernel
theorem dX7_sizes_6 : decode cX7_sizes 6 = .ok (.iload_n 1, 1) := by decide +kernel
theorem dX7_sizes_7 : decode cX7_sizes 7 = .ok (.iload_n 2, 1) := by decide +kernel
theorem dX7_sizes_8 : decode cX7_sizes 8 = .ok (.aload_n 0, 1) := by decide +kernel
theorem dX7_sizes_9 : decode cX7_sizes 9 = .ok (.getfield 7, 3) := by decide +kernel
theorem dX7_sizes_12 : decode cX7_sizes 12 = .ok (.sipush 178, 3) := by decide +kernel
theorem dX7_sizes_15 : decode cX7_sizes 15 = .ok (.iaload, 1) := by decide +kernel
theorem dX7_sizes_16 : decode cX7_sizes 16 = .ok (.aload_n 0, 1) := by decide +kernel
theorem dX7_sizes_17 : decode cX7_sizes 17 = .ok (.getfield 31, 3) := by decide +kernel
theorem dX7_sizes_20 : decode cX7_sizes 20 = .ok (.iload_n 1, 1) := by decide +kernel
theorem dX7_sizes_21 : decode cX7_sizes 21 = .ok (.iaload, 1) := by decide +kernel
theorem dX7_sizes_22 : decode cX7_sizes 22 = .ok (.aload_n 0, 1) := by decide +kernel
theorem dX7_sizes_23 : decode cX7_sizes 23 = .ok (.getfield 28, 3) := by decide +kernel
theorem dX7_sizes_26 : decode cX7_sizes 26 = .ok (.iload_n 1, 1) := by decide +kernel
theorem dX7_sizes_27 : decode cX7_sizes 27 = .ok (.iaload, 1) := by decide +kernel
theorem dX7_sizes_28 : decode cX7_sizes 28 = .ok (.isub, 1) := by decide +kernel
theorem dX7_sizes_29 : decode cX7_sizes 29 = .ok (.iconst 1, 1) := by decide +kernel
theorem dX7_sizes_30 : decode cX7_sizes 30 = .ok (.isub, 1) := by decide +kernel
theorem dX7_sizes_31 : decode cX7_sizes 31 = .ok (.imul, 1) := by decide +kernel
theorem dX7_sizes_32 : decode cX7_sizes 32 = .ok (.isub, 1) := by decide +kernel
theorem dX7_sizes_33 : decode cX7_sizes 33 = .ok (.iastore, 1) := by decide +kernel
theorem dX7_sizes_34 : decode cX7_sizes 34 = .ok (.aload_n 0, 1) := by decide +kernel
theorem dX7_sizes_35 : decode cX7_sizes 35 = .ok (.getfield 28, 3) := by decide +kernel
theorem dX7_sizes_38 : decode cX7_sizes 38 = .ok (.iload_n 1, 1) := by decide +kernel
theorem dX7_sizes_39 : decode cX7_sizes 39 = .ok (.iaload, 1) := by decide +kernel
theorem dX7_sizes_40 : decode cX7_sizes 40 = .ok (.istore 4, 2) := by decide +kernel
theorem dX7_sizes_42 : decode cX7_sizes 42 = .ok (.iload 4, 2) := by decide +kernel
theorem dX7_sizes_44 : decode cX7_sizes 44 = .ok (.aload_n 0, 1) := by decide +kernel
theorem dX7_sizes_45 : decode cX7_sizes 45 = .ok (.getfield 31, 3) := by decide +kernel
theorem dX7_sizes_48 : decode cX7_sizes 48 = .ok (.iload_n 1, 1) := by decide +kernel
theorem dX7_sizes_49 : decode cX7_sizes 49 = .ok (.iaload, 1) := by decide +kernel
theorem dX7_sizes_50 : decode cX7_sizes 50 = .ok (.if_icmp .ge 46, 3) := by decide +kernel
theorem dX7_sizes_53 : decode cX7_sizes 53 = .ok (.iload_n 3, 1) := by decide +kernel
theorem dX7_sizes_54 : decode cX7_sizes 54 = .ok (.aload_n 0, 1) := by decide +kernel
theorem dX7_sizes_55 : decode cX7_sizes 55 = .ok (.aload_n 0, 1) := by decide +kernel
theorem dX7_sizes_56 : decode cX7_sizes 56 = .ok (.getfield 22, 3) := by decide +kernel
theorem dX7_sizes_59 : decode cX7_sizes 59 = .ok (.iload 4, 2) := by decide +kernel
theorem dX7_sizes_61 : decode cX7_sizes 61 = .ok (.iaload, 1) := by decide +kernel
theorem dX7_sizes_62 : decode cX7_sizes 62 = .ok (.invokevirtual 179, 3) := by decide +kernel
theorem dX7_sizes_65 : decode cX7_sizes 65 = .ok (.iadd, 1) := by decide +kernel
theorem dX7_sizes_66 : decode cX7_sizes 66 = .ok (.istore_n 3, 1) := by decide +kernel
theorem dX7_sizes_67 : decode cX7_sizes 67 = .ok (.aload_n 0, 1) := by decide +kernel
theorem dX7_sizes_68 : decode cX7_sizes 68 = .ok (.getfield 47, 3) := by decide +kernel
theorem dX7_sizes_71 : decode cX7_sizes 71 = .ok (.iload_n 1, 1) := by decide +kernel
theorem dX7_sizes_72 : decode cX7_sizes 72 = .ok (.dup2, 1) := by decide +kernel
theorem dX7_sizes_73 : decode cX7_sizes 73 = .ok (.iaload, 1) := by decide +kernel
theorem dX7_sizes_74 : decode cX7_sizes 74 = .ok (.iconst 2, 1) := by decide +kernel
theorem dX7_sizes_75 : decode cX7_sizes 75 = .ok (.aload_n 0, 1) := by decide +kernel
theorem dX7_sizes_76 : decode cX7_sizes 76 = .ok (.aload_n 0, 1) := by decide +kernel
theorem dX7_sizes_77 : decode cX7_sizes 77 = .ok (.getfield 22, 3) := by decide +kernel
theorem dX7_sizes_80 : decode cX7_sizes 80 = .ok (.iload 4, 2) := by decide +kernel
theorem dX7_sizes_82 : decode cX7_sizes 82 = .ok (.iaload, 1) := by decide +kernel
theorem dX7_sizes_83 : decode cX7_sizes 83 = .ok (.iconst 5, 1) := by decide +kernel
theorem dX7_sizes_84 : decode cX7_sizes 84 = .ok (.invokevirtual 157, 3) := by decide +kernel
theorem dX7_sizes_87 : decode cX7_sizes 87 = .ok (.imul, 1) := by decide +kernel
theorem dX7_sizes_88 : decode cX7_sizes 88 = .ok (.isub, 1) := by decide +kernel
theorem dX7_sizes_89 : decode cX7_sizes 89 = .ok (.iastore, 1) := by decide +kernel
theorem dX7_sizes_90 : decode cX7_sizes 90 = .ok (.iinc 4 1, 3) := by decide +kernel
theorem dX7_sizes_93 : decode cX7_sizes 93 = .ok (.goto (-51), 3) := by decide +kernel
theorem dX7_sizes_96 : decode cX7_sizes 96 = .ok (.aload_n 0, 1) := by decide +kernel
theorem dX7_sizes_97 : decode cX7_sizes 97 = .ok (.getfield 56, 3) := by decide +kernel
theorem dX7_sizes_100 : decode cX7_sizes 100 = .ok (.iload_n 1, 1) := by decide +kernel
theorem dX7_sizes_101 : decode cX7_sizes 101 = .ok (.iload_n 3, 1) := by decide +kernel
theorem dX7_sizes_102 : decode cX7_sizes 102 = .ok (.aload_n 0, 1) := by decide +kernel
theorem dX7_sizes_103 : decode cX7_sizes 103 = .ok (.getfield 47, 3) := by decide +kernel
theorem dX7_sizes_106 : decode cX7_sizes 106 = .ok (.iload_n 1, 1) := by decide +kernel
theorem dX7_sizes_107 : decode cX7_sizes 107 = .ok (.iaload, 1) := by decide +kernel
theorem dX7_sizes_108 : decode cX7_sizes 108 = .ok (.if_icmp .ge 7, 3) := by decide +kernel
theorem dX7_sizes_111 : decode cX7_sizes 111 = .ok (.iconst 1, 1) := by decide +kernel
theorem dX7_sizes_112 : decode cX7_sizes 112 = .ok (.goto 4, 3) := by decide +kernel
theorem dX7_sizes_115 : decode cX7_sizes 115 = .ok (.iconst 0, 1) := by decide +kernel
theorem dX7_sizes_116 : decode cX7_sizes 116 = .ok (.bastore, 1) := by decide +kernel
theorem dX7_sizes_117 : decode cX7_sizes 117 = .ok (.aload_n 0, 1) := by decide +kernel
theorem dX7_sizes_118 : decode cX7_sizes 118 = .ok (.getfield 28, 3) := by decide +kernel
theorem dX7_sizes_121 : decode cX7_sizes 121 = .ok (.iload_n 1, 1) := by decide +kernel
theorem dX7_sizes_122 : decode cX7_sizes 122 = .ok (.iaload, 1) := by decide +kernel
theorem dX7_sizes_123 : decode cX7_sizes 123 = .ok (.istore 4, 2) := by decide +kernel
theorem dX7_sizes_125 : decode cX7_sizes 125 = .ok (.iload 4, 2) := by decide +kernel
theorem dX7_sizes_127 : decode cX7_sizes 127 = .ok (.aload_n 0, 1) := by decide +kernel
theorem dX7_sizes_128 : decode cX7_sizes 128 = .ok (.getfield 31, 3) := by decide +kernel
theorem dX7_sizes_131 : decode cX7_sizes 131 = .ok (.iload_n 1, 1) := by decide +kernel
theorem dX7_sizes_132 : decode cX7_sizes 132 = .ok (.iaload, 1) := by decide +kernel
theorem dX7_sizes_133 : decode cX7_sizes 133 = .ok (.if_icmp .ge 120, 3) := by decide +kernel
theorem dX7_sizes_136 : decode cX7_sizes 136 = .ok (.aload_n 0, 1) := by decide +kernel
theorem dX7_sizes_137 : decode cX7_sizes 137 = .ok (.getfield 22, 3) := by decide +kernel
theorem dX7_sizes_140 : decode cX7_sizes 140 = .ok (.iload 4, 2) := by decide +kernel
theorem dX7_sizes_142 : decode cX7_sizes 142 = .ok (.iaload, 1) := by decide +kernel
theorem dX7_sizes_143 : decode cX7_sizes 143 = .ok (.istore 5, 2) := by decide +kernel
theorem dX7_sizes_145 : decode cX7_sizes 145 = .ok (.aload_n 0, 1) := by decide +kernel
theorem dX7_sizes_146 : decode cX7_sizes 146 = .ok (.getfield 43, 3) := by decide +kernel
theorem dX7_sizes_149 : decode cX7_sizes 149 = .ok (.iload 4, 2) := by decide +kernel
theorem dX7_sizes_151 : decode cX7_sizes 151 = .ok (.aload_n 0, 1) := by decide +kernel
theorem dX7_sizes_152 : decode cX7_sizes 152 = .ok (.getfield 56, 3) := by decide +kernel
theorem dX7_sizes_155 : decode cX7_sizes 155 = .ok (.iload_n 1, 1) := by decide +kernel
theorem dX7_sizes_156 : decode cX7_sizes 156 = .ok (.baload, 1) := by decide +kernel
theorem dX7_sizes_157 : decode cX7_sizes 157 = .ok (.ifCond .eq 37, 3) := by decide +kernel
theorem dX7_sizes_160 : decode cX7_sizes 160 = .ok (.aload_n 0, 1) := by decide +kernel
theorem dX7_sizes_161 : decode cX7_sizes 161 = .ok (.iload 5, 2) := by decide +kernel
theorem dX7_sizes_163 : decode cX7_sizes 163 = .ok (.iconst 1, 1) := by decide +kernel
theorem dX7_sizes_164 : decode cX7_sizes 164 = .ok (.invokevirtual 157, 3) := by decide +kernel
theorem dX7_sizes_167 : decode cX7_sizes 167 = .ok (.ifCond .eq 19, 3) := by decide +kernel
theorem dX7_sizes_170 : decode cX7_sizes 170 = .ok (.aload_n 0, 1) := by decide +kernel
theorem dX7_sizes_171 : decode cX7_sizes 171 = .ok (.iload 5, 2) := by decide +kernel
theorem dX7_sizes_173 : decode cX7_sizes 173 = .ok (.iconst 0, 1) := by decide +kernel
theorem dX7_sizes_174 : decode cX7_sizes 174 = .ok (.invokevirtual 157, 3) := by decide +kernel
theorem dX7_sizes_177 : decode cX7_sizes 177 = .ok (.aload_n 0, 1) := by decide +kernel
theorem dX7_sizes_178 : decode cX7_sizes 178 = .ok (.iload 5, 2) := by decide +kernel
theorem dX7_sizes_180 : decode cX7_sizes 180 = .ok (.invokevirtual 179, 3) := by decide +kernel
theorem dX7_sizes_183 : decode cX7_sizes 183 = .ok (.if_icmp .le 7, 3) := by decide +kernel
theorem dX7_sizes_186 : decode cX7_sizes 186 = .ok (.iconst 1, 1) := by decide +kernel
theorem dX7_sizes_187 : decode cX7_sizes 187 = .ok (.goto 38, 3) := by decide +kernel
theorem dX7_sizes_190 : decode cX7_sizes 190 = .ok (.iconst 0, 1) := by decide +kernel
theorem dX7_sizes_191 : decode cX7_sizes 191 = .ok (.goto 34, 3) := by decide +kernel
theorem dX7_sizes_194 : decode cX7_sizes 194 = .ok (.aload_n 0, 1) := by decide +kernel
theorem dX7_sizes_195 : decode cX7_sizes 195 = .ok (.iload 5, 2) := by decide +kernel
theorem dX7_sizes_197 : decode cX7_sizes 197 = .ok (.iconst 2, 1) := by decide +kernel
theorem dX7_sizes_198 : decode cX7_sizes 198 = .ok (.invokevirtual 157, 3) := by decide +kernel
theorem dX7_sizes_201 : decode cX7_sizes 201 = .ok (.ifCond .eq 19, 3) := by decide +kernel
theorem dX7_sizes_204 : decode cX7_sizes 204 = .ok (.aload_n 0, 1) := by decide +kernel
theorem dX7_sizes_205 : decode cX7_sizes 205 = .ok (.iload 5, 2) := by decide +kernel
theorem dX7_sizes_207 : decode cX7_sizes 207 = .ok (.iconst 0, 1) := by decide +kernel
theorem dX7_sizes_208 : decode cX7_sizes 208 = .ok (.invokevirtual 157, 3) := by decide +kernel
theorem dX7_sizes_211 : decode cX7_sizes 211 = .ok (.aload_n 0, 1) := by decide +kernel
theorem dX7_sizes_212 : decode cX7_sizes 212 = .ok (.iload 5, 2) := by decide +kernel
theorem dX7_sizes_214 : decode cX7_sizes 214 = .ok (.invokevirtual 179, 3) := by decide +kernel
theorem dX7_sizes_217 : decode cX7_sizes 217 = .ok (.if_icmp .ge 7, 3) := by decide +kernel
theorem dX7_sizes_220 : decode cX7_sizes 220 = .ok (.iconst 1, 1) := by decide +kernel
theorem dX7_sizes_221 : decode cX7_sizes 221 = .ok (.goto 4, 3) := by decide +kernel
theorem dX7_sizes_224 : decode cX7_sizes 224 = .ok (.iconst 0, 1) := by decide +kernel
theorem dX7_sizes_225 : decode cX7_sizes 225 = .ok (.bastore, 1) := by decide +kernel
theorem dX7_sizes_226 : decode cX7_sizes 226 = .ok (.aload_n 0, 1) := by decide +kernel
theorem dX7_sizes_227 : decode cX7_sizes 227 = .ok (.getfield 34, 3) := by decide +kernel
theorem dX7_sizes_230 : decode cX7_sizes 230 = .ok (.iload 4, 2) := by decide +kernel
theorem dX7_sizes_232 : decode cX7_sizes 232 = .ok (.aload_n 0, 1) := by decide +kernel
theorem dX7_sizes_233 : decode cX7_sizes 233 = .ok (.iload 5, 2) := by decide +kernel
theorem dX7_sizes_235 : decode cX7_sizes 235 = .ok (.invokevirtual 179, 3) := by decide +kernel
theorem dX7_sizes_238 : decode cX7_sizes 238 = .ok (.iastore, 1) := by decide +kernel
theorem dX7_sizes_239 : decode cX7_sizes 239 = .ok (.aload_n 0, 1) := by decide +kernel
theorem dX7_sizes_240 : decode cX7_sizes 240 = .ok (.getfield 40, 3) := by decide +kernel
theorem dX7_sizes_243 : decode cX7_sizes 243 = .ok (.iload 4, 2) := by decide +kernel
theorem dX7_sizes_245 : decode cX7_sizes 245 = .ok (.iconst 0, 1) := by decide +kernel
theorem dX7_sizes_246 : decode cX7_sizes 246 = .ok (.iastore, 1) := by decide +kernel
theorem dX7_sizes_247 : decode cX7_sizes 247 = .ok (.iinc 4 1, 3) := by decide +kernel
theorem dX7_sizes_250 : decode cX7_sizes 250 = .ok (.goto (-125), 3) := by decide +kernel
theorem dX7_sizes_253 : decode cX7_sizes 253 = .ok (.aload_n 0, 1) := by decide +kernel
theorem dX7_sizes_254 : decode cX7_sizes 254 = .ok (.getfield 53, 3) := by decide +kernel
theorem dX7_sizes_257 : decode cX7_sizes 257 = .ok (.iload_n 1, 1) := by decide +kernel
theorem dX7_sizes_258 : decode cX7_sizes 258 = .ok (.iconst 0, 1) := by decide +kernel
theorem dX7_sizes_259 : decode cX7_sizes 259 = .ok (.iastore, 1) := by decide +kernel
theorem dX7_sizes_260 : decode cX7_sizes 260 = .ok (.aload_n 0, 1) := by decide +kernel
theorem dX7_sizes_261 : decode cX7_sizes 261 = .ok (.iload_n 1, 1) := by decide +kernel
theorem dX7_sizes_262 : decode cX7_sizes 262 = .ok (.invokevirtual 195, 3) := by decide +kernel
theorem dX7_sizes_265 : decode cX7_sizes 265 = .ok (.ifCond .eq 21, 3) := by decide +kernel
theorem dX7_sizes_268 : decode cX7_sizes 268 = .ok (.aload_n 0, 1) := by decide +kernel
theorem dX7_sizes_269 : decode cX7_sizes 269 = .ok (.getfield 53, 3) := by decide +kernel
theorem dX7_sizes_272 : decode cX7_sizes 272 = .ok (.iload_n 1, 1) := by decide +kernel
theorem dX7_sizes_273 : decode cX7_sizes 273 = .ok (.dup2, 1) := by decide +kernel
theorem dX7_sizes_274 : decode cX7_sizes 274 = .ok (.iaload, 1) := by decide +kernel
theorem dX7_sizes_275 : decode cX7_sizes 275 = .ok (.iconst 1, 1) := by decide +kernel
theorem dX7_sizes_276 : decode cX7_sizes 276 = .ok (.iadd, 1) := by decide +kernel
theorem dX7_sizes_277 : decode cX7_sizes 277 = .ok (.iastore, 1) := by decide +kernel
theorem dX7_sizes_278 : decode cX7_sizes 278 = .ok (.aload_n 0, 1) := by decide +kernel
theorem dX7_sizes_279 : decode cX7_sizes 279 = .ok (.iload_n 1, 1) := by decide +kernel
theorem dX7_sizes_280 : decode cX7_sizes 280 = .ok (.invokevirtual 198, 3) := by decide +kernel
theorem dX7_sizes_283 : decode cX7_sizes 283 = .ok (.goto (-23), 3) := by decide +kernel
theorem dX7_sizes_286 : decode cX7_sizes 286 = .ok (.aload_n 0, 1) := by decide +kernel
theorem dX7_sizes_287 : decode cX7_sizes 287 = .ok (.getfield 50, 3) := by decide +kernel
theorem dX7_sizes_290 : decode cX7_sizes 290 = .ok (.iload_n 1, 1) := by decide +kernel
theorem dX7_sizes_291 : decode cX7_sizes 291 = .ok (.aload_n 0, 1) := by decide +kernel
theorem dX7_sizes_292 : decode cX7_sizes 292 = .ok (.getfield 47, 3) := by decide +kernel
theorem dX7_sizes_295 : decode cX7_sizes 295 = .ok (.iload_n 1, 1) := by decide +kernel
theorem dX7_sizes_296 : decode cX7_sizes 296 = .ok (.iaload, 1) := by decide +kernel
theorem dX7_sizes_297 : decode cX7_sizes 297 = .ok (.iastore, 1) := by decide +kernel
theorem dX7_sizes_298 : decode cX7_sizes 298 = .ok (.aload_n 0, 1) := by decide +kernel
theorem dX7_sizes_299 : decode cX7_sizes 299 = .ok (.getfield 28, 3) := by decide +kernel
theorem dX7_sizes_302 : decode cX7_sizes 302 = .ok (.iload_n 1, 1) := by decide +kernel
theorem dX7_sizes_303 : decode cX7_sizes 303 = .ok (.iaload, 1) := by decide +kernel
theorem dX7_sizes_304 : decode cX7_sizes 304 = .ok (.istore 4, 2) := by decide +kernel
theorem dX7_sizes_306 : decode cX7_sizes 306 = .ok (.iload 4, 2) := by decide +kernel
theorem dX7_sizes_308 : decode cX7_sizes 308 = .ok (.aload_n 0, 1) := by decide +kernel
theorem dX7_sizes_309 : decode cX7_sizes 309 = .ok (.getfield 31, 3) := by decide +kernel
theorem dX7_sizes_312 : decode cX7_sizes 312 = .ok (.iload_n 1, 1) := by decide +kernel
theorem dX7_sizes_313 : decode cX7_sizes 313 = .ok (.iaload, 1) := by decide +kernel
theorem dX7_sizes_314 : decode cX7_sizes 314 = .ok (.if_icmp .ge 25, 3) := by decide +kernel
theorem dX7_sizes_317 : decode cX7_sizes 317 = .ok (.aload_n 0, 1) := by decide +kernel
theorem dX7_sizes_318 : decode cX7_sizes 318 = .ok (.getfield 50, 3) := by decide +kernel
theorem dX7_sizes_321 : decode cX7_sizes 321 = .ok (.iload_n 1, 1) := by decide +kernel
theorem dX7_sizes_322 : decode cX7_sizes 322 = .ok (.dup2, 1) := by decide +kernel
theorem dX7_sizes_323 : decode cX7_sizes 323 = .ok (.iaload, 1) := by decide +kernel
theorem dX7_sizes_324 : decode cX7_sizes 324 = .ok (.aload_n 0, 1) := by decide +kernel
theorem dX7_sizes_325 : decode cX7_sizes 325 = .ok (.getfield 34, 3) := by decide +kernel
theorem dX7_sizes_328 : decode cX7_sizes 328 = .ok (.iload 4, 2) := by decide +kernel
theorem dX7_sizes_330 : decode cX7_sizes 330 = .ok (.iaload, 1) := by decide +kernel
theorem dX7_sizes_331 : decode cX7_sizes 331 = .ok (.isub, 1) := by decide +kernel
theorem dX7_sizes_332 : decode cX7_sizes 332 = .ok (.iastore, 1) := by decide +kernel
theorem dX7_sizes_333 : decode cX7_sizes 333 = .ok (.iinc 4 1, 3) := by decide +kernel
theorem dX7_sizes_336 : decode cX7_sizes 336 = .ok (.goto (-30), 3) := by decide +kernel
theorem dX7_sizes_339 : decode cX7_sizes 339 = .ok (.return_, 1) := by decide +kernel
theorem dX7_shift_0 : decode cX7_shift 0 = .ok (.aload_n 0, 1) := by decide +kernel
theorem dX7_shift_1 : decode cX7_shift 1 = .ok (.getfield 31, 3) := by decide +kernel
theorem dX7_shift_4 : decode cX7_shift 4 = .ok (.iload_n 1, 1) := by decide +kernel
theorem dX7_shift_5 : decode cX7_shift 5 = .ok (.iaload, 1) := by decide +kernel
theorem dX7_shift_6 : decode cX7_shift 6 = .ok (.aload_n 0, 1) := by decide +kernel
theorem dX7_shift_7 : decode cX7_shift 7 = .ok (.getfield 28, 3) := by decide +kernel
theorem dX7_shift_10 : decode cX7_shift 10 = .ok (.iload_n 1, 1) := by decide +kernel
theorem dX7_shift_11 : decode cX7_shift 11 = .ok (.iaload, 1) := by decide +kernel
theorem dX7_shift_12 : decode cX7_shift 12 = .ok (.isub, 1) := by decide +kernel
theorem dX7_shift_13 : decode cX7_shift 13 = .ok (.istore_n 3, 1) := by decide +kernel
theorem dX7_shift_14 : decode cX7_shift 14 = .ok (.aload_n 0, 1) := by decide +kernel
theorem dX7_shift_15 : decode cX7_shift 15 = .ok (.getfield 50, 3) := by decide +kernel
theorem dX7_shift_18 : decode cX7_shift 18 = .ok (.iload_n 1, 1) := by decide +kernel
theorem dX7_shift_19 : decode cX7_shift 19 = .ok (.iaload, 1) := by decide +kernel
theorem dX7_shift_20 : decode cX7_shift 20 = .ok (.istore 4, 2) := by decide +kernel
theorem dX7_shift_22 : decode cX7_shift 22 = .ok (.aload_n 0, 1) := by decide +kernel
theorem dX7_shift_23 : decode cX7_shift 23 = .ok (.getfield 7, 3) := by decide +kernel
theorem dX7_shift_26 : decode cX7_shift 26 = .ok (.sipush 181, 3) := by decide +kernel
theorem dX7_shift_29 : decode cX7_shift 29 = .ok (.iaload, 1) := by decide +kernel
theorem dX7_shift_30 : decode cX7_shift 30 = .ok (.istore 5, 2) := by decide +kernel
theorem dX7_shift_32 : decode cX7_shift 32 = .ok (.iload 4, 2) := by decide +kernel
theorem dX7_shift_34 : decode cX7_shift 34 = .ok (.ifCond .lt 8, 3) := by decide +kernel
theorem dX7_shift_37 : decode cX7_shift 37 = .ok (.iload_n 3, 1) := by decide +kernel
theorem dX7_shift_38 : decode cX7_shift 38 = .ok (.iconst 1, 1) := by decide +kernel
theorem dX7_shift_39 : decode cX7_shift 39 = .ok (.if_icmp .ne 27, 3) := by decide +kernel
theorem dX7_shift_42 : decode cX7_shift 42 = .ok (.iload 5, 2) := by decide +kernel
theorem dX7_shift_44 : decode cX7_shift 44 = .ok (.iconst 3, 1) := by decide +kernel
theorem dX7_shift_45 : decode cX7_shift 45 = .ok (.if_icmp .ne 7, 3) := by decide +kernel
theorem dX7_shift_48 : decode cX7_shift 48 = .ok (.iconst 0, 1) := by decide +kernel
theorem dX7_shift_49 : decode cX7_shift 49 = .ok (.goto 15, 3) := by decide +kernel
theorem dX7_shift_52 : decode cX7_shift 52 = .ok (.iload 5, 2) := by decide +kernel
theorem dX7_shift_54 : decode cX7_shift 54 = .ok (.iconst 3, 1) := by decide +kernel
theorem dX7_shift_55 : decode cX7_shift 55 = .ok (.if_icmp .le 7, 3) := by decide +kernel
theorem dX7_shift_58 : decode cX7_shift 58 = .ok (.iconst 2, 1) := by decide +kernel
theorem dX7_shift_59 : decode cX7_shift 59 = .ok (.goto 5, 3) := by decide +kernel
theorem dX7_shift_62 : decode cX7_shift 62 = .ok (.iload 5, 2) := by decide +kernel
theorem dX7_shift_64 : decode cX7_shift 64 = .ok (.istore 5, 2) := by decide +kernel
theorem dX7_shift_66 : decode cX7_shift 66 = .ok (.iload 5, 2) := by decide +kernel
theorem dX7_shift_68 : decode cX7_shift 68 = .ok (.tableswitch 70 0 4 #[36, 38, 41, 48, 57], 36) := by decide +kernel
theorem dX7_shift_104 : decode cX7_shift 104 = .ok (.iconst 0, 1) := by decide +kernel
theorem dX7_shift_105 : decode cX7_shift 105 = .ok (.ireturn, 1) := by decide +kernel
theorem dX7_shift_106 : decode cX7_shift 106 = .ok (.iload 4, 2) := by decide +kernel
theorem dX7_shift_108 : decode cX7_shift 108 = .ok (.ireturn, 1) := by decide +kernel
theorem dX7_shift_109 : decode cX7_shift 109 = .ok (.iload 4, 2) := by decide +kernel
theorem dX7_shift_111 : decode cX7_shift 111 = .ok (.iconst 2, 1) := by decide +kernel
theorem dX7_shift_112 : decode cX7_shift 112 = .ok (.invokestatic 201, 3) := by decide +kernel
theorem dX7_shift_115 : decode cX7_shift 115 = .ok (.ireturn, 1) := by decide +kernel
theorem dX7_shift_116 : decode cX7_shift 116 = .ok (.iload 4, 2) := by decide +kernel
theorem dX7_shift_118 : decode cX7_shift 118 = .ok (.iload_n 2, 1) := by decide +kernel
theorem dX7_shift_119 : decode cX7_shift 119 = .ok (.imul, 1) := by decide +kernel
theorem dX7_shift_120 : decode cX7_shift 120 = .ok (.iload_n 3, 1) := by decide +kernel
theorem dX7_shift_121 : decode cX7_shift 121 = .ok (.iconst 1, 1) := by decide +kernel
theorem dX7_shift_122 : decode cX7_shift 122 = .ok (.isub, 1) := by decide +kernel
theorem dX7_shift_123 : decode cX7_shift 123 = .ok (.idiv, 1) := by decide +kernel
theorem dX7_shift_124 : decode cX7_shift 124 = .ok (.ireturn, 1) := by decide +kernel
theorem dX7_shift_125 : decode cX7_shift 125 = .ok (.iload 4, 2) := by decide +kernel
theorem dX7_shift_127 : decode cX7_shift 127 = .ok (.iconst 2, 1) := by decide +kernel
theorem dX7_shift_128 : decode cX7_shift 128 = .ok (.iload_n 2, 1) := by decide +kernel
theorem dX7_shift_129 : decode cX7_shift 129 = .ok (.imul, 1) := by decide +kernel
theorem dX7_shift_130 : decode cX7_shift 130 = .ok (.iconst 1, 1) := by decide +kernel
theorem dX7_shift_131 : decode cX7_shift 131 = .ok (.iadd, 1) := by decide +kernel
theorem dX7_shift_132 : decode cX7_shift 132 = .ok (.imul, 1) := by decide +kernel
theorem dX7_shift_133 : decode cX7_shift 133 = .ok (.iconst 2, 1) := by decide +kernel
theorem dX7_shift_134 : decode cX7_shift 134 = .ok (.iload_n 3, 1) := by decide +kernel
theorem dX7_shift_135 : decode cX7_shift 135 = .ok (.imul, 1) := by decide +kernel
theorem dX7_shift_136 : decode cX7_shift 136 = .ok (.idiv, 1) := by decide +kernel
theorem dX7_shift_137 : decode cX7_shift 137 = .ok (.ireturn, 1) := by decide +kernel
theorem dX7_shift_138 : decode cX7_shift 138 = .ok (.iload 4, 2) := by decide +kernel
theorem dX7_shift_140 : decode cX7_shift 140 = .ok (.iload_n 2, 1) := by decide +kernel
theorem dX7_shift_141 : decode cX7_shift 141 = .ok (.iconst 1, 1) := by decide +kernel
theorem dX7_shift_142 : decode cX7_shift 142 = .ok (.iadd, 1) := by decide +kernel
theorem dX7_shift_143 : decode cX7_shift 143 = .ok (.imul, 1) := by decide +kernel
theorem dX7_shift_144 : decode cX7_shift 144 = .ok (.iload_n 3, 1) := by decide +kernel
theorem dX7_shift_145 : decode cX7_shift 145 = .ok (.iconst 1, 1) := by decide +kernel
theorem dX7_shift_146 : decode cX7_shift 146 = .ok (.iadd, 1) := by decide +kernel
theorem dX7_shift_147 : decode cX7_shift 147 = .ok (.idiv, 1) := by decide +kernel
theorem dX7_shift_148 : decode cX7_shift 148 = .ok (.ireturn, 1) := by decide +kernel
theorem dX7_along_0 : decode cX7_along 0 = .ok (.iconst 0, 1) := by decide +kernel
theorem dX7_along_1 : decode cX7_along 1 = .ok (.istore_n 3, 1) := by decide +kernel
theorem dX7_along_2 : decode cX7_along 2 = .ok (.aload_n 0, 1) := by decide +kernel
theorem dX7_along_3 : decode cX7_along 3 = .ok (.getfield 28, 3) := by decide +kernel
theorem dX7_along_6 : decode cX7_along 6 = .ok (.iload_n 1, 1) := by decide +kernel
theorem dX7_along_7 : decode cX7_along 7 = .ok (.iaload, 1) := by decide +kernel
theorem dX7_along_8 : decode cX7_along 8 = .ok (.istore 4, 2) := by decide +kernel
theorem dX7_along_10 : decode cX7_along 10 = .ok (.iload 4, 2) := by decide +kernel
theorem dX7_along_12 : decode cX7_along 12 = .ok (.aload_n 0, 1) := by decide +kernel
theorem dX7_along_13 : decode cX7_along 13 = .ok (.getfield 31, 3) := by decide +kernel
theorem dX7_along_16 : decode cX7_along 16 = .ok (.iload_n 1, 1) := by decide +kernel
theorem dX7_along_17 : decode cX7_along 17 = .ok (.iaload, 1) := by decide +kernel
theorem dX7_along_18 : decode cX7_along 18 = .ok (.if_icmp .ge 104, 3) := by decide +kernel
theorem dX7_along_21 : decode cX7_along 21 = .ok (.aload_n 0, 1) := by decide +kernel
theorem dX7_along_22 : decode cX7_along 22 = .ok (.aload_n 0, 1) := by decide +kernel
theorem dX7_along_23 : decode cX7_along 23 = .ok (.getfield 22, 3) := by decide +kernel
theorem dX7_along_26 : decode cX7_along 26 = .ok (.iload 4, 2) := by decide +kernel
theorem dX7_along_28 : decode cX7_along 28 = .ok (.iaload, 1) := by decide +kernel
theorem dX7_along_29 : decode cX7_along 29 = .ok (.iconst 5, 1) := by decide +kernel
theorem dX7_along_30 : decode cX7_along 30 = .ok (.invokevirtual 157, 3) := by decide +kernel
theorem dX7_along_33 : decode cX7_along 33 = .ok (.istore 5, 2) := by decide +kernel
theorem dX7_along_35 : decode cX7_along 35 = .ok (.iload_n 3, 1) := by decide +kernel
theorem dX7_along_36 : decode cX7_along 36 = .ok (.iload 5, 2) := by decide +kernel
theorem dX7_along_38 : decode cX7_along 38 = .ok (.iadd, 1) := by decide +kernel
theorem dX7_along_39 : decode cX7_along 39 = .ok (.aload_n 0, 1) := by decide +kernel
theorem dX7_along_40 : decode cX7_along 40 = .ok (.iload_n 1, 1) := by decide +kernel
theorem dX7_along_41 : decode cX7_along 41 = .ok (.iload 4, 2) := by decide +kernel
theorem dX7_along_43 : decode cX7_along 43 = .ok (.aload_n 0, 1) := by decide +kernel
theorem dX7_along_44 : decode cX7_along 44 = .ok (.getfield 28, 3) := by decide +kernel
theorem dX7_along_47 : decode cX7_along 47 = .ok (.iload_n 1, 1) := by decide +kernel
theorem dX7_along_48 : decode cX7_along 48 = .ok (.iaload, 1) := by decide +kernel
theorem dX7_along_49 : decode cX7_along 49 = .ok (.isub, 1) := by decide +kernel
theorem dX7_along_50 : decode cX7_along 50 = .ok (.invokevirtual 204, 3) := by decide +kernel
theorem dX7_along_53 : decode cX7_along 53 = .ok (.iadd, 1) := by decide +kernel
theorem dX7_along_54 : decode cX7_along 54 = .ok (.istore 6, 2) := by decide +kernel
theorem dX7_along_56 : decode cX7_along 56 = .ok (.aload_n 0, 1) := by decide +kernel
theorem dX7_along_57 : decode cX7_along 57 = .ok (.getfield 59, 3) := by decide +kernel
theorem dX7_along_60 : decode cX7_along 60 = .ok (.iload 4, 2) := by decide +kernel
theorem dX7_along_62 : decode cX7_along 62 = .ok (.aload_n 0, 1) := by decide +kernel
theorem dX7_along_63 : decode cX7_along 63 = .ok (.getfield 7, 3) := by decide +kernel
theorem dX7_along_66 : decode cX7_along 66 = .ok (.sipush 183, 3) := by decide +kernel
theorem dX7_along_69 : decode cX7_along 69 = .ok (.iaload, 1) := by decide +kernel
theorem dX7_along_70 : decode cX7_along 70 = .ok (.iconst 1, 1) := by decide +kernel
theorem dX7_along_71 : decode cX7_along 71 = .ok (.if_icmp .ne 18, 3) := by decide +kernel
theorem dX7_along_74 : decode cX7_along 74 = .ok (.iload_n 2, 1) := by decide +kernel
theorem dX7_along_75 : decode cX7_along 75 = .ok (.iload 6, 2) := by decide +kernel
theorem dX7_along_77 : decode cX7_along 77 = .ok (.isub, 1) := by decide +kernel
theorem dX7_along_78 : decode cX7_along 78 = .ok (.aload_n 0, 1) := by decide +kernel
theorem dX7_along_79 : decode cX7_along 79 = .ok (.getfield 34, 3) := by decide +kernel
theorem dX7_along_82 : decode cX7_along 82 = .ok (.iload 4, 2) := by decide +kernel
theorem dX7_along_84 : decode cX7_along 84 = .ok (.iaload, 1) := by decide +kernel
theorem dX7_along_85 : decode cX7_along 85 = .ok (.isub, 1) := by decide +kernel
theorem dX7_along_86 : decode cX7_along 86 = .ok (.goto 5, 3) := by decide +kernel
theorem dX7_along_89 : decode cX7_along 89 = .ok (.iload 6, 2) := by decide +kernel
theorem dX7_along_91 : decode cX7_along 91 = .ok (.iastore, 1) := by decide +kernel
theorem dX7_along_92 : decode cX7_along 92 = .ok (.iload_n 3, 1) := by decide +kernel
theorem dX7_along_93 : decode cX7_along 93 = .ok (.iconst 2, 1) := by decide +kernel
theorem dX7_along_94 : decode cX7_along 94 = .ok (.iload 5, 2) := by decide +kernel
theorem dX7_along_96 : decode cX7_along 96 = .ok (.imul, 1) := by decide +kernel
theorem dX7_along_97 : decode cX7_along 97 = .ok (.aload_n 0, 1) := by decide +kernel
theorem dX7_along_98 : decode cX7_along 98 = .ok (.getfield 34, 3) := by decide +kernel
theorem dX7_along_101 : decode cX7_along 101 = .ok (.iload 4, 2) := by decide +kernel
theorem dX7_along_103 : decode cX7_along 103 = .ok (.iaload, 1) := by decide +kernel
theorem dX7_along_104 : decode cX7_along 104 = .ok (.iadd, 1) := by decide +kernel
theorem dX7_along_105 : decode cX7_along 105 = .ok (.aload_n 0, 1) := by decide +kernel
theorem dX7_along_106 : decode cX7_along 106 = .ok (.getfield 7, 3) := by decide +kernel
theorem dX7_along_109 : decode cX7_along 109 = .ok (.sipush 178, 3) := by decide +kernel
theorem dX7_along_112 : decode cX7_along 112 = .ok (.iaload, 1) := by decide +kernel
theorem dX7_along_113 : decode cX7_along 113 = .ok (.iadd, 1) := by decide +kernel
theorem dX7_along_114 : decode cX7_along 114 = .ok (.iadd, 1) := by decide +kernel
theorem dX7_along_115 : decode cX7_along 115 = .ok (.istore_n 3, 1) := by decide +kernel
theorem dX7_along_116 : decode cX7_along 116 = .ok (.iinc 4 1, 3) := by decide +kernel
theorem dX7_along_119 : decode cX7_along 119 = .ok (.goto (-109), 3) := by decide +kernel
theorem dX7_along_122 : decode cX7_along 122 = .ok (.return_, 1) := by decide +kernel
theorem dX7_wayOf_0 : decode cX7_wayOf 0 = .ok (.aload_n 0, 1) := by decide +kernel
theorem dX7_wayOf_1 : decode cX7_wayOf 1 = .ok (.aload_n 0, 1) := by decide +kernel
theorem dX7_wayOf_2 : decode cX7_wayOf 2 = .ok (.getfield 22, 3) := by decide +kernel
theorem dX7_wayOf_5 : decode cX7_wayOf 5 = .ok (.iload_n 1, 1) := by decide +kernel
theorem dX7_wayOf_6 : decode cX7_wayOf 6 = .ok (.iaload, 1) := by decide +kernel
theorem dX7_wayOf_7 : decode cX7_wayOf 7 = .ok (.bipush 9, 2) := by decide +kernel
theorem dX7_wayOf_9 : decode cX7_wayOf 9 = .ok (.invokevirtual 157, 3) := by decide +kernel
theorem dX7_wayOf_12 : decode cX7_wayOf 12 = .ok (.istore_n 2, 1) := by decide +kernel
theorem dX7_wayOf_13 : decode cX7_wayOf 13 = .ok (.iload_n 2, 1) := by decide +kernel
theorem dX7_wayOf_14 : decode cX7_wayOf 14 = .ok (.iconst 4, 1) := by decide +kernel
theorem dX7_wayOf_15 : decode cX7_wayOf 15 = .ok (.if_icmp .ne 14, 3) := by decide +kernel
theorem dX7_wayOf_18 : decode cX7_wayOf 18 = .ok (.aload_n 0, 1) := by decide +kernel
theorem dX7_wayOf_19 : decode cX7_wayOf 19 = .ok (.getfield 7, 3) := by decide +kernel
theorem dX7_wayOf_22 : decode cX7_wayOf 22 = .ok (.sipush 182, 3) := by decide +kernel
theorem dX7_wayOf_25 : decode cX7_wayOf 25 = .ok (.iaload, 1) := by decide +kernel
theorem dX7_wayOf_26 : decode cX7_wayOf 26 = .ok (.goto 4, 3) := by decide +kernel
theorem dX7_wayOf_29 : decode cX7_wayOf 29 = .ok (.iload_n 2, 1) := by decide +kernel
theorem dX7_wayOf_30 : decode cX7_wayOf 30 = .ok (.ireturn, 1) := by decide +kernel
theorem dX7_above_0 : decode cX7_above 0 = .ok (.aload_n 0, 1) := by decide +kernel
theorem dX7_above_1 : decode cX7_above 1 = .ok (.aload_n 0, 1) := by decide +kernel
theorem dX7_above_2 : decode cX7_above 2 = .ok (.getfield 22, 3) := by decide +kernel
theorem dX7_above_5 : decode cX7_above 5 = .ok (.iload_n 1, 1) := by decide +kernel
theorem dX7_above_6 : decode cX7_above 6 = .ok (.iaload, 1) := by decide +kernel
theorem dX7_above_7 : decode cX7_above 7 = .ok (.bipush 7, 2) := by decide +kernel
theorem dX7_above_9 : decode cX7_above 9 = .ok (.invokevirtual 157, 3) := by decide +kernel
theorem dX7_above_12 : decode cX7_above 12 = .ok (.aload_n 0, 1) := by decide +kernel
theorem dX7_above_13 : decode cX7_above 13 = .ok (.aload_n 0, 1) := by decide +kernel
theorem dX7_above_14 : decode cX7_above 14 = .ok (.getfield 22, 3) := by decide +kernel
theorem dX7_above_17 : decode cX7_above 17 = .ok (.iload_n 1, 1) := by decide +kernel
theorem dX7_above_18 : decode cX7_above 18 = .ok (.iaload, 1) := by decide +kernel
theorem dX7_above_19 : decode cX7_above 19 = .ok (.bipush 8, 2) := by decide +kernel
theorem dX7_above_21 : decode cX7_above 21 = .ok (.invokevirtual 157, 3) := by decide +kernel
theorem dX7_above_24 : decode cX7_above 24 = .ok (.isub, 1) := by decide +kernel
theorem dX7_above_25 : decode cX7_above 25 = .ok (.ireturn, 1) := by decide +kernel
theorem dX7_across_0 : decode cX7_across 0 = .ok (.sipush (-1001), 3) := by decide +kernel
theorem dX7_across_3 : decode cX7_across 3 = .ok (.istore_n 2, 1) := by decide +kernel
theorem dX7_across_4 : decode cX7_across 4 = .ok (.iconst 0, 1) := by decide +kernel
theorem dX7_across_5 : decode cX7_across 5 = .ok (.istore_n 3, 1) := by decide +kernel
theorem dX7_across_6 : decode cX7_across 6 = .ok (.iconst 0, 1) := by decide +kernel
theorem dX7_across_7 : decode cX7_across 7 = .ok (.istore 4, 2) := by decide +kernel
theorem dX7_across_9 : decode cX7_across 9 = .ok (.aload_n 0, 1) := by decide +kernel
theorem dX7_across_10 : decode cX7_across 10 = .ok (.getfield 28, 3) := by decide +kernel
theorem dX7_across_13 : decode cX7_across 13 = .ok (.iload_n 1, 1) := by decide +kernel
theorem dX7_across_14 : decode cX7_across 14 = .ok (.iaload, 1) := by decide +kernel
theorem dX7_across_15 : decode cX7_across 15 = .ok (.istore 5, 2) := by decide +kernel
theorem dX7_across_17 : decode cX7_across 17 = .ok (.iload 5, 2) := by decide +kernel
theorem dX7_across_19 : decode cX7_across 19 = .ok (.aload_n 0, 1) := by decide +kernel
theorem dX7_across_20 : decode cX7_across 20 = .ok (.getfield 31, 3) := by decide +kernel
theorem dX7_across_23 : decode cX7_across 23 = .ok (.iload_n 1, 1) := by decide +kernel
theorem dX7_across_24 : decode cX7_across 24 = .ok (.iaload, 1) := by decide +kernel
theorem dX7_across_25 : decode cX7_across 25 = .ok (.if_icmp .ge 93, 3) := by decide +kernel
theorem dX7_across_28 : decode cX7_across 28 = .ok (.aload_n 0, 1) := by decide +kernel
theorem dX7_across_29 : decode cX7_across 29 = .ok (.iload 5, 2) := by decide +kernel
theorem dX7_across_31 : decode cX7_across 31 = .ok (.invokevirtual 207, 3) := by decide +kernel
theorem dX7_across_34 : decode cX7_across 34 = .ok (.iconst 3, 1) := by decide +kernel
theorem dX7_across_35 : decode cX7_across 35 = .ok (.if_icmp .ne 7, 3) := by decide +kernel
theorem dX7_across_38 : decode cX7_across 38 = .ok (.iconst 1, 1) := by decide +kernel
theorem dX7_across_39 : decode cX7_across 39 = .ok (.goto 4, 3) := by decide +kernel
theorem dX7_across_42 : decode cX7_across 42 = .ok (.iconst 0, 1) := by decide +kernel
theorem dX7_across_43 : decode cX7_across 43 = .ok (.istore 6, 2) := by decide +kernel
theorem dX7_across_45 : decode cX7_across 45 = .ok (.iload 6, 2) := by decide +kernel
theorem dX7_across_47 : decode cX7_across 47 = .ok (.ifCond .eq 16, 3) := by decide +kernel
theorem dX7_across_50 : decode cX7_across 50 = .ok (.iload_n 2, 1) := by decide +kernel
theorem dX7_across_51 : decode cX7_across 51 = .ok (.aload_n 0, 1) := by decide +kernel
theorem dX7_across_52 : decode cX7_across 52 = .ok (.iload 5, 2) := by decide +kernel
theorem dX7_across_54 : decode cX7_across 54 = .ok (.invokevirtual 210, 3) := by decide +kernel
theorem dX7_across_57 : decode cX7_across 57 = .ok (.invokestatic 167, 3) := by decide +kernel
theorem dX7_across_60 : decode cX7_across 60 = .ok (.goto 4, 3) := by decide +kernel
theorem dX7_across_63 : decode cX7_across 63 = .ok (.iload_n 2, 1) := by decide +kernel
theorem dX7_across_64 : decode cX7_across 64 = .ok (.istore_n 2, 1) := by decide +kernel
theorem dX7_across_65 : decode cX7_across 65 = .ok (.iload 6, 2) := by decide +kernel
theorem dX7_across_67 : decode cX7_across 67 = .ok (.ifCond .eq 23, 3) := by decide +kernel
theorem dX7_across_70 : decode cX7_across 70 = .ok (.iload_n 3, 1) := by decide +kernel
theorem dX7_across_71 : decode cX7_across 71 = .ok (.aload_n 0, 1) := by decide +kernel
theorem dX7_across_72 : decode cX7_across 72 = .ok (.aload_n 0, 1) := by decide +kernel
theorem dX7_across_73 : decode cX7_across 73 = .ok (.getfield 22, 3) := by decide +kernel
theorem dX7_across_76 : decode cX7_across 76 = .ok (.iload 5, 2) := by decide +kernel
