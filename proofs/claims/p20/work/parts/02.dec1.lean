theorem dX5_byteAt_28 : decode cX5_byteAt 28 = .ok (.ireturn, 1) := by decide +kernel
theorem dX5_read_0 : decode cX5_read 0 = .ok (.getstatic 23, 3) := by decide +kernel
theorem dX5_read_3 : decode cX5_read 3 = .ok (.iconst 0, 1) := by decide +kernel
theorem dX5_read_4 : decode cX5_read 4 = .ok (.aload_n 0, 1) := by decide +kernel
theorem dX5_read_5 : decode cX5_read 5 = .ok (.getfield 15, 3) := by decide +kernel
theorem dX5_read_8 : decode cX5_read 8 = .ok (.iconst 0, 1) := by decide +kernel
theorem dX5_read_9 : decode cX5_read 9 = .ok (.bipush 10, 2) := by decide +kernel
theorem dX5_read_11 : decode cX5_read 11 = .ok (.invokestatic 26, 3) := by decide +kernel
theorem dX5_read_14 : decode cX5_read 14 = .ok (.aload_n 0, 1) := by decide +kernel
theorem dX5_read_15 : decode cX5_read 15 = .ok (.iconst 0, 1) := by decide +kernel
theorem dX5_read_16 : decode cX5_read 16 = .ok (.putfield 32, 3) := by decide +kernel
theorem dX5_read_19 : decode cX5_read 19 = .ok (.aload_n 0, 1) := by decide +kernel
theorem dX5_read_20 : decode cX5_read 20 = .ok (.iconst 0, 1) := by decide +kernel
theorem dX5_read_21 : decode cX5_read 21 = .ok (.putfield 35, 3) := by decide +kernel
theorem dX5_read_24 : decode cX5_read 24 = .ok (.aload_n 0, 1) := by decide +kernel
theorem dX5_read_25 : decode cX5_read 25 = .ok (.iconst 0, 1) := by decide +kernel
theorem dX5_read_26 : decode cX5_read 26 = .ok (.invokevirtual 38, 3) := by decide +kernel
theorem dX5_read_29 : decode cX5_read 29 = .ok (.istore_n 1, 1) := by decide +kernel
theorem dX5_read_30 : decode cX5_read 30 = .ok (.iconst 0, 1) := by decide +kernel
theorem dX5_read_31 : decode cX5_read 31 = .ok (.istore_n 2, 1) := by decide +kernel
theorem dX5_read_32 : decode cX5_read 32 = .ok (.iload_n 2, 1) := by decide +kernel
theorem dX5_read_33 : decode cX5_read 33 = .ok (.bipush 80, 2) := by decide +kernel
theorem dX5_read_35 : decode cX5_read 35 = .ok (.if_icmp .ge 46, 3) := by decide +kernel
theorem dX5_read_38 : decode cX5_read 38 = .ok (.iload_n 1, 1) := by decide +kernel
theorem dX5_read_39 : decode cX5_read 39 = .ok (.ifCond .ge 42, 3) := by decide +kernel
theorem dX5_read_42 : decode cX5_read 42 = .ok (.aload_n 0, 1) := by decide +kernel
theorem dX5_read_43 : decode cX5_read 43 = .ok (.getfield 32, 3) := by decide +kernel
theorem dX5_read_46 : decode cX5_read 46 = .ok (.aload_n 0, 1) := by decide +kernel
theorem dX5_read_47 : decode cX5_read 47 = .ok (.getfield 19, 3) := by decide +kernel
theorem dX5_read_50 : decode cX5_read 50 = .ok (.if_icmp .ge 31, 3) := by decide +kernel
theorem dX5_read_53 : decode cX5_read 53 = .ok (.aload_n 0, 1) := by decide +kernel
theorem dX5_read_54 : decode cX5_read 54 = .ok (.invokevirtual 42, 3) := by decide +kernel
theorem dX5_read_57 : decode cX5_read 57 = .ok (.istore_n 3, 1) := by decide +kernel
theorem dX5_read_58 : decode cX5_read 58 = .ok (.iload_n 3, 1) := by decide +kernel
theorem dX5_read_59 : decode cX5_read 59 = .ok (.ifCond .ge 10, 3) := by decide +kernel
theorem dX5_read_62 : decode cX5_read 62 = .ok (.aload_n 0, 1) := by decide +kernel
theorem dX5_read_63 : decode cX5_read 63 = .ok (.getfield 32, 3) := by decide +kernel
theorem dX5_read_66 : decode cX5_read 66 = .ok (.goto 8, 3) := by decide +kernel
theorem dX5_read_69 : decode cX5_read 69 = .ok (.aload_n 0, 1) := by decide +kernel
theorem dX5_read_70 : decode cX5_read 70 = .ok (.iload_n 3, 1) := by decide +kernel
theorem dX5_read_71 : decode cX5_read 71 = .ok (.invokevirtual 38, 3) := by decide +kernel
theorem dX5_read_74 : decode cX5_read 74 = .ok (.istore_n 1, 1) := by decide +kernel
theorem dX5_read_75 : decode cX5_read 75 = .ok (.iinc 2 1, 3) := by decide +kernel
theorem dX5_read_78 : decode cX5_read 78 = .ok (.goto (-46), 3) := by decide +kernel
theorem dX5_read_81 : decode cX5_read 81 = .ok (.iload_n 1, 1) := by decide +kernel
theorem dX5_read_82 : decode cX5_read 82 = .ok (.ireturn, 1) := by decide +kernel
theorem dX5_readNumber_0 : decode cX5_readNumber 0 = .ok (.aload_n 0, 1) := by decide +kernel
theorem dX5_readNumber_1 : decode cX5_readNumber 1 = .ok (.invokevirtual 46, 3) := by decide +kernel
theorem dX5_readNumber_4 : decode cX5_readNumber 4 = .ok (.aload_n 0, 1) := by decide +kernel
theorem dX5_readNumber_5 : decode cX5_readNumber 5 = .ok (.getfield 32, 3) := by decide +kernel
theorem dX5_readNumber_8 : decode cX5_readNumber 8 = .ok (.istore_n 2, 1) := by decide +kernel
theorem dX5_readNumber_9 : decode cX5_readNumber 9 = .ok (.iload_n 1, 1) := by decide +kernel
theorem dX5_readNumber_10 : decode cX5_readNumber 10 = .ok (.bipush 6, 2) := by decide +kernel
theorem dX5_readNumber_12 : decode cX5_readNumber 12 = .ok (.if_icmp .ne 20, 3) := by decide +kernel
theorem dX5_readNumber_15 : decode cX5_readNumber 15 = .ok (.aload_n 0, 1) := by decide +kernel
theorem dX5_readNumber_16 : decode cX5_readNumber 16 = .ok (.aload_n 0, 1) := by decide +kernel
theorem dX5_readNumber_17 : decode cX5_readNumber 17 = .ok (.getfield 32, 3) := by decide +kernel
theorem dX5_readNumber_20 : decode cX5_readNumber 20 = .ok (.invokevirtual 49, 3) := by decide +kernel
theorem dX5_readNumber_23 : decode cX5_readNumber 23 = .ok (.bipush 45, 2) := by decide +kernel
theorem dX5_readNumber_25 : decode cX5_readNumber 25 = .ok (.if_icmp .ne 7, 3) := by decide +kernel
theorem dX5_readNumber_28 : decode cX5_readNumber 28 = .ok (.iconst 1, 1) := by decide +kernel
theorem dX5_readNumber_29 : decode cX5_readNumber 29 = .ok (.goto 4, 3) := by decide +kernel
theorem dX5_readNumber_32 : decode cX5_readNumber 32 = .ok (.iconst 0, 1) := by decide +kernel
theorem dX5_readNumber_33 : decode cX5_readNumber 33 = .ok (.istore_n 3, 1) := by decide +kernel
theorem dX5_readNumber_34 : decode cX5_readNumber 34 = .ok (.iload_n 3, 1) := by decide +kernel
theorem dX5_readNumber_35 : decode cX5_readNumber 35 = .ok (.ifCond .eq 13, 3) := by decide +kernel
theorem dX5_readNumber_38 : decode cX5_readNumber 38 = .ok (.aload_n 0, 1) := by decide +kernel
theorem dX5_readNumber_39 : decode cX5_readNumber 39 = .ok (.dup, 1) := by decide +kernel
theorem dX5_readNumber_40 : decode cX5_readNumber 40 = .ok (.getfield 32, 3) := by decide +kernel
theorem dX5_readNumber_43 : decode cX5_readNumber 43 = .ok (.iconst 1, 1) := by decide +kernel
theorem dX5_readNumber_44 : decode cX5_readNumber 44 = .ok (.iadd, 1) := by decide +kernel
theorem dX5_readNumber_45 : decode cX5_readNumber 45 = .ok (.putfield 32, 3) := by decide +kernel
theorem dX5_readNumber_48 : decode cX5_readNumber 48 = .ok (.aload_n 0, 1) := by decide +kernel
theorem dX5_readNumber_49 : decode cX5_readNumber 49 = .ok (.getfield 32, 3) := by decide +kernel
theorem dX5_readNumber_52 : decode cX5_readNumber 52 = .ok (.istore 4, 2) := by decide +kernel
theorem dX5_readNumber_54 : decode cX5_readNumber 54 = .ok (.iconst 0, 1) := by decide +kernel
theorem dX5_readNumber_55 : decode cX5_readNumber 55 = .ok (.istore 5, 2) := by decide +kernel
theorem dX5_readNumber_57 : decode cX5_readNumber 57 = .ok (.aload_n 0, 1) := by decide +kernel
theorem dX5_readNumber_58 : decode cX5_readNumber 58 = .ok (.getfield 32, 3) := by decide +kernel
theorem dX5_readNumber_61 : decode cX5_readNumber 61 = .ok (.iload 4, 2) := by decide +kernel
theorem dX5_readNumber_63 : decode cX5_readNumber 63 = .ok (.iconst 3, 1) := by decide +kernel
theorem dX5_readNumber_64 : decode cX5_readNumber 64 = .ok (.iadd, 1) := by decide +kernel
theorem dX5_readNumber_65 : decode cX5_readNumber 65 = .ok (.if_icmp .ge 49, 3) := by decide +kernel
theorem dX5_readNumber_68 : decode cX5_readNumber 68 = .ok (.aload_n 0, 1) := by decide +kernel
theorem dX5_readNumber_69 : decode cX5_readNumber 69 = .ok (.aload_n 0, 1) := by decide +kernel
theorem dX5_readNumber_70 : decode cX5_readNumber 70 = .ok (.getfield 32, 3) := by decide +kernel
theorem dX5_readNumber_73 : decode cX5_readNumber 73 = .ok (.invokevirtual 49, 3) := by decide +kernel
theorem dX5_readNumber_76 : decode cX5_readNumber 76 = .ok (.invokestatic 52, 3) := by decide +kernel
theorem dX5_readNumber_79 : decode cX5_readNumber 79 = .ok (.ifCond .eq 35, 3) := by decide +kernel
theorem dX5_readNumber_82 : decode cX5_readNumber 82 = .ok (.iload 5, 2) := by decide +kernel
theorem dX5_readNumber_84 : decode cX5_readNumber 84 = .ok (.bipush 10, 2) := by decide +kernel
theorem dX5_readNumber_86 : decode cX5_readNumber 86 = .ok (.imul, 1) := by decide +kernel
theorem dX5_readNumber_87 : decode cX5_readNumber 87 = .ok (.aload_n 0, 1) := by decide +kernel
theorem dX5_readNumber_88 : decode cX5_readNumber 88 = .ok (.aload_n 0, 1) := by decide +kernel
theorem dX5_readNumber_89 : decode cX5_readNumber 89 = .ok (.getfield 32, 3) := by decide +kernel
theorem dX5_readNumber_92 : decode cX5_readNumber 92 = .ok (.invokevirtual 49, 3) := by decide +kernel
theorem dX5_readNumber_95 : decode cX5_readNumber 95 = .ok (.iadd, 1) := by decide +kernel
theorem dX5_readNumber_96 : decode cX5_readNumber 96 = .ok (.bipush 48, 2) := by decide +kernel
theorem dX5_readNumber_98 : decode cX5_readNumber 98 = .ok (.isub, 1) := by decide +kernel
theorem dX5_readNumber_99 : decode cX5_readNumber 99 = .ok (.istore 5, 2) := by decide +kernel
theorem dX5_readNumber_101 : decode cX5_readNumber 101 = .ok (.aload_n 0, 1) := by decide +kernel
theorem dX5_readNumber_102 : decode cX5_readNumber 102 = .ok (.dup, 1) := by decide +kernel
theorem dX5_readNumber_103 : decode cX5_readNumber 103 = .ok (.getfield 32, 3) := by decide +kernel
theorem dX5_readNumber_106 : decode cX5_readNumber 106 = .ok (.iconst 1, 1) := by decide +kernel
theorem dX5_readNumber_107 : decode cX5_readNumber 107 = .ok (.iadd, 1) := by decide +kernel
theorem dX5_readNumber_108 : decode cX5_readNumber 108 = .ok (.putfield 32, 3) := by decide +kernel
theorem dX5_readNumber_111 : decode cX5_readNumber 111 = .ok (.goto (-54), 3) := by decide +kernel
theorem dX5_readNumber_114 : decode cX5_readNumber 114 = .ok (.aload_n 0, 1) := by decide +kernel
theorem dX5_readNumber_115 : decode cX5_readNumber 115 = .ok (.getfield 32, 3) := by decide +kernel
theorem dX5_readNumber_118 : decode cX5_readNumber 118 = .ok (.iload 4, 2) := by decide +kernel
theorem dX5_readNumber_120 : decode cX5_readNumber 120 = .ok (.if_icmp .ne 8, 3) := by decide +kernel
theorem dX5_readNumber_123 : decode cX5_readNumber 123 = .ok (.aload_n 0, 1) := by decide +kernel
theorem dX5_readNumber_124 : decode cX5_readNumber 124 = .ok (.getfield 32, 3) := by decide +kernel
theorem dX5_readNumber_127 : decode cX5_readNumber 127 = .ok (.ireturn, 1) := by decide +kernel
theorem dX5_readNumber_128 : decode cX5_readNumber 128 = .ok (.iload_n 3, 1) := by decide +kernel
theorem dX5_readNumber_129 : decode cX5_readNumber 129 = .ok (.ifCond .eq 9, 3) := by decide +kernel
theorem dX5_readNumber_132 : decode cX5_readNumber 132 = .ok (.iload 5, 2) := by decide +kernel
theorem dX5_readNumber_134 : decode cX5_readNumber 134 = .ok (.ineg, 1) := by decide +kernel
theorem dX5_readNumber_135 : decode cX5_readNumber 135 = .ok (.goto 5, 3) := by decide +kernel
theorem dX5_readNumber_138 : decode cX5_readNumber 138 = .ok (.iload 5, 2) := by decide +kernel
theorem dX5_readNumber_140 : decode cX5_readNumber 140 = .ok (.istore 5, 2) := by decide +kernel
theorem dX5_readNumber_142 : decode cX5_readNumber 142 = .ok (.iload_n 1, 1) := by decide +kernel
theorem dX5_readNumber_143 : decode cX5_readNumber 143 = .ok (.ifCond .lt 29, 3) := by decide +kernel
theorem dX5_readNumber_146 : decode cX5_readNumber 146 = .ok (.iload_n 1, 1) := by decide +kernel
theorem dX5_readNumber_147 : decode cX5_readNumber 147 = .ok (.bipush 10, 2) := by decide +kernel
theorem dX5_readNumber_149 : decode cX5_readNumber 149 = .ok (.if_icmp .ge 23, 3) := by decide +kernel
theorem dX5_readNumber_152 : decode cX5_readNumber 152 = .ok (.iload 5, 2) := by decide +kernel
theorem dX5_readNumber_154 : decode cX5_readNumber 154 = .ok (.getstatic 56, 3) := by decide +kernel
theorem dX5_readNumber_157 : decode cX5_readNumber 157 = .ok (.iload_n 1, 1) := by decide +kernel
theorem dX5_readNumber_158 : decode cX5_readNumber 158 = .ok (.iaload, 1) := by decide +kernel
theorem dX5_readNumber_159 : decode cX5_readNumber 159 = .ok (.if_icmp .lt 13, 3) := by decide +kernel
theorem dX5_readNumber_162 : decode cX5_readNumber 162 = .ok (.iload 5, 2) := by decide +kernel
theorem dX5_readNumber_164 : decode cX5_readNumber 164 = .ok (.getstatic 59, 3) := by decide +kernel
theorem dX5_readNumber_167 : decode cX5_readNumber 167 = .ok (.iload_n 1, 1) := by decide +kernel
theorem dX5_readNumber_168 : decode cX5_readNumber 168 = .ok (.iaload, 1) := by decide +kernel
theorem dX5_readNumber_169 : decode cX5_readNumber 169 = .ok (.if_icmp .le 5, 3) := by decide +kernel
theorem dX5_readNumber_172 : decode cX5_readNumber 172 = .ok (.iload_n 2, 1) := by decide +kernel
theorem dX5_readNumber_173 : decode cX5_readNumber 173 = .ok (.ireturn, 1) := by decide +kernel
theorem dX5_readNumber_174 : decode cX5_readNumber 174 = .ok (.aload_n 0, 1) := by decide +kernel
theorem dX5_readNumber_175 : decode cX5_readNumber 175 = .ok (.aload_n 0, 1) := by decide +kernel
theorem dX5_readNumber_176 : decode cX5_readNumber 176 = .ok (.getfield 32, 3) := by decide +kernel
theorem dX5_readNumber_179 : decode cX5_readNumber 179 = .ok (.invokevirtual 49, 3) := by decide +kernel
theorem dX5_readNumber_182 : decode cX5_readNumber 182 = .ok (.invokestatic 52, 3) := by decide +kernel
theorem dX5_readNumber_185 : decode cX5_readNumber 185 = .ok (.ifCond .eq 8, 3) := by decide +kernel
theorem dX5_readNumber_188 : decode cX5_readNumber 188 = .ok (.aload_n 0, 1) := by decide +kernel
theorem dX5_readNumber_189 : decode cX5_readNumber 189 = .ok (.getfield 32, 3) := by decide +kernel
theorem dX5_readNumber_192 : decode cX5_readNumber 192 = .ok (.ireturn, 1) := by decide +kernel
theorem dX5_readNumber_193 : decode cX5_readNumber 193 = .ok (.aload_n 0, 1) := by decide +kernel
theorem dX5_readNumber_194 : decode cX5_readNumber 194 = .ok (.getfield 15, 3) := by decide +kernel
theorem dX5_readNumber_197 : decode cX5_readNumber 197 = .ok (.iload_n 1, 1) := by decide +kernel
theorem dX5_readNumber_198 : decode cX5_readNumber 198 = .ok (.iload 5, 2) := by decide +kernel
theorem dX5_readNumber_200 : decode cX5_readNumber 200 = .ok (.iastore, 1) := by decide +kernel
theorem dX5_readNumber_201 : decode cX5_readNumber 201 = .ok (.aload_n 0, 1) := by decide +kernel
theorem dX5_readNumber_202 : decode cX5_readNumber 202 = .ok (.invokevirtual 46, 3) := by decide +kernel
theorem dX5_readNumber_205 : decode cX5_readNumber 205 = .ok (.iconst (-1), 1) := by decide +kernel
theorem dX5_readNumber_206 : decode cX5_readNumber 206 = .ok (.ireturn, 1) := by decide +kernel
theorem dX5_readWord_0 : decode cX5_readWord 0 = .ok (.aload_n 0, 1) := by decide +kernel
theorem dX5_readWord_1 : decode cX5_readWord 1 = .ok (.getfield 32, 3) := by decide +kernel
theorem dX5_readWord_4 : decode cX5_readWord 4 = .ok (.istore_n 1, 1) := by decide +kernel
theorem dX5_readWord_5 : decode cX5_readWord 5 = .ok (.iload_n 1, 1) := by decide +kernel
theorem dX5_readWord_6 : decode cX5_readWord 6 = .ok (.aload_n 0, 1) := by decide +kernel
theorem dX5_readWord_7 : decode cX5_readWord 7 = .ok (.getfield 19, 3) := by decide +kernel
theorem dX5_readWord_10 : decode cX5_readWord 10 = .ok (.if_icmp .ge 20, 3) := by decide +kernel
theorem dX5_readWord_13 : decode cX5_readWord 13 = .ok (.aload_n 0, 1) := by decide +kernel
theorem dX5_readWord_14 : decode cX5_readWord 14 = .ok (.iload_n 1, 1) := by decide +kernel
theorem dX5_readWord_15 : decode cX5_readWord 15 = .ok (.invokevirtual 49, 3) := by decide +kernel
theorem dX5_readWord_18 : decode cX5_readWord 18 = .ok (.invokestatic 62, 3) := by decide +kernel
theorem dX5_readWord_21 : decode cX5_readWord 21 = .ok (.ifCond .eq 9, 3) := by decide +kernel
theorem dX5_readWord_24 : decode cX5_readWord 24 = .ok (.iinc 1 1, 3) := by decide +kernel
theorem dX5_readWord_27 : decode cX5_readWord 27 = .ok (.goto (-22), 3) := by decide +kernel
theorem dX5_readWord_30 : decode cX5_readWord 30 = .ok (.iconst 1, 1) := by decide +kernel
theorem dX5_readWord_31 : decode cX5_readWord 31 = .ok (.istore_n 2, 1) := by decide +kernel
theorem dX5_readWord_32 : decode cX5_readWord 32 = .ok (.iload_n 2, 1) := by decide +kernel
theorem dX5_readWord_33 : decode cX5_readWord 33 = .ok (.bipush 10, 2) := by decide +kernel
theorem dX5_readWord_35 : decode cX5_readWord 35 = .ok (.if_icmp .ge 61, 3) := by decide +kernel
theorem dX5_readWord_38 : decode cX5_readWord 38 = .ok (.aload_n 0, 1) := by decide +kernel
theorem dX5_readWord_39 : decode cX5_readWord 39 = .ok (.getfield 35, 3) := by decide +kernel
theorem dX5_readWord_42 : decode cX5_readWord 42 = .ok (.iload_n 2, 1) := by decide +kernel
theorem dX5_readWord_43 : decode cX5_readWord 43 = .ok (.ishr, 1) := by decide +kernel
theorem dX5_readWord_44 : decode cX5_readWord 44 = .ok (.iconst 1, 1) := by decide +kernel
theorem dX5_readWord_45 : decode cX5_readWord 45 = .ok (.iand, 1) := by decide +kernel
theorem dX5_readWord_46 : decode cX5_readWord 46 = .ok (.ifCond .ne 7, 3) := by decide +kernel
theorem dX5_readWord_49 : decode cX5_readWord 49 = .ok (.iconst 1, 1) := by decide +kernel
theorem dX5_readWord_50 : decode cX5_readWord 50 = .ok (.goto 4, 3) := by decide +kernel
theorem dX5_readWord_53 : decode cX5_readWord 53 = .ok (.iconst 0, 1) := by decide +kernel
theorem dX5_readWord_54 : decode cX5_readWord 54 = .ok (.istore_n 3, 1) := by decide +kernel
theorem dX5_readWord_55 : decode cX5_readWord 55 = .ok (.iload_n 3, 1) := by decide +kernel
theorem dX5_readWord_56 : decode cX5_readWord 56 = .ok (.ifCond .eq 34, 3) := by decide +kernel
theorem dX5_readWord_59 : decode cX5_readWord 59 = .ok (.aload_n 0, 1) := by decide +kernel
theorem dX5_readWord_60 : decode cX5_readWord 60 = .ok (.iload_n 2, 1) := by decide +kernel
theorem dX5_readWord_61 : decode cX5_readWord 61 = .ok (.invokestatic 65, 3) := by decide +kernel
theorem dX5_readWord_64 : decode cX5_readWord 64 = .ok (.iload_n 1, 1) := by decide +kernel
theorem dX5_readWord_65 : decode cX5_readWord 65 = .ok (.invokevirtual 69, 3) := by decide +kernel
theorem dX5_readWord_68 : decode cX5_readWord 68 = .ok (.ifCond .eq 22, 3) := by decide +kernel
theorem dX5_readWord_71 : decode cX5_readWord 71 = .ok (.aload_n 0, 1) := by decide +kernel
theorem dX5_readWord_72 : decode cX5_readWord 72 = .ok (.dup, 1) := by decide +kernel
theorem dX5_readWord_73 : decode cX5_readWord 73 = .ok (.getfield 35, 3) := by decide +kernel
theorem dX5_readWord_76 : decode cX5_readWord 76 = .ok (.iconst 1, 1) := by decide +kernel
theorem dX5_readWord_77 : decode cX5_readWord 77 = .ok (.iload_n 2, 1) := by decide +kernel
theorem dX5_readWord_78 : decode cX5_readWord 78 = .ok (.ishl, 1) := by decide +kernel
theorem dX5_readWord_79 : decode cX5_readWord 79 = .ok (.ior, 1) := by decide +kernel
theorem dX5_readWord_80 : decode cX5_readWord 80 = .ok (.putfield 35, 3) := by decide +kernel
theorem dX5_readWord_83 : decode cX5_readWord 83 = .ok (.aload_n 0, 1) := by decide +kernel
theorem dX5_readWord_84 : decode cX5_readWord 84 = .ok (.iload_n 1, 1) := by decide +kernel
theorem dX5_readWord_85 : decode cX5_readWord 85 = .ok (.putfield 32, 3) := by decide +kernel
theorem dX5_readWord_88 : decode cX5_readWord 88 = .ok (.iload_n 2, 1) := by decide +kernel
theorem dX5_readWord_89 : decode cX5_readWord 89 = .ok (.ireturn, 1) := by decide +kernel
theorem dX5_readWord_90 : decode cX5_readWord 90 = .ok (.iinc 2 1, 3) := by decide +kernel
theorem dX5_readWord_93 : decode cX5_readWord 93 = .ok (.goto (-61), 3) := by decide +kernel
theorem dX5_readWord_96 : decode cX5_readWord 96 = .ok (.iconst (-1), 1) := by decide +kernel
theorem dX5_readWord_97 : decode cX5_readWord 97 = .ok (.ireturn, 1) := by decide +kernel
theorem dX5_stands_0 : decode cX5_stands 0 = .ok (.aload_n 1, 1) := by decide +kernel
theorem dX5_stands_1 : decode cX5_stands 1 = .ok (.invokevirtual 73, 3) := by decide +kernel
theorem dX5_stands_4 : decode cX5_stands 4 = .ok (.iload_n 2, 1) := by decide +kernel
theorem dX5_stands_5 : decode cX5_stands 5 = .ok (.aload_n 0, 1) := by decide +kernel
theorem dX5_stands_6 : decode cX5_stands 6 = .ok (.getfield 32, 3) := by decide +kernel
theorem dX5_stands_9 : decode cX5_stands 9 = .ok (.isub, 1) := by decide +kernel
theorem dX5_stands_10 : decode cX5_stands 10 = .ok (.if_icmp .eq 5, 3) := by decide +kernel
theorem dX5_stands_13 : decode cX5_stands 13 = .ok (.iconst 0, 1) := by decide +kernel
theorem dX5_stands_14 : decode cX5_stands 14 = .ok (.ireturn, 1) := by decide +kernel
theorem dX5_stands_15 : decode cX5_stands 15 = .ok (.iconst 0, 1) := by decide +kernel
theorem dX5_stands_16 : decode cX5_stands 16 = .ok (.istore_n 3, 1) := by decide +kernel
theorem dX5_stands_17 : decode cX5_stands 17 = .ok (.iload_n 3, 1) := by decide +kernel
theorem dX5_stands_18 : decode cX5_stands 18 = .ok (.aload_n 1, 1) := by decide +kernel
theorem dX5_stands_19 : decode cX5_stands 19 = .ok (.invokevirtual 73, 3) := by decide +kernel
theorem dX5_stands_22 : decode cX5_stands 22 = .ok (.if_icmp .ge 29, 3) := by decide +kernel
theorem dX5_stands_25 : decode cX5_stands 25 = .ok (.aload_n 1, 1) := by decide +kernel
theorem dX5_stands_26 : decode cX5_stands 26 = .ok (.iload_n 3, 1) := by decide +kernel
theorem dX5_stands_27 : decode cX5_stands 27 = .ok (.invokevirtual 77, 3) := by decide +kernel
theorem dX5_stands_30 : decode cX5_stands 30 = .ok (.aload_n 0, 1) := by decide +kernel
theorem dX5_stands_31 : decode cX5_stands 31 = .ok (.aload_n 0, 1) := by decide +kernel
theorem dX5_stands_32 : decode cX5_stands 32 = .ok (.getfield 32, 3) := by decide +kernel
theorem dX5_stands_35 : decode cX5_stands 35 = .ok (.iload_n 3, 1) := by decide +kernel
theorem dX5_stands_36 : decode cX5_stands 36 = .ok (.iadd, 1) := by decide +kernel
theorem dX5_stands_37 : decode cX5_stands 37 = .ok (.invokevirtual 49, 3) := by decide +kernel
theorem dX5_stands_40 : decode cX5_stands 40 = .ok (.if_icmp .eq 5, 3) := by decide +kernel
theorem dX5_stands_43 : decode cX5_stands 43 = .ok (.iconst 0, 1) := by decide +kernel
theorem dX5_stands_44 : decode cX5_stands 44 = .ok (.ireturn, 1) := by decide +kernel
theorem dX5_stands_45 : decode cX5_stands 45 = .ok (.iinc 3 1, 3) := by decide +kernel
theorem dX5_stands_48 : decode cX5_stands 48 = .ok (.goto (-31), 3) := by decide +kernel
theorem dX5_stands_51 : decode cX5_stands 51 = .ok (.iconst 1, 1) := by decide +kernel
theorem dX5_stands_52 : decode cX5_stands 52 = .ok (.ireturn, 1) := by decide +kernel
theorem dX5_skipBlanks_0 : decode cX5_skipBlanks 0 = .ok (.aload_n 0, 1) := by decide +kernel
theorem dX5_skipBlanks_1 : decode cX5_skipBlanks 1 = .ok (.getfield 32, 3) := by decide +kernel
theorem dX5_skipBlanks_4 : decode cX5_skipBlanks 4 = .ok (.aload_n 0, 1) := by decide +kernel
theorem dX5_skipBlanks_5 : decode cX5_skipBlanks 5 = .ok (.getfield 19, 3) := by decide +kernel
theorem dX5_skipBlanks_8 : decode cX5_skipBlanks 8 = .ok (.if_icmp .ge 29, 3) := by decide +kernel
theorem dX5_skipBlanks_11 : decode cX5_skipBlanks 11 = .ok (.aload_n 0, 1) := by decide +kernel
theorem dX5_skipBlanks_12 : decode cX5_skipBlanks 12 = .ok (.aload_n 0, 1) := by decide +kernel
theorem dX5_skipBlanks_13 : decode cX5_skipBlanks 13 = .ok (.getfield 32, 3) := by decide +kernel
theorem dX5_skipBlanks_16 : decode cX5_skipBlanks 16 = .ok (.invokevirtual 49, 3) := by decide +kernel
theorem dX5_skipBlanks_19 : decode cX5_skipBlanks 19 = .ok (.bipush 32, 2) := by decide +kernel
theorem dX5_skipBlanks_21 : decode cX5_skipBlanks 21 = .ok (.if_icmp .ne 16, 3) := by decide +kernel
theorem dX5_skipBlanks_24 : decode cX5_skipBlanks 24 = .ok (.aload_n 0, 1) := by decide +kernel
theorem dX5_skipBlanks_25 : decode cX5_skipBlanks 25 = .ok (.dup, 1) := by decide +kernel
theorem dX5_skipBlanks_26 : decode cX5_skipBlanks 26 = .ok (.getfield 32, 3) := by decide +kernel
theorem dX5_skipBlanks_29 : decode cX5_skipBlanks 29 = .ok (.iconst 1, 1) := by decide +kernel
theorem dX5_skipBlanks_30 : decode cX5_skipBlanks 30 = .ok (.iadd, 1) := by decide +kernel
theorem dX5_skipBlanks_31 : decode cX5_skipBlanks 31 = .ok (.putfield 32, 3) := by decide +kernel
theorem dX5_skipBlanks_34 : decode cX5_skipBlanks 34 = .ok (.goto (-34), 3) := by decide +kernel
theorem dX5_skipBlanks_37 : decode cX5_skipBlanks 37 = .ok (.return_, 1) := by decide +kernel
theorem dX5_isDigit_0 : decode cX5_isDigit 0 = .ok (.iload_n 0, 1) := by decide +kernel
theorem dX5_isDigit_1 : decode cX5_isDigit 1 = .ok (.bipush 48, 2) := by decide +kernel
theorem dX5_isDigit_3 : decode cX5_isDigit 3 = .ok (.if_icmp .lt 13, 3) := by decide +kernel
theorem dX5_isDigit_6 : decode cX5_isDigit 6 = .ok (.iload_n 0, 1) := by decide +kernel
theorem dX5_isDigit_7 : decode cX5_isDigit 7 = .ok (.bipush 57, 2) := by decide +kernel
theorem dX5_isDigit_9 : decode cX5_isDigit 9 = .ok (.if_icmp .gt 7, 3) := by decide +kernel
theorem dX5_isDigit_12 : decode cX5_isDigit 12 = .ok (.iconst 1, 1) := by decide +kernel
theorem dX5_isDigit_13 : decode cX5_isDigit 13 = .ok (.goto 4, 3) := by decide +kernel
theorem dX5_isDigit_16 : decode cX5_isDigit 16 = .ok (.iconst 0, 1) := by decide +kernel
theorem dX5_isDigit_17 : decode cX5_isDigit 17 = .ok (.ireturn, 1) := by decide +kernel
theorem dX5_isLetter_0 : decode cX5_isLetter 0 = .ok (.iload_n 0, 1) := by decide +kernel
theorem dX5_isLetter_1 : decode cX5_isLetter 1 = .ok (.bipush 97, 2) := by decide +kernel
theorem dX5_isLetter_3 : decode cX5_isLetter 3 = .ok (.if_icmp .lt 13, 3) := by decide +kernel
theorem dX5_isLetter_6 : decode cX5_isLetter 6 = .ok (.iload_n 0, 1) := by decide +kernel
theorem dX5_isLetter_7 : decode cX5_isLetter 7 = .ok (.bipush 122, 2) := by decide +kernel
theorem dX5_isLetter_9 : decode cX5_isLetter 9 = .ok (.if_icmp .gt 7, 3) := by decide +kernel
theorem dX5_isLetter_12 : decode cX5_isLetter 12 = .ok (.iconst 1, 1) := by decide +kernel
theorem dX5_isLetter_13 : decode cX5_isLetter 13 = .ok (.goto 4, 3) := by decide +kernel
theorem dX5_isLetter_16 : decode cX5_isLetter 16 = .ok (.iconst 0, 1) := by decide +kernel
theorem dX5_isLetter_17 : decode cX5_isLetter 17 = .ok (.ireturn, 1) := by decide +kernel
theorem dX5_word_0 : decode cX5_word 0 = .ok (.iload_n 0, 1) := by decide +kernel
theorem dX5_word_1 : decode cX5_word 1 = .ok (.tableswitch 71 1 8 #[47, 50, 53, 56, 59, 62, 65, 68], 47) := by decide +kernel
theorem dX5_word_48 : decode cX5_word 48 = .ok (.ldc 81, 2) := by decide +kernel
theorem dX5_word_50 : decode cX5_word 50 = .ok (.areturn, 1) := by decide +kernel
theorem dX5_word_51 : decode cX5_word 51 = .ok (.ldc 83, 2) := by decide +kernel
theorem dX5_word_53 : decode cX5_word 53 = .ok (.areturn, 1) := by decide +kernel
theorem dX5_word_54 : decode cX5_word 54 = .ok (.ldc 85, 2) := by decide +kernel
theorem dX5_word_56 : decode cX5_word 56 = .ok (.areturn, 1) := by decide +kernel
theorem dX5_word_57 : decode cX5_word 57 = .ok (.ldc 87, 2) := by decide +kernel
theorem dX5_word_59 : decode cX5_word 59 = .ok (.areturn, 1) := by decide +kernel
theorem dX5_word_60 : decode cX5_word 60 = .ok (.ldc 89, 2) := by decide +kernel
theorem dX5_word_62 : decode cX5_word 62 = .ok (.areturn, 1) := by decide +kernel
theorem dX5_word_63 : decode cX5_word 63 = .ok (.ldc 91, 2) := by decide +kernel
theorem dX5_word_65 : decode cX5_word 65 = .ok (.areturn, 1) := by decide +kernel
theorem dX5_word_66 : decode cX5_word 66 = .ok (.ldc 93, 2) := by decide +kernel
theorem dX5_word_68 : decode cX5_word 68 = .ok (.areturn, 1) := by decide +kernel
theorem dX5_word_69 : decode cX5_word 69 = .ok (.ldc 95, 2) := by decide +kernel
theorem dX5_word_71 : decode cX5_word 71 = .ok (.areturn, 1) := by decide +kernel
theorem dX5_word_72 : decode cX5_word 72 = .ok (.ldc 97, 2) := by decide +kernel
theorem dX5_word_74 : decode cX5_word 74 = .ok (.areturn, 1) := by decide +kernel
theorem dX6_init_0 : decode cX6_init 0 = .ok (.aload_n 0, 1) := by decide +kernel
theorem dX6_init_1 : decode cX6_init 1 = .ok (.invokespecial 1, 3) := by decide +kernel
theorem dX6_init_4 : decode cX6_init 4 = .ok (.aload_n 0, 1) := by decide +kernel
theorem dX6_init_5 : decode cX6_init 5 = .ok (.new 7, 3) := by decide +kernel
theorem dX6_init_8 : decode cX6_init 8 = .ok (.dup, 1) := by decide +kernel
theorem dX6_init_9 : decode cX6_init 9 = .ok (.invokespecial 9, 3) := by decide +kernel
theorem dX6_init_12 : decode cX6_init 12 = .ok (.putfield 10, 3) := by decide +kernel
theorem dX6_init_15 : decode cX6_init 15 = .ok (.aload_n 0, 1) := by decide +kernel
theorem dX6_init_16 : decode cX6_init 16 = .ok (.new 16, 3) := by decide +kernel
theorem dX6_init_19 : decode cX6_init 19 = .ok (.dup, 1) := by decide +kernel
theorem dX6_init_20 : decode cX6_init 20 = .ok (.invokespecial 18, 3) := by decide +kernel
theorem dX6_init_23 : decode cX6_init 23 = .ok (.putfield 19, 3) := by decide +kernel
theorem dX6_init_26 : decode cX6_init 26 = .ok (.aload_n 0, 1) := by decide +kernel
theorem dX6_init_27 : decode cX6_init 27 = .ok (.new 23, 3) := by decide +kernel
theorem dX6_init_30 : decode cX6_init 30 = .ok (.dup, 1) := by decide +kernel
theorem dX6_init_31 : decode cX6_init 31 = .ok (.invokespecial 25, 3) := by decide +kernel
theorem dX6_init_34 : decode cX6_init 34 = .ok (.putfield 26, 3) := by decide +kernel
theorem dX6_init_37 : decode cX6_init 37 = .ok (.aload_n 0, 1) := by decide +kernel
theorem dX6_init_38 : decode cX6_init 38 = .ok (.new 30, 3) := by decide +kernel
theorem dX6_init_41 : decode cX6_init 41 = .ok (.dup, 1) := by decide +kernel
theorem dX6_init_42 : decode cX6_init 42 = .ok (.aload_n 0, 1) := by decide +kernel
theorem dX6_init_43 : decode cX6_init 43 = .ok (.getfield 19, 3) := by decide +kernel
theorem dX6_init_46 : decode cX6_init 46 = .ok (.invokespecial 32, 3) := by decide +kernel
theorem dX6_init_49 : decode cX6_init 49 = .ok (.putfield 35, 3) := by decide +kernel
theorem dX6_init_52 : decode cX6_init 52 = .ok (.aload_n 0, 1) := by decide +kernel
theorem dX6_init_53 : decode cX6_init 53 = .ok (.new 39, 3) := by decide +kernel
theorem dX6_init_56 : decode cX6_init 56 = .ok (.dup, 1) := by decide +kernel
theorem dX6_init_57 : decode cX6_init 57 = .ok (.aload_n 0, 1) := by decide +kernel
theorem dX6_init_58 : decode cX6_init 58 = .ok (.getfield 19, 3) := by decide +kernel
theorem dX6_init_61 : decode cX6_init 61 = .ok (.aload_n 0, 1) := by decide +kernel
theorem dX6_init_62 : decode cX6_init 62 = .ok (.getfield 35, 3) := by decide +kernel
theorem dX6_init_65 : decode cX6_init 65 = .ok (.invokespecial 41, 3) := by decide +kernel
theorem dX6_init_68 : decode cX6_init 68 = .ok (.putfield 44, 3) := by decide +kernel
theorem dX6_init_71 : decode cX6_init 71 = .ok (.aload_n 0, 1) := by decide +kernel
theorem dX6_init_72 : decode cX6_init 72 = .ok (.new 48, 3) := by decide +kernel
theorem dX6_init_75 : decode cX6_init 75 = .ok (.dup, 1) := by decide +kernel
theorem dX6_init_76 : decode cX6_init 76 = .ok (.aload_n 0, 1) := by decide +kernel
theorem dX6_init_77 : decode cX6_init 77 = .ok (.getfield 19, 3) := by decide +kernel
theorem dX6_init_80 : decode cX6_init 80 = .ok (.aload_n 0, 1) := by decide +kernel
theorem dX6_init_81 : decode cX6_init 81 = .ok (.getfield 35, 3) := by decide +kernel
theorem dX6_init_84 : decode cX6_init 84 = .ok (.aload_n 0, 1) := by decide +kernel
theorem dX6_init_85 : decode cX6_init 85 = .ok (.getfield 44, 3) := by decide +kernel
theorem dX6_init_88 : decode cX6_init 88 = .ok (.invokespecial 50, 3) := by decide +kernel
theorem dX6_init_91 : decode cX6_init 91 = .ok (.putfield 53, 3) := by decide +kernel
theorem dX6_init_94 : decode cX6_init 94 = .ok (.aload_n 0, 1) := by decide +kernel
theorem dX6_init_95 : decode cX6_init 95 = .ok (.new 39, 3) := by decide +kernel
theorem dX6_init_98 : decode cX6_init 98 = .ok (.dup, 1) := by decide +kernel
theorem dX6_init_99 : decode cX6_init 99 = .ok (.aload_n 0, 1) := by decide +kernel
theorem dX6_init_100 : decode cX6_init 100 = .ok (.getfield 19, 3) := by decide +kernel
theorem dX6_init_103 : decode cX6_init 103 = .ok (.aload_n 0, 1) := by decide +kernel
theorem dX6_init_104 : decode cX6_init 104 = .ok (.getfield 35, 3) := by decide +kernel
theorem dX6_init_107 : decode cX6_init 107 = .ok (.invokespecial 41, 3) := by decide +kernel
theorem dX6_init_110 : decode cX6_init 110 = .ok (.putfield 57, 3) := by decide +kernel
theorem dX6_init_113 : decode cX6_init 113 = .ok (.aload_n 0, 1) := by decide +kernel
theorem dX6_init_114 : decode cX6_init 114 = .ok (.iconst 0, 1) := by decide +kernel
theorem dX6_init_115 : decode cX6_init 115 = .ok (.putfield 60, 3) := by decide +kernel
theorem dX6_init_118 : decode cX6_init 118 = .ok (.return_, 1) := by decide +kernel
theorem dX6_type_0 : decode cX6_type 0 = .ok (.iload_n 1, 1) := by decide +kernel
theorem dX6_type_1 : decode cX6_type 1 = .ok (.ifCond .lt 9, 3) := by decide +kernel
theorem dX6_type_4 : decode cX6_type 4 = .ok (.iload_n 1, 1) := by decide +kernel
theorem dX6_type_5 : decode cX6_type 5 = .ok (.bipush 127, 2) := by decide +kernel
theorem dX6_type_7 : decode cX6_type 7 = .ok (.if_icmp .le 7, 3) := by decide +kernel
theorem dX6_type_10 : decode cX6_type 10 = .ok (.sipush (-1002), 3) := by decide +kernel
theorem dX6_type_13 : decode cX6_type 13 = .ok (.ireturn, 1) := by decide +kernel
theorem dX6_type_14 : decode cX6_type 14 = .ok (.aload_n 0, 1) := by decide +kernel
theorem dX6_type_15 : decode cX6_type 15 = .ok (.getfield 10, 3) := by decide +kernel
theorem dX6_type_18 : decode cX6_type 18 = .ok (.iload_n 1, 1) := by decide +kernel
theorem dX6_type_19 : decode cX6_type 19 = .ok (.invokevirtual 64, 3) := by decide +kernel
theorem dX6_type_22 : decode cX6_type 22 = .ok (.ifCond .eq 13, 3) := by decide +kernel
theorem dX6_type_25 : decode cX6_type 25 = .ok (.aload_n 0, 1) := by decide +kernel
theorem dX6_type_26 : decode cX6_type 26 = .ok (.getfield 10, 3) := by decide +kernel
theorem dX6_type_29 : decode cX6_type 29 = .ok (.getfield 68, 3) := by decide +kernel
theorem dX6_type_32 : decode cX6_type 32 = .ok (.goto 6, 3) := by decide +kernel
theorem dX6_type_35 : decode cX6_type 35 = .ok (.sipush (-1004), 3) := by decide +kernel
theorem dX6_type_38 : decode cX6_type 38 = .ok (.ireturn, 1) := by decide +kernel
theorem dX6_clear_0 : decode cX6_clear 0 = .ok (.aload_n 0, 1) := by decide +kernel
theorem dX6_clear_1 : decode cX6_clear 1 = .ok (.getfield 10, 3) := by decide +kernel
theorem dX6_clear_4 : decode cX6_clear 4 = .ok (.getfield 68, 3) := by decide +kernel
theorem dX6_clear_7 : decode cX6_clear 7 = .ok (.istore_n 1, 1) := by decide +kernel
theorem dX6_clear_8 : decode cX6_clear 8 = .ok (.aload_n 0, 1) := by decide +kernel
theorem dX6_clear_9 : decode cX6_clear 9 = .ok (.getfield 10, 3) := by decide +kernel
theorem dX6_clear_12 : decode cX6_clear 12 = .ok (.iconst 0, 1) := by decide +kernel
theorem dX6_clear_13 : decode cX6_clear 13 = .ok (.putfield 68, 3) := by decide +kernel
theorem dX6_clear_16 : decode cX6_clear 16 = .ok (.iload_n 1, 1) := by decide +kernel
theorem dX6_clear_17 : decode cX6_clear 17 = .ok (.ireturn, 1) := by decide +kernel
theorem dX6_insert_0 : decode cX6_insert 0 = .ok (.iload_n 1, 1) := by decide +kernel
theorem dX6_insert_1 : decode cX6_insert 1 = .ok (.ifCond .lt 14, 3) := by decide +kernel
theorem dX6_insert_4 : decode cX6_insert 4 = .ok (.iload_n 1, 1) := by decide +kernel
theorem dX6_insert_5 : decode cX6_insert 5 = .ok (.aload_n 0, 1) := by decide +kernel
theorem dX6_insert_6 : decode cX6_insert 6 = .ok (.getfield 19, 3) := by decide +kernel
theorem dX6_insert_9 : decode cX6_insert 9 = .ok (.getfield 72, 3) := by decide +kernel
theorem dX6_insert_12 : decode cX6_insert 12 = .ok (.if_icmp .le 7, 3) := by decide +kernel
theorem dX6_insert_15 : decode cX6_insert 15 = .ok (.sipush (-1002), 3) := by decide +kernel
theorem dX6_insert_18 : decode cX6_insert 18 = .ok (.ireturn, 1) := by decide +kernel
theorem dX6_insert_19 : decode cX6_insert 19 = .ok (.aload_n 0, 1) := by decide +kernel
theorem dX6_insert_20 : decode cX6_insert 20 = .ok (.getfield 10, 3) := by decide +kernel
theorem dX6_insert_23 : decode cX6_insert 23 = .ok (.invokevirtual 75, 3) := by decide +kernel
theorem dX6_insert_26 : decode cX6_insert 26 = .ok (.istore_n 2, 1) := by decide +kernel
theorem dX6_insert_27 : decode cX6_insert 27 = .ok (.iload_n 2, 1) := by decide +kernel
theorem dX6_insert_28 : decode cX6_insert 28 = .ok (.ifCond .lt 9, 3) := by decide +kernel
theorem dX6_insert_31 : decode cX6_insert 31 = .ok (.sipush (-2000), 3) := by decide +kernel
theorem dX6_insert_34 : decode cX6_insert 34 = .ok (.iload_n 2, 1) := by decide +kernel
theorem dX6_insert_35 : decode cX6_insert 35 = .ok (.isub, 1) := by decide +kernel
theorem dX6_insert_36 : decode cX6_insert 36 = .ok (.ireturn, 1) := by decide +kernel
theorem dX6_insert_37 : decode cX6_insert 37 = .ok (.aload_n 0, 1) := by decide +kernel
theorem dX6_insert_38 : decode cX6_insert 38 = .ok (.getfield 19, 3) := by decide +kernel
theorem dX6_insert_41 : decode cX6_insert 41 = .ok (.getfield 72, 3) := by decide +kernel
theorem dX6_insert_44 : decode cX6_insert 44 = .ok (.bipush 16, 2) := by decide +kernel
theorem dX6_insert_46 : decode cX6_insert 46 = .ok (.if_icmp .lt 7, 3) := by decide +kernel
theorem dX6_insert_49 : decode cX6_insert 49 = .ok (.sipush (-1004), 3) := by decide +kernel
theorem dX6_insert_52 : decode cX6_insert 52 = .ok (.ireturn, 1) := by decide +kernel
theorem dX6_insert_53 : decode cX6_insert 53 = .ok (.aload_n 0, 1) := by decide +kernel
theorem dX6_insert_54 : decode cX6_insert 54 = .ok (.invokevirtual 79, 3) := by decide +kernel
theorem dX6_insert_57 : decode cX6_insert 57 = .ok (.aload_n 0, 1) := by decide +kernel
theorem dX6_insert_58 : decode cX6_insert 58 = .ok (.getfield 19, 3) := by decide +kernel
theorem dX6_insert_61 : decode cX6_insert 61 = .ok (.aload_n 0, 1) := by decide +kernel
theorem dX6_insert_62 : decode cX6_insert 62 = .ok (.getfield 10, 3) := by decide +kernel
theorem dX6_insert_65 : decode cX6_insert 65 = .ok (.getfield 82, 3) := by decide +kernel
theorem dX6_insert_68 : decode cX6_insert 68 = .ok (.invokevirtual 86, 3) := by decide +kernel
theorem dX6_insert_71 : decode cX6_insert 71 = .ok (.aload_n 0, 1) := by decide +kernel
theorem dX6_insert_72 : decode cX6_insert 72 = .ok (.getfield 19, 3) := by decide +kernel
theorem dX6_insert_75 : decode cX6_insert 75 = .ok (.aload_n 0, 1) := by decide +kernel
theorem dX6_insert_76 : decode cX6_insert 76 = .ok (.getfield 19, 3) := by decide +kernel
theorem dX6_insert_79 : decode cX6_insert 79 = .ok (.getfield 72, 3) := by decide +kernel
theorem dX6_insert_82 : decode cX6_insert 82 = .ok (.iconst 1, 1) := by decide +kernel
theorem dX6_insert_83 : decode cX6_insert 83 = .ok (.isub, 1) := by decide +kernel
theorem dX6_insert_84 : decode cX6_insert 84 = .ok (.iload_n 1, 1) := by decide +kernel
theorem dX6_insert_85 : decode cX6_insert 85 = .ok (.invokevirtual 89, 3) := by decide +kernel
theorem dX6_insert_88 : decode cX6_insert 88 = .ok (.aload_n 0, 1) := by decide +kernel
theorem dX6_insert_89 : decode cX6_insert 89 = .ok (.getfield 19, 3) := by decide +kernel
theorem dX6_insert_92 : decode cX6_insert 92 = .ok (.getfield 72, 3) := by decide +kernel
theorem dX6_insert_95 : decode cX6_insert 95 = .ok (.ireturn, 1) := by decide +kernel
theorem dX6_remove_0 : decode cX6_remove 0 = .ok (.aload_n 0, 1) := by decide +kernel
theorem dX6_remove_1 : decode cX6_remove 1 = .ok (.getfield 19, 3) := by decide +kernel
theorem dX6_remove_4 : decode cX6_remove 4 = .ok (.iload_n 1, 1) := by decide +kernel
theorem dX6_remove_5 : decode cX6_remove 5 = .ok (.invokevirtual 93, 3) := by decide +kernel
theorem dX6_remove_8 : decode cX6_remove 8 = .ok (.ifCond .ne 7, 3) := by decide +kernel
theorem dX6_remove_11 : decode cX6_remove 11 = .ok (.sipush (-1002), 3) := by decide +kernel
theorem dX6_remove_14 : decode cX6_remove 14 = .ok (.ireturn, 1) := by decide +kernel
theorem dX6_remove_15 : decode cX6_remove 15 = .ok (.aload_n 0, 1) := by decide +kernel
theorem dX6_remove_16 : decode cX6_remove 16 = .ok (.invokevirtual 79, 3) := by decide +kernel
theorem dX6_remove_19 : decode cX6_remove 19 = .ok (.aload_n 0, 1) := by decide +kernel
theorem dX6_remove_20 : decode cX6_remove 20 = .ok (.getfield 19, 3) := by decide +kernel
theorem dX6_remove_23 : decode cX6_remove 23 = .ok (.iload_n 1, 1) := by decide +kernel
theorem dX6_remove_24 : decode cX6_remove 24 = .ok (.aload_n 0, 1) := by decide +kernel
theorem dX6_remove_25 : decode cX6_remove 25 = .ok (.getfield 19, 3) := by decide +kernel
theorem dX6_remove_28 : decode cX6_remove 28 = .ok (.getfield 72, 3) := by decide +kernel
theorem dX6_remove_31 : decode cX6_remove 31 = .ok (.iconst 1, 1) := by decide +kernel
theorem dX6_remove_32 : decode cX6_remove 32 = .ok (.isub, 1) := by decide +kernel
theorem dX6_remove_33 : decode cX6_remove 33 = .ok (.invokevirtual 89, 3) := by decide +kernel
theorem dX6_remove_36 : decode cX6_remove 36 = .ok (.aload_n 0, 1) := by decide +kernel
theorem dX6_remove_37 : decode cX6_remove 37 = .ok (.getfield 19, 3) := by decide +kernel
theorem dX6_remove_40 : decode cX6_remove 40 = .ok (.dup, 1) := by decide +kernel
theorem dX6_remove_41 : decode cX6_remove 41 = .ok (.getfield 72, 3) := by decide +kernel
theorem dX6_remove_44 : decode cX6_remove 44 = .ok (.iconst 1, 1) := by decide +kernel
theorem dX6_remove_45 : decode cX6_remove 45 = .ok (.isub, 1) := by decide +kernel
theorem dX6_remove_46 : decode cX6_remove 46 = .ok (.putfield 72, 3) := by decide +kernel
theorem dX6_remove_49 : decode cX6_remove 49 = .ok (.aload_n 0, 1) := by decide +kernel
theorem dX6_remove_50 : decode cX6_remove 50 = .ok (.getfield 19, 3) := by decide +kernel
theorem dX6_remove_53 : decode cX6_remove 53 = .ok (.getfield 72, 3) := by decide +kernel
theorem dX6_remove_56 : decode cX6_remove 56 = .ok (.ireturn, 1) := by decide +kernel
theorem dX6_change_0 : decode cX6_change 0 = .ok (.aload_n 0, 1) := by decide +kernel
theorem dX6_change_1 : decode cX6_change 1 = .ok (.getfield 19, 3) := by decide +kernel
theorem dX6_change_4 : decode cX6_change 4 = .ok (.iload_n 1, 1) := by decide +kernel
theorem dX6_change_5 : decode cX6_change 5 = .ok (.invokevirtual 93, 3) := by decide +kernel
theorem dX6_change_8 : decode cX6_change 8 = .ok (.ifCond .eq 13, 3) := by decide +kernel
theorem dX6_change_11 : decode cX6_change 11 = .ok (.iload_n 2, 1) := by decide +kernel
theorem dX6_change_12 : decode cX6_change 12 = .ok (.ifCond .lt 9, 3) := by decide +kernel
theorem dX6_change_15 : decode cX6_change 15 = .ok (.iload_n 2, 1) := by decide +kernel
theorem dX6_change_16 : decode cX6_change 16 = .ok (.bipush 10, 2) := by decide +kernel
theorem dX6_change_18 : decode cX6_change 18 = .ok (.if_icmp .lt 7, 3) := by decide +kernel
theorem dX6_change_21 : decode cX6_change 21 = .ok (.sipush (-1002), 3) := by decide +kernel
theorem dX6_change_24 : decode cX6_change 24 = .ok (.ireturn, 1) := by decide +kernel
theorem dX6_change_25 : decode cX6_change 25 = .ok (.iload_n 3, 1) := by decide +kernel
theorem dX6_change_26 : decode cX6_change 26 = .ok (.getstatic 103, 3) := by decide +kernel
theorem dX6_change_29 : decode cX6_change 29 = .ok (.iload_n 2, 1) := by decide +kernel
theorem dX6_change_30 : decode cX6_change 30 = .ok (.iaload, 1) := by decide +kernel
theorem dX6_change_31 : decode cX6_change 31 = .ok (.if_icmp .lt 12, 3) := by decide +kernel
theorem dX6_change_34 : decode cX6_change 34 = .ok (.iload_n 3, 1) := by decide +kernel
theorem dX6_change_35 : decode cX6_change 35 = .ok (.getstatic 106, 3) := by decide +kernel
theorem dX6_change_38 : decode cX6_change 38 = .ok (.iload_n 2, 1) := by decide +kernel
theorem dX6_change_39 : decode cX6_change 39 = .ok (.iaload, 1) := by decide +kernel
theorem dX6_change_40 : decode cX6_change 40 = .ok (.if_icmp .le 7, 3) := by decide +kernel
theorem dX6_change_43 : decode cX6_change 43 = .ok (.sipush (-1002), 3) := by decide +kernel
theorem dX6_change_46 : decode cX6_change 46 = .ok (.ireturn, 1) := by decide +kernel
theorem dX6_change_47 : decode cX6_change 47 = .ok (.aload_n 0, 1) := by decide +kernel
theorem dX6_change_48 : decode cX6_change 48 = .ok (.invokevirtual 79, 3) := by decide +kernel
theorem dX6_change_51 : decode cX6_change 51 = .ok (.aload_n 0, 1) := by decide +kernel
theorem dX6_change_52 : decode cX6_change 52 = .ok (.getfield 19, 3) := by decide +kernel
theorem dX6_change_55 : decode cX6_change 55 = .ok (.iload_n 1, 1) := by decide +kernel
theorem dX6_change_56 : decode cX6_change 56 = .ok (.iload_n 2, 1) := by decide +kernel
theorem dX6_change_57 : decode cX6_change 57 = .ok (.invokevirtual 109, 3) := by decide +kernel
theorem dX6_change_60 : decode cX6_change 60 = .ok (.istore 4, 2) := by decide +kernel
theorem dX6_change_62 : decode cX6_change 62 = .ok (.aload_n 0, 1) := by decide +kernel
theorem dX6_change_63 : decode cX6_change 63 = .ok (.getfield 19, 3) := by decide +kernel
theorem dX6_change_66 : decode cX6_change 66 = .ok (.iload_n 1, 1) := by decide +kernel
theorem dX6_change_67 : decode cX6_change 67 = .ok (.iload_n 2, 1) := by decide +kernel
theorem dX6_change_68 : decode cX6_change 68 = .ok (.iload_n 3, 1) := by decide +kernel
theorem dX6_change_69 : decode cX6_change 69 = .ok (.invokevirtual 113, 3) := by decide +kernel
theorem dX6_change_72 : decode cX6_change 72 = .ok (.iload 4, 2) := by decide +kernel
theorem dX6_change_74 : decode cX6_change 74 = .ok (.ireturn, 1) := by decide +kernel
theorem dX6_hide_0 : decode cX6_hide 0 = .ok (.aload_n 0, 1) := by decide +kernel
theorem dX6_hide_1 : decode cX6_hide 1 = .ok (.getfield 19, 3) := by decide +kernel
theorem dX6_hide_4 : decode cX6_hide 4 = .ok (.iload_n 1, 1) := by decide +kernel
theorem dX6_hide_5 : decode cX6_hide 5 = .ok (.invokevirtual 93, 3) := by decide +kernel
theorem dX6_hide_8 : decode cX6_hide 8 = .ok (.ifCond .ne 7, 3) := by decide +kernel
theorem dX6_hide_11 : decode cX6_hide 11 = .ok (.sipush (-1002), 3) := by decide +kernel
theorem dX6_hide_14 : decode cX6_hide 14 = .ok (.ireturn, 1) := by decide +kernel
theorem dX6_hide_15 : decode cX6_hide 15 = .ok (.aload_n 0, 1) := by decide +kernel
theorem dX6_hide_16 : decode cX6_hide 16 = .ok (.invokevirtual 79, 3) := by decide +kernel
theorem dX6_hide_19 : decode cX6_hide 19 = .ok (.iconst 1, 1) := by decide +kernel
theorem dX6_hide_20 : decode cX6_hide 20 = .ok (.aload_n 0, 1) := by decide +kernel
theorem dX6_hide_21 : decode cX6_hide 21 = .ok (.getfield 19, 3) := by decide +kernel
theorem dX6_hide_24 : decode cX6_hide 24 = .ok (.iload_n 1, 1) := by decide +kernel
theorem dX6_hide_25 : decode cX6_hide 25 = .ok (.bipush 10, 2) := by decide +kernel
theorem dX6_hide_27 : decode cX6_hide 27 = .ok (.invokevirtual 109, 3) := by decide +kernel
theorem dX6_hide_30 : decode cX6_hide 30 = .ok (.isub, 1) := by decide +kernel
theorem dX6_hide_31 : decode cX6_hide 31 = .ok (.istore_n 2, 1) := by decide +kernel
theorem dX6_hide_32 : decode cX6_hide 32 = .ok (.aload_n 0, 1) := by decide +kernel
theorem dX6_hide_33 : decode cX6_hide 33 = .ok (.getfield 19, 3) := by decide +kernel
theorem dX6_hide_36 : decode cX6_hide 36 = .ok (.iload_n 1, 1) := by decide +kernel
theorem dX6_hide_37 : decode cX6_hide 37 = .ok (.bipush 10, 2) := by decide +kernel
theorem dX6_hide_39 : decode cX6_hide 39 = .ok (.iload_n 2, 1) := by decide +kernel
theorem dX6_hide_40 : decode cX6_hide 40 = .ok (.invokevirtual 113, 3) := by decide +kernel
theorem dX6_hide_43 : decode cX6_hide 43 = .ok (.iload_n 2, 1) := by decide +kernel
theorem dX6_hide_44 : decode cX6_hide 44 = .ok (.ireturn, 1) := by decide +kernel
theorem dX6_set_0 : decode cX6_set 0 = .ok (.iload_n 1, 1) := by decide +kernel
theorem dX6_set_1 : decode cX6_set 1 = .ok (.ifCond .lt 9, 3) := by decide +kernel
theorem dX6_set_4 : decode cX6_set 4 = .ok (.iload_n 1, 1) := by decide +kernel
theorem dX6_set_5 : decode cX6_set 5 = .ok (.bipush 7, 2) := by decide +kernel
theorem dX6_set_7 : decode cX6_set 7 = .ok (.if_icmp .lt 7, 3) := by decide +kernel
theorem dX6_set_10 : decode cX6_set 10 = .ok (.sipush (-1002), 3) := by decide +kernel
theorem dX6_set_13 : decode cX6_set 13 = .ok (.ireturn, 1) := by decide +kernel
theorem dX6_set_14 : decode cX6_set 14 = .ok (.iload_n 2, 1) := by decide +kernel
theorem dX6_set_15 : decode cX6_set 15 = .ok (.getstatic 117, 3) := by decide +kernel
theorem dX6_set_18 : decode cX6_set 18 = .ok (.iload_n 1, 1) := by decide +kernel
theorem dX6_set_19 : decode cX6_set 19 = .ok (.iaload, 1) := by decide +kernel
theorem dX6_set_20 : decode cX6_set 20 = .ok (.if_icmp .lt 12, 3) := by decide +kernel
theorem dX6_set_23 : decode cX6_set 23 = .ok (.iload_n 2, 1) := by decide +kernel
theorem dX6_set_24 : decode cX6_set 24 = .ok (.getstatic 120, 3) := by decide +kernel
theorem dX6_set_27 : decode cX6_set 27 = .ok (.iload_n 1, 1) := by decide +kernel
theorem dX6_set_28 : decode cX6_set 28 = .ok (.iaload, 1) := by decide +kernel
theorem dX6_set_29 : decode cX6_set 29 = .ok (.if_icmp .le 7, 3) := by decide +kernel
theorem dX6_set_32 : decode cX6_set 32 = .ok (.sipush (-1002), 3) := by decide +kernel
theorem dX6_set_35 : decode cX6_set 35 = .ok (.ireturn, 1) := by decide +kernel
theorem dX6_set_36 : decode cX6_set 36 = .ok (.aload_n 0, 1) := by decide +kernel
theorem dX6_set_37 : decode cX6_set 37 = .ok (.invokevirtual 79, 3) := by decide +kernel
theorem dX6_set_40 : decode cX6_set 40 = .ok (.aload_n 0, 1) := by decide +kernel
theorem dX6_set_41 : decode cX6_set 41 = .ok (.getfield 19, 3) := by decide +kernel
theorem dX6_set_44 : decode cX6_set 44 = .ok (.iload_n 1, 1) := by decide +kernel
theorem dX6_set_45 : decode cX6_set 45 = .ok (.invokevirtual 123, 3) := by decide +kernel
theorem dX6_set_48 : decode cX6_set 48 = .ok (.istore_n 3, 1) := by decide +kernel
theorem dX6_set_49 : decode cX6_set 49 = .ok (.aload_n 0, 1) := by decide +kernel
theorem dX6_set_50 : decode cX6_set 50 = .ok (.getfield 19, 3) := by decide +kernel
theorem dX6_set_53 : decode cX6_set 53 = .ok (.iload_n 1, 1) := by decide +kernel
theorem dX6_set_54 : decode cX6_set 54 = .ok (.iload_n 2, 1) := by decide +kernel
theorem dX6_set_55 : decode cX6_set 55 = .ok (.invokevirtual 126, 3) := by decide +kernel
theorem dX6_set_58 : decode cX6_set 58 = .ok (.iload_n 3, 1) := by decide +kernel
theorem dX6_set_59 : decode cX6_set 59 = .ok (.ireturn, 1) := by decide +kernel
theorem dX6_undo_0 : decode cX6_undo 0 = .ok (.aload_n 0, 1) := by decide +kernel
theorem dX6_undo_1 : decode cX6_undo 1 = .ok (.getfield 26, 3) := by decide +kernel
theorem dX6_undo_4 : decode cX6_undo 4 = .ok (.getfield 129, 3) := by decide +kernel
theorem dX6_undo_7 : decode cX6_undo 7 = .ok (.ifCond .ne 7, 3) := by decide +kernel
theorem dX6_undo_10 : decode cX6_undo 10 = .ok (.sipush (-1003), 3) := by decide +kernel
theorem dX6_undo_13 : decode cX6_undo 13 = .ok (.ireturn, 1) := by decide +kernel
theorem dX6_undo_14 : decode cX6_undo 14 = .ok (.aload_n 0, 1) := by decide +kernel
theorem dX6_undo_15 : decode cX6_undo 15 = .ok (.getfield 26, 3) := by decide +kernel
theorem dX6_undo_18 : decode cX6_undo 18 = .ok (.aload_n 0, 1) := by decide +kernel
theorem dX6_undo_19 : decode cX6_undo 19 = .ok (.getfield 19, 3) := by decide +kernel
theorem dX6_undo_22 : decode cX6_undo 22 = .ok (.invokevirtual 132, 3) := by decide +kernel
theorem dX6_undo_25 : decode cX6_undo 25 = .ok (.aload_n 0, 1) := by decide +kernel
theorem dX6_undo_26 : decode cX6_undo 26 = .ok (.iconst 0, 1) := by decide +kernel
theorem dX6_undo_27 : decode cX6_undo 27 = .ok (.putfield 60, 3) := by decide +kernel
theorem dX6_undo_30 : decode cX6_undo 30 = .ok (.aload_n 0, 1) := by decide +kernel
theorem dX6_undo_31 : decode cX6_undo 31 = .ok (.getfield 26, 3) := by decide +kernel
theorem dX6_undo_34 : decode cX6_undo 34 = .ok (.getfield 129, 3) := by decide +kernel
theorem dX6_undo_37 : decode cX6_undo 37 = .ok (.ireturn, 1) := by decide +kernel
theorem dX6_item_0 : decode cX6_item 0 = .ok (.aload_n 0, 1) := by decide +kernel
theorem dX6_item_1 : decode cX6_item 1 = .ok (.getfield 19, 3) := by decide +kernel
theorem dX6_item_4 : decode cX6_item 4 = .ok (.iload_n 1, 1) := by decide +kernel
theorem dX6_item_5 : decode cX6_item 5 = .ok (.invokevirtual 93, 3) := by decide +kernel
theorem dX6_item_8 : decode cX6_item 8 = .ok (.ifCond .eq 13, 3) := by decide +kernel
theorem dX6_item_11 : decode cX6_item 11 = .ok (.iload_n 2, 1) := by decide +kernel
theorem dX6_item_12 : decode cX6_item 12 = .ok (.ifCond .lt 9, 3) := by decide +kernel
theorem dX6_item_15 : decode cX6_item 15 = .ok (.iload_n 2, 1) := by decide +kernel
theorem dX6_item_16 : decode cX6_item 16 = .ok (.bipush 11, 2) := by decide +kernel
theorem dX6_item_18 : decode cX6_item 18 = .ok (.if_icmp .le 7, 3) := by decide +kernel
theorem dX6_item_21 : decode cX6_item 21 = .ok (.sipush (-1002), 3) := by decide +kernel
theorem dX6_item_24 : decode cX6_item 24 = .ok (.ireturn, 1) := by decide +kernel
theorem dX6_item_25 : decode cX6_item 25 = .ok (.iload_n 2, 1) := by decide +kernel
theorem dX6_item_26 : decode cX6_item 26 = .ok (.bipush 11, 2) := by decide +kernel
theorem dX6_item_28 : decode cX6_item 28 = .ok (.if_icmp .ne 14, 3) := by decide +kernel
theorem dX6_item_31 : decode cX6_item 31 = .ok (.aload_n 0, 1) := by decide +kernel
theorem dX6_item_32 : decode cX6_item 32 = .ok (.getfield 19, 3) := by decide +kernel
theorem dX6_item_35 : decode cX6_item 35 = .ok (.iload_n 1, 1) := by decide +kernel
theorem dX6_item_36 : decode cX6_item 36 = .ok (.invokevirtual 135, 3) := by decide +kernel
theorem dX6_item_39 : decode cX6_item 39 = .ok (.goto 12, 3) := by decide +kernel
theorem dX6_item_42 : decode cX6_item 42 = .ok (.aload_n 0, 1) := by decide +kernel
theorem dX6_item_43 : decode cX6_item 43 = .ok (.getfield 19, 3) := by decide +kernel
theorem dX6_item_46 : decode cX6_item 46 = .ok (.iload_n 1, 1) := by decide +kernel
theorem dX6_item_47 : decode cX6_item 47 = .ok (.iload_n 2, 1) := by decide +kernel
theorem dX6_item_48 : decode cX6_item 48 = .ok (.invokevirtual 109, 3) := by decide +kernel
theorem dX6_item_51 : decode cX6_item 51 = .ok (.ireturn, 1) := by decide +kernel
theorem dX6_lies_0 : decode cX6_lies 0 = .ok (.aload_n 0, 1) := by decide +kernel
theorem dX6_lies_1 : decode cX6_lies 1 = .ok (.getfield 19, 3) := by decide +kernel
theorem dX6_lies_4 : decode cX6_lies 4 = .ok (.iload_n 1, 1) := by decide +kernel
theorem dX6_lies_5 : decode cX6_lies 5 = .ok (.invokevirtual 93, 3) := by decide +kernel
theorem dX6_lies_8 : decode cX6_lies 8 = .ok (.ifCond .eq 13, 3) := by decide +kernel
theorem dX6_lies_11 : decode cX6_lies 11 = .ok (.iload_n 2, 1) := by decide +kernel
theorem dX6_lies_12 : decode cX6_lies 12 = .ok (.ifCond .lt 9, 3) := by decide +kernel
theorem dX6_lies_15 : decode cX6_lies 15 = .ok (.iload_n 2, 1) := by decide +kernel
theorem dX6_lies_16 : decode cX6_lies 16 = .ok (.bipush 7, 2) := by decide +kernel
theorem dX6_lies_18 : decode cX6_lies 18 = .ok (.if_icmp .le 7, 3) := by decide +kernel
theorem dX6_lies_21 : decode cX6_lies 21 = .ok (.sipush (-1002), 3) := by decide +kernel
theorem dX6_lies_24 : decode cX6_lies 24 = .ok (.ireturn, 1) := by decide +kernel
theorem dX6_lies_25 : decode cX6_lies 25 = .ok (.aload_n 0, 1) := by decide +kernel
theorem dX6_lies_26 : decode cX6_lies 26 = .ok (.getfield 19, 3) := by decide +kernel
theorem dX6_lies_29 : decode cX6_lies 29 = .ok (.iload_n 1, 1) := by decide +kernel
theorem dX6_lies_30 : decode cX6_lies 30 = .ok (.bipush 10, 2) := by decide +kernel
theorem dX6_lies_32 : decode cX6_lies 32 = .ok (.invokevirtual 109, 3) := by decide +kernel
theorem dX6_lies_35 : decode cX6_lies 35 = .ok (.ifCond .eq 7, 3) := by decide +kernel
theorem dX6_lies_38 : decode cX6_lies 38 = .ok (.sipush (-1003), 3) := by decide +kernel
theorem dX6_lies_41 : decode cX6_lies 41 = .ok (.ireturn, 1) := by decide +kernel
theorem dX6_lies_42 : decode cX6_lies 42 = .ok (.aload_n 0, 1) := by decide +kernel
theorem dX6_lies_43 : decode cX6_lies 43 = .ok (.invokevirtual 96, 3) := by decide +kernel
theorem dX6_lies_46 : decode cX6_lies 46 = .ok (.aload_n 0, 1) := by decide +kernel
theorem dX6_lies_47 : decode cX6_lies 47 = .ok (.aload_n 0, 1) := by decide +kernel
theorem dX6_lies_48 : decode cX6_lies 48 = .ok (.getfield 35, 3) := by decide +kernel
theorem dX6_lies_51 : decode cX6_lies 51 = .ok (.iload_n 1, 1) := by decide +kernel
theorem dX6_lies_52 : decode cX6_lies 52 = .ok (.invokevirtual 99, 3) := by decide +kernel
theorem dX6_lies_55 : decode cX6_lies 55 = .ok (.iload_n 2, 1) := by decide +kernel
theorem dX6_lies_56 : decode cX6_lies 56 = .ok (.invokevirtual 138, 3) := by decide +kernel
theorem dX6_lies_59 : decode cX6_lies 59 = .ok (.ireturn, 1) := by decide +kernel
theorem dX6_ordered_0 : decode cX6_ordered 0 = .ok (.iload_n 1, 1) := by decide +kernel
theorem dX6_ordered_1 : decode cX6_ordered 1 = .ok (.ifCond .ge 7, 3) := by decide +kernel
theorem dX6_ordered_4 : decode cX6_ordered 4 = .ok (.sipush (-1002), 3) := by decide +kernel
theorem dX6_ordered_7 : decode cX6_ordered 7 = .ok (.ireturn, 1) := by decide +kernel
theorem dX6_ordered_8 : decode cX6_ordered 8 = .ok (.aload_n 0, 1) := by decide +kernel
theorem dX6_ordered_9 : decode cX6_ordered 9 = .ok (.invokevirtual 96, 3) := by decide +kernel
theorem dX6_ordered_12 : decode cX6_ordered 12 = .ok (.iload_n 1, 1) := by decide +kernel
theorem dX6_ordered_13 : decode cX6_ordered 13 = .ok (.aload_n 0, 1) := by decide +kernel
theorem dX6_ordered_14 : decode cX6_ordered 14 = .ok (.getfield 35, 3) := by decide +kernel
theorem dX6_ordered_17 : decode cX6_ordered 17 = .ok (.getfield 141, 3) := by decide +kernel
theorem dX6_ordered_20 : decode cX6_ordered 20 = .ok (.if_icmp .ge 14, 3) := by decide +kernel
theorem dX6_ordered_23 : decode cX6_ordered 23 = .ok (.aload_n 0, 1) := by decide +kernel
theorem dX6_ordered_24 : decode cX6_ordered 24 = .ok (.getfield 35, 3) := by decide +kernel
theorem dX6_ordered_27 : decode cX6_ordered 27 = .ok (.iload_n 1, 1) := by decide +kernel
theorem dX6_ordered_28 : decode cX6_ordered 28 = .ok (.invokevirtual 144, 3) := by decide +kernel
theorem dX6_ordered_31 : decode cX6_ordered 31 = .ok (.goto 6, 3) := by decide +kernel
theorem dX6_ordered_34 : decode cX6_ordered 34 = .ok (.sipush (-1001), 3) := by decide +kernel
theorem dX6_ordered_37 : decode cX6_ordered 37 = .ok (.ireturn, 1) := by decide +kernel
theorem dX6_line_0 : decode cX6_line 0 = .ok (.iload_n 1, 1) := by decide +kernel
theorem dX6_line_1 : decode cX6_line 1 = .ok (.ifCond .lt 13, 3) := by decide +kernel
theorem dX6_line_4 : decode cX6_line 4 = .ok (.iload_n 2, 1) := by decide +kernel
theorem dX6_line_5 : decode cX6_line 5 = .ok (.ifCond .lt 9, 3) := by decide +kernel
theorem dX6_line_8 : decode cX6_line 8 = .ok (.iload_n 2, 1) := by decide +kernel
theorem dX6_line_9 : decode cX6_line 9 = .ok (.bipush 7, 2) := by decide +kernel
theorem dX6_line_11 : decode cX6_line 11 = .ok (.if_icmp .le 7, 3) := by decide +kernel
theorem dX6_line_14 : decode cX6_line 14 = .ok (.sipush (-1002), 3) := by decide +kernel
theorem dX6_line_17 : decode cX6_line 17 = .ok (.ireturn, 1) := by decide +kernel
theorem dX6_line_18 : decode cX6_line 18 = .ok (.aload_n 0, 1) := by decide +kernel
theorem dX6_line_19 : decode cX6_line 19 = .ok (.invokevirtual 96, 3) := by decide +kernel
theorem dX6_line_22 : decode cX6_line 22 = .ok (.iload_n 1, 1) := by decide +kernel
theorem dX6_line_23 : decode cX6_line 23 = .ok (.aload_n 0, 1) := by decide +kernel
theorem dX6_line_24 : decode cX6_line 24 = .ok (.getfield 44, 3) := by decide +kernel
theorem dX6_line_27 : decode cX6_line 27 = .ok (.getfield 147, 3) := by decide +kernel
theorem dX6_line_30 : decode cX6_line 30 = .ok (.if_icmp .ge 12, 3) := by decide +kernel
theorem dX6_line_33 : decode cX6_line 33 = .ok (.aload_n 0, 1) := by decide +kernel
theorem dX6_line_34 : decode cX6_line 34 = .ok (.iload_n 1, 1) := by decide +kernel
theorem dX6_line_35 : decode cX6_line 35 = .ok (.iload_n 2, 1) := by decide +kernel
theorem dX6_line_36 : decode cX6_line 36 = .ok (.invokevirtual 149, 3) := by decide +kernel
theorem dX6_line_39 : decode cX6_line 39 = .ok (.goto 6, 3) := by decide +kernel
theorem dX6_line_42 : decode cX6_line 42 = .ok (.sipush (-1001), 3) := by decide +kernel
theorem dX6_line_45 : decode cX6_line 45 = .ok (.ireturn, 1) := by decide +kernel
theorem dX6_count_0 : decode cX6_count 0 = .ok (.iload_n 1, 1) := by decide +kernel
theorem dX6_count_1 : decode cX6_count 1 = .ok (.ifCond .lt 9, 3) := by decide +kernel
theorem dX6_count_4 : decode cX6_count 4 = .ok (.iload_n 1, 1) := by decide +kernel
theorem dX6_count_5 : decode cX6_count 5 = .ok (.bipush 13, 2) := by decide +kernel
theorem dX6_count_7 : decode cX6_count 7 = .ok (.if_icmp .le 7, 3) := by decide +kernel
theorem dX6_count_10 : decode cX6_count 10 = .ok (.sipush (-1002), 3) := by decide +kernel
theorem dX6_count_13 : decode cX6_count 13 = .ok (.ireturn, 1) := by decide +kernel
theorem dX6_count_14 : decode cX6_count 14 = .ok (.aload_n 0, 1) := by decide +kernel
theorem dX6_count_15 : decode cX6_count 15 = .ok (.invokevirtual 96, 3) := by decide +kernel
theorem dX6_count_18 : decode cX6_count 18 = .ok (.aload_n 0, 1) := by decide +kernel
theorem dX6_count_19 : decode cX6_count 19 = .ok (.iload_n 1, 1) := by decide +kernel
theorem dX6_count_20 : decode cX6_count 20 = .ok (.invokevirtual 167, 3) := by decide +kernel
theorem dX6_count_23 : decode cX6_count 23 = .ok (.ireturn, 1) := by decide +kernel
theorem dX6_beforeChange_0 : decode cX6_beforeChange 0 = .ok (.aload_n 0, 1) := by decide +kernel
theorem dX6_beforeChange_1 : decode cX6_beforeChange 1 = .ok (.getfield 26, 3) := by decide +kernel
theorem dX6_beforeChange_4 : decode cX6_beforeChange 4 = .ok (.aload_n 0, 1) := by decide +kernel
theorem dX6_beforeChange_5 : decode cX6_beforeChange 5 = .ok (.getfield 19, 3) := by decide +kernel
theorem dX6_beforeChange_8 : decode cX6_beforeChange 8 = .ok (.invokevirtual 181, 3) := by decide +kernel
theorem dX6_beforeChange_11 : decode cX6_beforeChange 11 = .ok (.aload_n 0, 1) := by decide +kernel
theorem dX6_beforeChange_12 : decode cX6_beforeChange 12 = .ok (.iconst 0, 1) := by decide +kernel
theorem dX6_beforeChange_13 : decode cX6_beforeChange 13 = .ok (.putfield 60, 3) := by decide +kernel
theorem dX6_beforeChange_16 : decode cX6_beforeChange 16 = .ok (.return_, 1) := by decide +kernel
theorem dX6_layOut_0 : decode cX6_layOut 0 = .ok (.aload_n 0, 1) := by decide +kernel
theorem dX6_layOut_1 : decode cX6_layOut 1 = .ok (.getfield 60, 3) := by decide +kernel
theorem dX6_layOut_4 : decode cX6_layOut 4 = .ok (.ifCond .eq 4, 3) := by decide +kernel
theorem dX6_layOut_7 : decode cX6_layOut 7 = .ok (.return_, 1) := by decide +kernel
theorem dX6_layOut_8 : decode cX6_layOut 8 = .ok (.aload_n 0, 1) := by decide +kernel
theorem dX6_layOut_9 : decode cX6_layOut 9 = .ok (.getfield 35, 3) := by decide +kernel
theorem dX6_layOut_12 : decode cX6_layOut 12 = .ok (.invokevirtual 156, 3) := by decide +kernel
theorem dX6_layOut_15 : decode cX6_layOut 15 = .ok (.aload_n 0, 1) := by decide +kernel
theorem dX6_layOut_16 : decode cX6_layOut 16 = .ok (.getfield 44, 3) := by decide +kernel
theorem dX6_layOut_19 : decode cX6_layOut 19 = .ok (.aload_n 0, 1) := by decide +kernel
theorem dX6_layOut_20 : decode cX6_layOut 20 = .ok (.getfield 19, 3) := by decide +kernel
theorem dX6_layOut_23 : decode cX6_layOut 23 = .ok (.iconst 0, 1) := by decide +kernel
theorem dX6_layOut_24 : decode cX6_layOut 24 = .ok (.invokevirtual 123, 3) := by decide +kernel
theorem dX6_layOut_27 : decode cX6_layOut 27 = .ok (.invokevirtual 159, 3) := by decide +kernel
theorem dX6_layOut_30 : decode cX6_layOut 30 = .ok (.aload_n 0, 1) := by decide +kernel
theorem dX6_layOut_31 : decode cX6_layOut 31 = .ok (.getfield 44, 3) := by decide +kernel
theorem dX6_layOut_34 : decode cX6_layOut 34 = .ok (.invokevirtual 184, 3) := by decide +kernel
theorem dX6_layOut_37 : decode cX6_layOut 37 = .ok (.aload_n 0, 1) := by decide +kernel
theorem dX6_layOut_38 : decode cX6_layOut 38 = .ok (.getfield 53, 3) := by decide +kernel
theorem dX6_layOut_41 : decode cX6_layOut 41 = .ok (.invokevirtual 187, 3) := by decide +kernel
theorem dX6_layOut_44 : decode cX6_layOut 44 = .ok (.aload_n 0, 1) := by decide +kernel
theorem dX6_layOut_45 : decode cX6_layOut 45 = .ok (.iconst 1, 1) := by decide +kernel
theorem dX6_layOut_46 : decode cX6_layOut 46 = .ok (.putfield 60, 3) := by decide +kernel
theorem dX6_layOut_49 : decode cX6_layOut 49 = .ok (.return_, 1) := by decide +kernel
theorem dX6_lieAt_0 : decode cX6_lieAt 0 = .ok (.iload_n 1, 1) := by decide +kernel
theorem dX6_lieAt_1 : decode cX6_lieAt 1 = .ok (.ifCond .lt 14, 3) := by decide +kernel
theorem dX6_lieAt_4 : decode cX6_lieAt 4 = .ok (.iload_n 1, 1) := by decide +kernel
theorem dX6_lieAt_5 : decode cX6_lieAt 5 = .ok (.aload_n 0, 1) := by decide +kernel
theorem dX6_lieAt_6 : decode cX6_lieAt 6 = .ok (.getfield 35, 3) := by decide +kernel
theorem dX6_lieAt_9 : decode cX6_lieAt 9 = .ok (.getfield 141, 3) := by decide +kernel
theorem dX6_lieAt_12 : decode cX6_lieAt 12 = .ok (.if_icmp .lt 7, 3) := by decide +kernel
theorem dX6_lieAt_15 : decode cX6_lieAt 15 = .ok (.sipush (-1001), 3) := by decide +kernel
theorem dX6_lieAt_18 : decode cX6_lieAt 18 = .ok (.ireturn, 1) := by decide +kernel
theorem dX6_lieAt_19 : decode cX6_lieAt 19 = .ok (.aload_n 0, 1) := by decide +kernel
theorem dX6_lieAt_20 : decode cX6_lieAt 20 = .ok (.getfield 35, 3) := by decide +kernel
theorem dX6_lieAt_23 : decode cX6_lieAt 23 = .ok (.getfield 190, 3) := by decide +kernel
theorem dX6_lieAt_26 : decode cX6_lieAt 26 = .ok (.iload_n 1, 1) := by decide +kernel
theorem dX6_lieAt_27 : decode cX6_lieAt 27 = .ok (.iaload, 1) := by decide +kernel
theorem dX6_lieAt_28 : decode cX6_lieAt 28 = .ok (.istore_n 3, 1) := by decide +kernel
theorem dX6_lieAt_29 : decode cX6_lieAt 29 = .ok (.iload_n 2, 1) := by decide +kernel
theorem dX6_lieAt_30 : decode cX6_lieAt 30 = .ok (.tableswitch 122 0 6 #[42, 51, 53, 63, 73, 83, 102], 42) := by decide +kernel
theorem dX6_lieAt_72 : decode cX6_lieAt 72 = .ok (.aload_n 0, 1) := by decide +kernel
theorem dX6_lieAt_73 : decode cX6_lieAt 73 = .ok (.getfield 44, 3) := by decide +kernel
theorem dX6_lieAt_76 : decode cX6_lieAt 76 = .ok (.iload_n 1, 1) := by decide +kernel
theorem dX6_lieAt_77 : decode cX6_lieAt 77 = .ok (.invokevirtual 192, 3) := by decide +kernel
theorem dX6_lieAt_80 : decode cX6_lieAt 80 = .ok (.ireturn, 1) := by decide +kernel
theorem dX6_lieAt_81 : decode cX6_lieAt 81 = .ok (.iload_n 1, 1) := by decide +kernel
theorem dX6_lieAt_82 : decode cX6_lieAt 82 = .ok (.ireturn, 1) := by decide +kernel
theorem dX6_lieAt_83 : decode cX6_lieAt 83 = .ok (.aload_n 0, 1) := by decide +kernel
theorem dX6_lieAt_84 : decode cX6_lieAt 84 = .ok (.getfield 53, 3) := by decide +kernel
theorem dX6_lieAt_87 : decode cX6_lieAt 87 = .ok (.getfield 195, 3) := by decide +kernel
theorem dX6_lieAt_90 : decode cX6_lieAt 90 = .ok (.iload_n 1, 1) := by decide +kernel
theorem dX6_lieAt_91 : decode cX6_lieAt 91 = .ok (.iaload, 1) := by decide +kernel
theorem dX6_lieAt_92 : decode cX6_lieAt 92 = .ok (.ireturn, 1) := by decide +kernel
theorem dX6_lieAt_93 : decode cX6_lieAt 93 = .ok (.aload_n 0, 1) := by decide +kernel
theorem dX6_lieAt_94 : decode cX6_lieAt 94 = .ok (.getfield 44, 3) := by decide +kernel
theorem dX6_lieAt_97 : decode cX6_lieAt 97 = .ok (.getfield 198, 3) := by decide +kernel
theorem dX6_lieAt_100 : decode cX6_lieAt 100 = .ok (.iload_n 1, 1) := by decide +kernel
theorem dX6_lieAt_101 : decode cX6_lieAt 101 = .ok (.iaload, 1) := by decide +kernel
theorem dX6_lieAt_102 : decode cX6_lieAt 102 = .ok (.ireturn, 1) := by decide +kernel
theorem dX6_lieAt_103 : decode cX6_lieAt 103 = .ok (.aload_n 0, 1) := by decide +kernel
theorem dX6_lieAt_104 : decode cX6_lieAt 104 = .ok (.getfield 53, 3) := by decide +kernel
theorem dX6_lieAt_107 : decode cX6_lieAt 107 = .ok (.getfield 201, 3) := by decide +kernel
theorem dX6_lieAt_110 : decode cX6_lieAt 110 = .ok (.iload_n 1, 1) := by decide +kernel
theorem dX6_lieAt_111 : decode cX6_lieAt 111 = .ok (.iaload, 1) := by decide +kernel
theorem dX6_lieAt_112 : decode cX6_lieAt 112 = .ok (.ireturn, 1) := by decide +kernel
theorem dX6_lieAt_113 : decode cX6_lieAt 113 = .ok (.aload_n 0, 1) := by decide +kernel
theorem dX6_lieAt_114 : decode cX6_lieAt 114 = .ok (.getfield 53, 3) := by decide +kernel
theorem dX6_lieAt_117 : decode cX6_lieAt 117 = .ok (.getfield 201, 3) := by decide +kernel
theorem dX6_lieAt_120 : decode cX6_lieAt 120 = .ok (.iload_n 1, 1) := by decide +kernel
theorem dX6_lieAt_121 : decode cX6_lieAt 121 = .ok (.iaload, 1) := by decide +kernel
theorem dX6_lieAt_122 : decode cX6_lieAt 122 = .ok (.aload_n 0, 1) := by decide +kernel
theorem dX6_lieAt_123 : decode cX6_lieAt 123 = .ok (.getfield 19, 3) := by decide +kernel
theorem dX6_lieAt_126 : decode cX6_lieAt 126 = .ok (.iload_n 3, 1) := by decide +kernel
theorem dX6_lieAt_127 : decode cX6_lieAt 127 = .ok (.invokevirtual 204, 3) := by decide +kernel
theorem dX6_lieAt_130 : decode cX6_lieAt 130 = .ok (.iadd, 1) := by decide +kernel
theorem dX6_lieAt_131 : decode cX6_lieAt 131 = .ok (.ireturn, 1) := by decide +kernel
theorem dX6_lieAt_132 : decode cX6_lieAt 132 = .ok (.aload_n 0, 1) := by decide +kernel
theorem dX6_lieAt_133 : decode cX6_lieAt 133 = .ok (.getfield 44, 3) := by decide +kernel
theorem dX6_lieAt_136 : decode cX6_lieAt 136 = .ok (.getfield 198, 3) := by decide +kernel
theorem dX6_lieAt_139 : decode cX6_lieAt 139 = .ok (.iload_n 1, 1) := by decide +kernel
theorem dX6_lieAt_140 : decode cX6_lieAt 140 = .ok (.iaload, 1) := by decide +kernel
theorem dX6_lieAt_141 : decode cX6_lieAt 141 = .ok (.aload_n 0, 1) := by decide +kernel
theorem dX6_lieAt_142 : decode cX6_lieAt 142 = .ok (.getfield 35, 3) := by decide +kernel
theorem dX6_lieAt_145 : decode cX6_lieAt 145 = .ok (.getfield 207, 3) := by decide +kernel
theorem dX6_lieAt_148 : decode cX6_lieAt 148 = .ok (.iload_n 1, 1) := by decide +kernel
theorem dX6_lieAt_149 : decode cX6_lieAt 149 = .ok (.iaload, 1) := by decide +kernel
theorem dX6_lieAt_150 : decode cX6_lieAt 150 = .ok (.isub, 1) := by decide +kernel
theorem dX6_lieAt_151 : decode cX6_lieAt 151 = .ok (.ireturn, 1) := by decide +kernel
theorem dX6_lieAt_152 : decode cX6_lieAt 152 = .ok (.aload_n 0, 1) := by decide +kernel
theorem dX6_lieAt_153 : decode cX6_lieAt 153 = .ok (.getfield 44, 3) := by decide +kernel
theorem dX6_lieAt_156 : decode cX6_lieAt 156 = .ok (.getfield 209, 3) := by decide +kernel
theorem dX6_lieAt_159 : decode cX6_lieAt 159 = .ok (.iload_n 1, 1) := by decide +kernel
theorem dX6_lieAt_160 : decode cX6_lieAt 160 = .ok (.iaload, 1) := by decide +kernel
theorem dX6_lieAt_161 : decode cX6_lieAt 161 = .ok (.ireturn, 1) := by decide +kernel
theorem dX6_lineTells_0 : decode cX6_lineTells 0 = .ok (.iload_n 1, 1) := by decide +kernel
theorem dX6_lineTells_1 : decode cX6_lineTells 1 = .ok (.ifCond .lt 20, 3) := by decide +kernel
theorem dX6_lineTells_4 : decode cX6_lineTells 4 = .ok (.iload_n 1, 1) := by decide +kernel
theorem dX6_lineTells_5 : decode cX6_lineTells 5 = .ok (.aload_n 0, 1) := by decide +kernel
theorem dX6_lineTells_6 : decode cX6_lineTells 6 = .ok (.getfield 44, 3) := by decide +kernel
theorem dX6_lineTells_9 : decode cX6_lineTells 9 = .ok (.getfield 147, 3) := by decide +kernel
theorem dX6_lineTells_12 : decode cX6_lineTells 12 = .ok (.if_icmp .ge 9, 3) := by decide +kernel
theorem dX6_lineTells_15 : decode cX6_lineTells 15 = .ok (.iload_n 1, 1) := by decide +kernel
theorem dX6_lineTells_16 : decode cX6_lineTells 16 = .ok (.bipush 16, 2) := by decide +kernel
theorem dX6_lineTells_18 : decode cX6_lineTells 18 = .ok (.if_icmp .lt 7, 3) := by decide +kernel
theorem dX6_lineTells_21 : decode cX6_lineTells 21 = .ok (.sipush (-1001), 3) := by decide +kernel
theorem dX6_lineTells_24 : decode cX6_lineTells 24 = .ok (.ireturn, 1) := by decide +kernel
theorem dX6_lineTells_25 : decode cX6_lineTells 25 = .ok (.iload_n 2, 1) := by decide +kernel
theorem dX6_lineTells_26 : decode cX6_lineTells 26 = .ok (.tableswitch 129 0 6 #[42, 61, 71, 81, 91, 101, 119], 42) := by decide +kernel
theorem dX6_lineTells_68 : decode cX6_lineTells 68 = .ok (.aload_n 0, 1) := by decide +kernel
theorem dX6_lineTells_69 : decode cX6_lineTells 69 = .ok (.getfield 44, 3) := by decide +kernel
theorem dX6_lineTells_72 : decode cX6_lineTells 72 = .ok (.iload_n 1, 1) := by decide +kernel
theorem dX6_lineTells_73 : decode cX6_lineTells 73 = .ok (.invokevirtual 212, 3) := by decide +kernel
theorem dX6_lineTells_76 : decode cX6_lineTells 76 = .ok (.aload_n 0, 1) := by decide +kernel
theorem dX6_lineTells_77 : decode cX6_lineTells 77 = .ok (.getfield 44, 3) := by decide +kernel
theorem dX6_lineTells_80 : decode cX6_lineTells 80 = .ok (.getfield 215, 3) := by decide +kernel
theorem dX6_lineTells_83 : decode cX6_lineTells 83 = .ok (.iload_n 1, 1) := by decide +kernel
theorem dX6_lineTells_84 : decode cX6_lineTells 84 = .ok (.iaload, 1) := by decide +kernel
theorem dX6_lineTells_85 : decode cX6_lineTells 85 = .ok (.isub, 1) := by decide +kernel
theorem dX6_lineTells_86 : decode cX6_lineTells 86 = .ok (.ireturn, 1) := by decide +kernel
theorem dX6_lineTells_87 : decode cX6_lineTells 87 = .ok (.aload_n 0, 1) := by decide +kernel
theorem dX6_lineTells_88 : decode cX6_lineTells 88 = .ok (.getfield 44, 3) := by decide +kernel
theorem dX6_lineTells_91 : decode cX6_lineTells 91 = .ok (.getfield 215, 3) := by decide +kernel
theorem dX6_lineTells_94 : decode cX6_lineTells 94 = .ok (.iload_n 1, 1) := by decide +kernel
theorem dX6_lineTells_95 : decode cX6_lineTells 95 = .ok (.iaload, 1) := by decide +kernel
theorem dX6_lineTells_96 : decode cX6_lineTells 96 = .ok (.ireturn, 1) := by decide +kernel
theorem dX6_lineTells_97 : decode cX6_lineTells 97 = .ok (.aload_n 0, 1) := by decide +kernel
theorem dX6_lineTells_98 : decode cX6_lineTells 98 = .ok (.getfield 53, 3) := by decide +kernel
theorem dX6_lineTells_101 : decode cX6_lineTells 101 = .ok (.getfield 218, 3) := by decide +kernel
theorem dX6_lineTells_104 : decode cX6_lineTells 104 = .ok (.iload_n 1, 1) := by decide +kernel
theorem dX6_lineTells_105 : decode cX6_lineTells 105 = .ok (.iaload, 1) := by decide +kernel
theorem dX6_lineTells_106 : decode cX6_lineTells 106 = .ok (.ireturn, 1) := by decide +kernel
theorem dX6_lineTells_107 : decode cX6_lineTells 107 = .ok (.aload_n 0, 1) := by decide +kernel
theorem dX6_lineTells_108 : decode cX6_lineTells 108 = .ok (.getfield 53, 3) := by decide +kernel
theorem dX6_lineTells_111 : decode cX6_lineTells 111 = .ok (.getfield 221, 3) := by decide +kernel
theorem dX6_lineTells_114 : decode cX6_lineTells 114 = .ok (.iload_n 1, 1) := by decide +kernel
theorem dX6_lineTells_115 : decode cX6_lineTells 115 = .ok (.iaload, 1) := by decide +kernel
theorem dX6_lineTells_116 : decode cX6_lineTells 116 = .ok (.ireturn, 1) := by decide +kernel
theorem dX6_lineTells_117 : decode cX6_lineTells 117 = .ok (.aload_n 0, 1) := by decide +kernel
theorem dX6_lineTells_118 : decode cX6_lineTells 118 = .ok (.getfield 44, 3) := by decide +kernel
theorem dX6_lineTells_121 : decode cX6_lineTells 121 = .ok (.getfield 224, 3) := by decide +kernel
theorem dX6_lineTells_124 : decode cX6_lineTells 124 = .ok (.iload_n 1, 1) := by decide +kernel
theorem dX6_lineTells_125 : decode cX6_lineTells 125 = .ok (.iaload, 1) := by decide +kernel
theorem dX6_lineTells_126 : decode cX6_lineTells 126 = .ok (.ireturn, 1) := by decide +kernel
theorem dX6_lineTells_127 : decode cX6_lineTells 127 = .ok (.aload_n 0, 1) := by decide +kernel
theorem dX6_lineTells_128 : decode cX6_lineTells 128 = .ok (.getfield 44, 3) := by decide +kernel
theorem dX6_lineTells_131 : decode cX6_lineTells 131 = .ok (.getfield 227, 3) := by decide +kernel
theorem dX6_lineTells_134 : decode cX6_lineTells 134 = .ok (.iload_n 1, 1) := by decide +kernel
theorem dX6_lineTells_135 : decode cX6_lineTells 135 = .ok (.baload, 1) := by decide +kernel
theorem dX6_lineTells_136 : decode cX6_lineTells 136 = .ok (.ifCond .eq 7, 3) := by decide +kernel
theorem dX6_lineTells_139 : decode cX6_lineTells 139 = .ok (.iconst 1, 1) := by decide +kernel
theorem dX6_lineTells_140 : decode cX6_lineTells 140 = .ok (.goto 4, 3) := by decide +kernel
theorem dX6_lineTells_143 : decode cX6_lineTells 143 = .ok (.iconst 0, 1) := by decide +kernel
theorem dX6_lineTells_144 : decode cX6_lineTells 144 = .ok (.ireturn, 1) := by decide +kernel
theorem dX6_lineTells_145 : decode cX6_lineTells 145 = .ok (.aload_n 0, 1) := by decide +kernel
theorem dX6_lineTells_146 : decode cX6_lineTells 146 = .ok (.getfield 44, 3) := by decide +kernel
theorem dX6_lineTells_149 : decode cX6_lineTells 149 = .ok (.getfield 231, 3) := by decide +kernel
theorem dX6_lineTells_152 : decode cX6_lineTells 152 = .ok (.iload_n 1, 1) := by decide +kernel
theorem dX6_lineTells_153 : decode cX6_lineTells 153 = .ok (.iaload, 1) := by decide +kernel
theorem dX6_lineTells_154 : decode cX6_lineTells 154 = .ok (.ireturn, 1) := by decide +kernel
theorem dX6_lineTells_155 : decode cX6_lineTells 155 = .ok (.aload_n 0, 1) := by decide +kernel
theorem dX6_lineTells_156 : decode cX6_lineTells 156 = .ok (.getfield 44, 3) := by decide +kernel
theorem dX6_lineTells_159 : decode cX6_lineTells 159 = .ok (.getfield 234, 3) := by decide +kernel
theorem dX6_lineTells_162 : decode cX6_lineTells 162 = .ok (.iload_n 1, 1) := by decide +kernel
theorem dX6_lineTells_163 : decode cX6_lineTells 163 = .ok (.iaload, 1) := by decide +kernel
theorem dX6_lineTells_164 : decode cX6_lineTells 164 = .ok (.ireturn, 1) := by decide +kernel
theorem dX6_counted_0 : decode cX6_counted 0 = .ok (.iload_n 1, 1) := by decide +kernel
theorem dX6_counted_1 : decode cX6_counted 1 = .ok (.tableswitch 104 0 6 #[43, 51, 67, 75, 83, 88, 96], 43) := by decide +kernel
theorem dX6_counted_44 : decode cX6_counted 44 = .ok (.aload_n 0, 1) := by decide +kernel
theorem dX6_counted_45 : decode cX6_counted 45 = .ok (.getfield 19, 3) := by decide +kernel
theorem dX6_counted_48 : decode cX6_counted 48 = .ok (.getfield 72, 3) := by decide +kernel
theorem dX6_counted_51 : decode cX6_counted 51 = .ok (.ireturn, 1) := by decide +kernel
theorem dX6_counted_52 : decode cX6_counted 52 = .ok (.aload_n 0, 1) := by decide +kernel
theorem dX6_counted_53 : decode cX6_counted 53 = .ok (.getfield 19, 3) := by decide +kernel
theorem dX6_counted_56 : decode cX6_counted 56 = .ok (.getfield 72, 3) := by decide +kernel
theorem dX6_counted_59 : decode cX6_counted 59 = .ok (.aload_n 0, 1) := by decide +kernel
theorem dX6_counted_60 : decode cX6_counted 60 = .ok (.getfield 35, 3) := by decide +kernel
theorem dX6_counted_63 : decode cX6_counted 63 = .ok (.getfield 141, 3) := by decide +kernel
theorem dX6_counted_66 : decode cX6_counted 66 = .ok (.isub, 1) := by decide +kernel
theorem dX6_counted_67 : decode cX6_counted 67 = .ok (.ireturn, 1) := by decide +kernel
theorem dX6_counted_68 : decode cX6_counted 68 = .ok (.aload_n 0, 1) := by decide +kernel
theorem dX6_counted_69 : decode cX6_counted 69 = .ok (.getfield 44, 3) := by decide +kernel
theorem dX6_counted_72 : decode cX6_counted 72 = .ok (.getfield 147, 3) := by decide +kernel
theorem dX6_counted_75 : decode cX6_counted 75 = .ok (.ireturn, 1) := by decide +kernel
theorem dX6_counted_76 : decode cX6_counted 76 = .ok (.aload_n 0, 1) := by decide +kernel
theorem dX6_counted_77 : decode cX6_counted 77 = .ok (.getfield 53, 3) := by decide +kernel
theorem dX6_counted_80 : decode cX6_counted 80 = .ok (.getfield 237, 3) := by decide +kernel
theorem dX6_counted_83 : decode cX6_counted 83 = .ok (.ireturn, 1) := by decide +kernel
theorem dX6_counted_84 : decode cX6_counted 84 = .ok (.aload_n 0, 1) := by decide +kernel
theorem dX6_counted_85 : decode cX6_counted 85 = .ok (.invokevirtual 240, 3) := by decide +kernel
theorem dX6_counted_88 : decode cX6_counted 88 = .ok (.ireturn, 1) := by decide +kernel
theorem dX6_counted_89 : decode cX6_counted 89 = .ok (.aload_n 0, 1) := by decide +kernel
theorem dX6_counted_90 : decode cX6_counted 90 = .ok (.getfield 26, 3) := by decide +kernel
theorem dX6_counted_93 : decode cX6_counted 93 = .ok (.getfield 129, 3) := by decide +kernel
theorem dX6_counted_96 : decode cX6_counted 96 = .ok (.ireturn, 1) := by decide +kernel
theorem dX6_counted_97 : decode cX6_counted 97 = .ok (.aload_n 0, 1) := by decide +kernel
theorem dX6_counted_98 : decode cX6_counted 98 = .ok (.getfield 10, 3) := by decide +kernel
theorem dX6_counted_101 : decode cX6_counted 101 = .ok (.getfield 68, 3) := by decide +kernel
theorem dX6_counted_104 : decode cX6_counted 104 = .ok (.ireturn, 1) := by decide +kernel
theorem dX6_counted_105 : decode cX6_counted 105 = .ok (.aload_n 0, 1) := by decide +kernel
theorem dX6_counted_106 : decode cX6_counted 106 = .ok (.getfield 19, 3) := by decide +kernel
theorem dX6_counted_109 : decode cX6_counted 109 = .ok (.iload_n 1, 1) := by decide +kernel
theorem dX6_counted_110 : decode cX6_counted 110 = .ok (.bipush 7, 2) := by decide +kernel
theorem dX6_counted_112 : decode cX6_counted 112 = .ok (.isub, 1) := by decide +kernel
theorem dX6_counted_113 : decode cX6_counted 113 = .ok (.invokevirtual 123, 3) := by decide +kernel
theorem dX6_counted_116 : decode cX6_counted 116 = .ok (.ireturn, 1) := by decide +kernel
theorem dX6_greatestEnd_0 : decode cX6_greatestEnd 0 = .ok (.aload_n 0, 1) := by decide +kernel
theorem dX6_greatestEnd_1 : decode cX6_greatestEnd 1 = .ok (.getfield 35, 3) := by decide +kernel
theorem dX6_greatestEnd_4 : decode cX6_greatestEnd 4 = .ok (.getfield 141, 3) := by decide +kernel
theorem dX6_greatestEnd_7 : decode cX6_greatestEnd 7 = .ok (.ifCond .ne 7, 3) := by decide +kernel
theorem dX6_greatestEnd_10 : decode cX6_greatestEnd 10 = .ok (.sipush (-1001), 3) := by decide +kernel
theorem dX6_greatestEnd_13 : decode cX6_greatestEnd 13 = .ok (.ireturn, 1) := by decide +kernel
theorem dX6_greatestEnd_14 : decode cX6_greatestEnd 14 = .ok (.aload_n 0, 1) := by decide +kernel
theorem dX6_greatestEnd_15 : decode cX6_greatestEnd 15 = .ok (.getfield 53, 3) := by decide +kernel
theorem dX6_greatestEnd_18 : decode cX6_greatestEnd 18 = .ok (.iconst 0, 1) := by decide +kernel
theorem dX6_greatestEnd_19 : decode cX6_greatestEnd 19 = .ok (.invokevirtual 243, 3) := by decide +kernel
theorem dX6_greatestEnd_22 : decode cX6_greatestEnd 22 = .ok (.istore_n 1, 1) := by decide +kernel
theorem dX6_greatestEnd_23 : decode cX6_greatestEnd 23 = .ok (.iconst 1, 1) := by decide +kernel
theorem dX6_greatestEnd_24 : decode cX6_greatestEnd 24 = .ok (.istore_n 2, 1) := by decide +kernel
theorem dX6_greatestEnd_25 : decode cX6_greatestEnd 25 = .ok (.iload_n 2, 1) := by decide +kernel
theorem dX6_greatestEnd_26 : decode cX6_greatestEnd 26 = .ok (.aload_n 0, 1) := by decide +kernel
theorem dX6_greatestEnd_27 : decode cX6_greatestEnd 27 = .ok (.getfield 35, 3) := by decide +kernel
theorem dX6_greatestEnd_30 : decode cX6_greatestEnd 30 = .ok (.getfield 141, 3) := by decide +kernel
theorem dX6_greatestEnd_33 : decode cX6_greatestEnd 33 = .ok (.if_icmp .ge 22, 3) := by decide +kernel
theorem dX6_greatestEnd_36 : decode cX6_greatestEnd 36 = .ok (.iload_n 1, 1) := by decide +kernel
theorem dX6_greatestEnd_37 : decode cX6_greatestEnd 37 = .ok (.aload_n 0, 1) := by decide +kernel
theorem dX6_greatestEnd_38 : decode cX6_greatestEnd 38 = .ok (.getfield 53, 3) := by decide +kernel
theorem dX6_greatestEnd_41 : decode cX6_greatestEnd 41 = .ok (.iload_n 2, 1) := by decide +kernel
theorem dX6_greatestEnd_42 : decode cX6_greatestEnd 42 = .ok (.invokevirtual 243, 3) := by decide +kernel
theorem dX6_greatestEnd_45 : decode cX6_greatestEnd 45 = .ok (.invokestatic 244, 3) := by decide +kernel
theorem dX6_greatestEnd_48 : decode cX6_greatestEnd 48 = .ok (.istore_n 1, 1) := by decide +kernel
theorem dX6_greatestEnd_49 : decode cX6_greatestEnd 49 = .ok (.iinc 2 1, 3) := by decide +kernel
theorem dX6_greatestEnd_52 : decode cX6_greatestEnd 52 = .ok (.goto (-27), 3) := by decide +kernel
theorem dX6_greatestEnd_55 : decode cX6_greatestEnd 55 = .ok (.iload_n 1, 1) := by decide +kernel
theorem dX6_greatestEnd_56 : decode cX6_greatestEnd 56 = .ok (.ireturn, 1) := by decide +kernel
theorem dJ9_floorDiv_7cf53_0 : decode cJ9_floorDiv_7cf53 0 = .ok (.iload_n 0, 1) := by decide +kernel
theorem dJ9_floorDiv_7cf53_1 : decode cJ9_floorDiv_7cf53 1 = .ok (.iload_n 1, 1) := by decide +kernel
theorem dJ9_floorDiv_7cf53_2 : decode cJ9_floorDiv_7cf53 2 = .ok (.idiv, 1) := by decide +kernel
theorem dJ9_floorDiv_7cf53_3 : decode cJ9_floorDiv_7cf53 3 = .ok (.istore_n 2, 1) := by decide +kernel
theorem dJ9_floorDiv_7cf53_4 : decode cJ9_floorDiv_7cf53 4 = .ok (.iload_n 0, 1) := by decide +kernel
theorem dJ9_floorDiv_7cf53_5 : decode cJ9_floorDiv_7cf53 5 = .ok (.iload_n 1, 1) := by decide +kernel
theorem dJ9_floorDiv_7cf53_6 : decode cJ9_floorDiv_7cf53 6 = .ok (.ixor, 1) := by decide +kernel
theorem dJ9_floorDiv_7cf53_7 : decode cJ9_floorDiv_7cf53 7 = .ok (.ifCond .ge 14, 3) := by decide +kernel
theorem dJ9_floorDiv_7cf53_10 : decode cJ9_floorDiv_7cf53 10 = .ok (.iload_n 2, 1) := by decide +kernel
theorem dJ9_floorDiv_7cf53_11 : decode cJ9_floorDiv_7cf53 11 = .ok (.iload_n 1, 1) := by decide +kernel
theorem dJ9_floorDiv_7cf53_12 : decode cJ9_floorDiv_7cf53 12 = .ok (.imul, 1) := by decide +kernel
theorem dJ9_floorDiv_7cf53_13 : decode cJ9_floorDiv_7cf53 13 = .ok (.iload_n 0, 1) := by decide +kernel
theorem dJ9_floorDiv_7cf53_14 : decode cJ9_floorDiv_7cf53 14 = .ok (.if_icmp .eq 7, 3) := by decide +kernel
theorem dJ9_floorDiv_7cf53_17 : decode cJ9_floorDiv_7cf53 17 = .ok (.iload_n 2, 1) := by decide +kernel
theorem dJ9_floorDiv_7cf53_18 : decode cJ9_floorDiv_7cf53 18 = .ok (.iconst 1, 1) := by decide +kernel
theorem dJ9_floorDiv_7cf53_19 : decode cJ9_floorDiv_7cf53 19 = .ok (.isub, 1) := by decide +kernel
theorem dJ9_floorDiv_7cf53_20 : decode cJ9_floorDiv_7cf53 20 = .ok (.ireturn, 1) := by decide +kernel
theorem dJ9_floorDiv_7cf53_21 : decode cJ9_floorDiv_7cf53 21 = .ok (.iload_n 2, 1) := by decide +kernel
theorem dJ9_floorDiv_7cf53_22 : decode cJ9_floorDiv_7cf53 22 = .ok (.ireturn, 1) := by decide +kernel
theorem dJ9_floorMod_7cf53_0 : decode cJ9_floorMod_7cf53 0 = .ok (.iload_n 0, 1) := by decide +kernel
theorem dJ9_floorMod_7cf53_1 : decode cJ9_floorMod_7cf53 1 = .ok (.iload_n 1, 1) := by decide +kernel
theorem dJ9_floorMod_7cf53_2 : decode cJ9_floorMod_7cf53 2 = .ok (.irem, 1) := by decide +kernel
theorem dJ9_floorMod_7cf53_3 : decode cJ9_floorMod_7cf53 3 = .ok (.istore_n 2, 1) := by decide +kernel
theorem dJ9_floorMod_7cf53_4 : decode cJ9_floorMod_7cf53 4 = .ok (.iload_n 0, 1) := by decide +kernel
theorem dJ9_floorMod_7cf53_5 : decode cJ9_floorMod_7cf53 5 = .ok (.iload_n 1, 1) := by decide +kernel
theorem dJ9_floorMod_7cf53_6 : decode cJ9_floorMod_7cf53 6 = .ok (.ixor, 1) := by decide +kernel
theorem dJ9_floorMod_7cf53_7 : decode cJ9_floorMod_7cf53 7 = .ok (.ifCond .ge 11, 3) := by decide +kernel
theorem dJ9_floorMod_7cf53_10 : decode cJ9_floorMod_7cf53 10 = .ok (.iload_n 2, 1) := by decide +kernel
theorem dJ9_floorMod_7cf53_11 : decode cJ9_floorMod_7cf53 11 = .ok (.ifCond .eq 7, 3) := by decide +kernel
theorem dJ9_floorMod_7cf53_14 : decode cJ9_floorMod_7cf53 14 = .ok (.iload_n 2, 1) := by decide +kernel
theorem dJ9_floorMod_7cf53_15 : decode cJ9_floorMod_7cf53 15 = .ok (.iload_n 1, 1) := by decide +kernel
theorem dJ9_floorMod_7cf53_16 : decode cJ9_floorMod_7cf53 16 = .ok (.iadd, 1) := by decide +kernel
theorem dJ9_floorMod_7cf53_17 : decode cJ9_floorMod_7cf53 17 = .ok (.ireturn, 1) := by decide +kernel
theorem dJ9_floorMod_7cf53_18 : decode cJ9_floorMod_7cf53 18 = .ok (.iload_n 2, 1) := by decide +kernel
theorem dJ9_floorMod_7cf53_19 : decode cJ9_floorMod_7cf53 19 = .ok (.ireturn, 1) := by decide +kernel
theorem dJ9_max_7cf53_0 : decode cJ9_max_7cf53 0 = .ok (.iload_n 0, 1) := by decide +kernel
theorem dJ9_max_7cf53_1 : decode cJ9_max_7cf53 1 = .ok (.iload_n 1, 1) := by decide +kernel
theorem dJ9_max_7cf53_2 : decode cJ9_max_7cf53 2 = .ok (.if_icmp .lt 7, 3) := by decide +kernel
theorem dJ9_max_7cf53_5 : decode cJ9_max_7cf53 5 = .ok (.iload_n 0, 1) := by decide +kernel
theorem dJ9_max_7cf53_6 : decode cJ9_max_7cf53 6 = .ok (.goto 4, 3) := by decide +kernel
theorem dJ9_max_7cf53_9 : decode cJ9_max_7cf53 9 = .ok (.iload_n 1, 1) := by decide +kernel
theorem dJ9_max_7cf53_10 : decode cJ9_max_7cf53 10 = .ok (.ireturn, 1) := by decide +kernel
theorem dJ9_min_7cf53_0 : decode cJ9_min_7cf53 0 = .ok (.iload_n 0, 1) := by decide +kernel
theorem dJ9_min_7cf53_1 : decode cJ9_min_7cf53 1 = .ok (.iload_n 1, 1) := by decide +kernel
theorem dJ9_min_7cf53_2 : decode cJ9_min_7cf53 2 = .ok (.if_icmp .gt 7, 3) := by decide +kernel
theorem dJ9_min_7cf53_5 : decode cJ9_min_7cf53 5 = .ok (.iload_n 0, 1) := by decide +kernel
theorem dJ9_min_7cf53_6 : decode cJ9_min_7cf53 6 = .ok (.goto 4, 3) := by decide +kernel
theorem dJ9_min_7cf53_9 : decode cJ9_min_7cf53 9 = .ok (.iload_n 1, 1) := by decide +kernel
theorem dJ9_min_7cf53_10 : decode cJ9_min_7cf53 10 = .ok (.ireturn, 1) := by decide +kernel
theorem dJ0_length_8abf5_0 : decode cJ0_length_8abf5 0 = .ok (.aload_n 0, 1) := by decide +kernel
theorem dJ0_length_8abf5_1 : decode cJ0_length_8abf5 1 = .ok (.getfield 9, 3) := by decide +kernel
theorem dJ0_length_8abf5_4 : decode cJ0_length_8abf5 4 = .ok (.arraylength, 1) := by decide +kernel
theorem dJ0_length_8abf5_5 : decode cJ0_length_8abf5 5 = .ok (.aload_n 0, 1) := by decide +kernel
theorem dJ0_length_8abf5_6 : decode cJ0_length_8abf5 6 = .ok (.invokevirtual 335, 3) := by decide +kernel
theorem dJ0_length_8abf5_9 : decode cJ0_length_8abf5 9 = .ok (.ishr, 1) := by decide +kernel
theorem dJ0_length_8abf5_10 : decode cJ0_length_8abf5 10 = .ok (.ireturn, 1) := by decide +kernel
theorem dJ0_charAt_5068e_0 : decode cJ0_charAt_5068e 0 = .ok (.aload_n 0, 1) := by decide +kernel
theorem dJ0_charAt_5068e_1 : decode cJ0_charAt_5068e 1 = .ok (.invokevirtual 492, 3) := by decide +kernel
theorem dJ0_charAt_5068e_4 : decode cJ0_charAt_5068e 4 = .ok (.ifCond .eq 12, 3) := by decide +kernel
theorem dJ0_charAt_5068e_7 : decode cJ0_charAt_5068e 7 = .ok (.aload_n 0, 1) := by decide +kernel
theorem dJ0_charAt_5068e_8 : decode cJ0_charAt_5068e 8 = .ok (.getfield 9, 3) := by decide +kernel
theorem dJ0_charAt_5068e_11 : decode cJ0_charAt_5068e 11 = .ok (.iload_n 1, 1) := by decide +kernel
theorem dJ0_charAt_5068e_12 : decode cJ0_charAt_5068e 12 = .ok (.invokestatic 495, 3) := by decide +kernel
theorem dJ0_charAt_5068e_15 : decode cJ0_charAt_5068e 15 = .ok (.ireturn, 1) := by decide +kernel
theorem dJ0_charAt_5068e_16 : decode cJ0_charAt_5068e 16 = .ok (.aload_n 0, 1) := by decide +kernel
theorem dJ0_charAt_5068e_17 : decode cJ0_charAt_5068e 17 = .ok (.getfield 9, 3) := by decide +kernel
theorem dJ0_charAt_5068e_20 : decode cJ0_charAt_5068e 20 = .ok (.iload_n 1, 1) := by decide +kernel
theorem dJ0_charAt_5068e_21 : decode cJ0_charAt_5068e 21 = .ok (.invokestatic 498, 3) := by decide +kernel
theorem dJ0_charAt_5068e_24 : decode cJ0_charAt_5068e 24 = .ok (.ireturn, 1) := by decide +kernel
theorem dJ0_coder_7d493_0 : decode cJ0_coder_7d493 0 = .ok (.getstatic 38, 3) := by decide +kernel
theorem dJ0_coder_7d493_3 : decode cJ0_coder_7d493 3 = .ok (.ifCond .eq 10, 3) := by decide +kernel
theorem dJ0_coder_7d493_6 : decode cJ0_coder_7d493 6 = .ok (.aload_n 0, 1) := by decide +kernel
theorem dJ0_coder_7d493_7 : decode cJ0_coder_7d493 7 = .ok (.getfield 15, 3) := by decide +kernel
theorem dJ0_coder_7d493_10 : decode cJ0_coder_7d493 10 = .ok (.goto 4, 3) := by decide +kernel
theorem dJ0_coder_7d493_13 : decode cJ0_coder_7d493 13 = .ok (.iconst 1, 1) := by decide +kernel
theorem dJ0_coder_7d493_14 : decode cJ0_coder_7d493 14 = .ok (.ireturn, 1) := by decide +kernel
theorem dJ0_isLatin1_aae02_0 : decode cJ0_isLatin1_aae02 0 = .ok (.getstatic 38, 3) := by decide +kernel
theorem dJ0_isLatin1_aae02_3 : decode cJ0_isLatin1_aae02 3 = .ok (.ifCond .eq 14, 3) := by decide +kernel
theorem dJ0_isLatin1_aae02_6 : decode cJ0_isLatin1_aae02 6 = .ok (.aload_n 0, 1) := by decide +kernel
theorem dJ0_isLatin1_aae02_7 : decode cJ0_isLatin1_aae02 7 = .ok (.getfield 15, 3) := by decide +kernel
theorem dJ0_isLatin1_aae02_10 : decode cJ0_isLatin1_aae02 10 = .ok (.ifCond .ne 7, 3) := by decide +kernel
theorem dJ0_isLatin1_aae02_13 : decode cJ0_isLatin1_aae02 13 = .ok (.iconst 1, 1) := by decide +kernel
theorem dJ0_isLatin1_aae02_14 : decode cJ0_isLatin1_aae02 14 = .ok (.goto 4, 3) := by decide +kernel
theorem dJ0_isLatin1_aae02_17 : decode cJ0_isLatin1_aae02 17 = .ok (.iconst 0, 1) := by decide +kernel
theorem dJ0_isLatin1_aae02_18 : decode cJ0_isLatin1_aae02 18 = .ok (.ireturn, 1) := by decide +kernel
theorem dJ0_checkIndex_df160_0 : decode cJ0_checkIndex_df160 0 = .ok (.iload_n 0, 1) := by decide +kernel
theorem dJ0_checkIndex_df160_1 : decode cJ0_checkIndex_df160 1 = .ok (.iload_n 1, 1) := by decide +kernel
theorem dJ0_checkIndex_df160_2 : decode cJ0_checkIndex_df160 2 = .ok (.getstatic 1053, 3) := by decide +kernel
theorem dJ0_checkIndex_df160_5 : decode cJ0_checkIndex_df160 5 = .ok (.invokestatic 1059, 3) := by decide +kernel
theorem dJ0_checkIndex_df160_8 : decode cJ0_checkIndex_df160 8 = .ok (.pop, 1) := by decide +kernel
theorem dJ0_checkIndex_df160_9 : decode cJ0_checkIndex_df160 9 = .ok (.return_, 1) := by decide +kernel
theorem dJ1_charAt_3b067_0 : decode cJ1_charAt_3b067 0 = .ok (.iload_n 1, 1) := by decide +kernel
theorem dJ1_charAt_3b067_1 : decode cJ1_charAt_3b067 1 = .ok (.aload_n 0, 1) := by decide +kernel
theorem dJ1_charAt_3b067_2 : decode cJ1_charAt_3b067 2 = .ok (.arraylength, 1) := by decide +kernel
theorem dJ1_charAt_3b067_3 : decode cJ1_charAt_3b067 3 = .ok (.invokestatic 9, 3) := by decide +kernel
theorem dJ1_charAt_3b067_6 : decode cJ1_charAt_3b067 6 = .ok (.aload_n 0, 1) := by decide +kernel
theorem dJ1_charAt_3b067_7 : decode cJ1_charAt_3b067 7 = .ok (.iload_n 1, 1) := by decide +kernel
theorem dJ1_charAt_3b067_8 : decode cJ1_charAt_3b067 8 = .ok (.baload, 1) := by decide +kernel
theorem dJ1_charAt_3b067_9 : decode cJ1_charAt_3b067 9 = .ok (.sipush 255, 3) := by decide +kernel
theorem dJ1_charAt_3b067_12 : decode cJ1_charAt_3b067 12 = .ok (.iand, 1) := by decide +kernel
theorem dJ1_charAt_3b067_13 : decode cJ1_charAt_3b067 13 = .ok (.i2c, 1) := by decide +kernel
theorem dJ1_charAt_3b067_14 : decode cJ1_charAt_3b067 14 = .ok (.ireturn, 1) := by decide +kernel
theorem dJ2_getChar_3b067_0 : decode cJ2_getChar_3b067 0 = .ok (.getstatic 44, 3) := by decide +kernel
theorem dJ2_getChar_3b067_3 : decode cJ2_getChar_3b067 3 = .ok (.ifCond .ne 25, 3) := by decide +kernel
theorem dJ2_getChar_3b067_6 : decode cJ2_getChar_3b067 6 = .ok (.iload_n 1, 1) := by decide +kernel
theorem dJ2_getChar_3b067_7 : decode cJ2_getChar_3b067 7 = .ok (.ifCond .lt 11, 3) := by decide +kernel
theorem dJ2_getChar_3b067_10 : decode cJ2_getChar_3b067 10 = .ok (.iload_n 1, 1) := by decide +kernel
theorem dJ2_getChar_3b067_11 : decode cJ2_getChar_3b067 11 = .ok (.aload_n 0, 1) := by decide +kernel
theorem dJ2_getChar_3b067_12 : decode cJ2_getChar_3b067 12 = .ok (.invokestatic 48, 3) := by decide +kernel
theorem dJ2_getChar_3b067_15 : decode cJ2_getChar_3b067 15 = .ok (.if_icmp .lt 13, 3) := by decide +kernel
theorem dJ2_getChar_3b067_18 : decode cJ2_getChar_3b067 18 = .ok (.new 52, 3) := by decide +kernel
theorem dJ2_getChar_3b067_21 : decode cJ2_getChar_3b067 21 = .ok (.dup, 1) := by decide +kernel
theorem dJ2_getChar_3b067_22 : decode cJ2_getChar_3b067 22 = .ok (.ldc 54, 2) := by decide +kernel
theorem dJ2_getChar_3b067_24 : decode cJ2_getChar_3b067 24 = .ok (.invokespecial 56, 3) := by decide +kernel
theorem dJ2_getChar_3b067_27 : decode cJ2_getChar_3b067 27 = .ok (.athrow, 1) := by decide +kernel
theorem dJ2_getChar_3b067_28 : decode cJ2_getChar_3b067 28 = .ok (.iload_n 1, 1) := by decide +kernel
theorem dJ2_getChar_3b067_29 : decode cJ2_getChar_3b067 29 = .ok (.iconst 1, 1) := by decide +kernel
theorem dJ2_getChar_3b067_30 : decode cJ2_getChar_3b067 30 = .ok (.ishl, 1) := by decide +kernel
theorem dJ2_getChar_3b067_31 : decode cJ2_getChar_3b067 31 = .ok (.istore_n 1, 1) := by decide +kernel
theorem dJ2_getChar_3b067_32 : decode cJ2_getChar_3b067 32 = .ok (.aload_n 0, 1) := by decide +kernel
theorem dJ2_getChar_3b067_33 : decode cJ2_getChar_3b067 33 = .ok (.iload_n 1, 1) := by decide +kernel
theorem dJ2_getChar_3b067_34 : decode cJ2_getChar_3b067 34 = .ok (.iinc 1 1, 3) := by decide +kernel
theorem dJ2_getChar_3b067_37 : decode cJ2_getChar_3b067 37 = .ok (.baload, 1) := by decide +kernel
theorem dJ2_getChar_3b067_38 : decode cJ2_getChar_3b067 38 = .ok (.sipush 255, 3) := by decide +kernel
theorem dJ2_getChar_3b067_41 : decode cJ2_getChar_3b067 41 = .ok (.iand, 1) := by decide +kernel
theorem dJ2_getChar_3b067_42 : decode cJ2_getChar_3b067 42 = .ok (.getstatic 59, 3) := by decide +kernel
theorem dJ2_getChar_3b067_45 : decode cJ2_getChar_3b067 45 = .ok (.ishl, 1) := by decide +kernel
theorem dJ2_getChar_3b067_46 : decode cJ2_getChar_3b067 46 = .ok (.aload_n 0, 1) := by decide +kernel
theorem dJ2_getChar_3b067_47 : decode cJ2_getChar_3b067 47 = .ok (.iload_n 1, 1) := by decide +kernel
theorem dJ2_getChar_3b067_48 : decode cJ2_getChar_3b067 48 = .ok (.baload, 1) := by decide +kernel
theorem dJ2_getChar_3b067_49 : decode cJ2_getChar_3b067 49 = .ok (.sipush 255, 3) := by decide +kernel
theorem dJ2_getChar_3b067_52 : decode cJ2_getChar_3b067 52 = .ok (.iand, 1) := by decide +kernel
theorem dJ2_getChar_3b067_53 : decode cJ2_getChar_3b067 53 = .ok (.getstatic 63, 3) := by decide +kernel
theorem dJ2_getChar_3b067_56 : decode cJ2_getChar_3b067 56 = .ok (.ishl, 1) := by decide +kernel
theorem dJ2_getChar_3b067_57 : decode cJ2_getChar_3b067 57 = .ok (.ior, 1) := by decide +kernel
theorem dJ2_getChar_3b067_58 : decode cJ2_getChar_3b067 58 = .ok (.i2c, 1) := by decide +kernel
theorem dJ2_getChar_3b067_59 : decode cJ2_getChar_3b067 59 = .ok (.ireturn, 1) := by decide +kernel
theorem dJ2_length_9d52b_0 : decode cJ2_length_9d52b 0 = .ok (.aload_n 0, 1) := by decide +kernel
theorem dJ2_length_9d52b_1 : decode cJ2_length_9d52b 1 = .ok (.arraylength, 1) := by decide +kernel
theorem dJ2_length_9d52b_2 : decode cJ2_length_9d52b 2 = .ok (.iconst 1, 1) := by decide +kernel
theorem dJ2_length_9d52b_3 : decode cJ2_length_9d52b 3 = .ok (.ishr, 1) := by decide +kernel
theorem dJ2_length_9d52b_4 : decode cJ2_length_9d52b 4 = .ok (.ireturn, 1) := by decide +kernel
theorem dJ2_charAt_3b067_0 : decode cJ2_charAt_3b067 0 = .ok (.iload_n 1, 1) := by decide +kernel
theorem dJ2_charAt_3b067_1 : decode cJ2_charAt_3b067 1 = .ok (.aload_n 0, 1) := by decide +kernel
theorem dJ2_charAt_3b067_2 : decode cJ2_charAt_3b067 2 = .ok (.invokestatic 67, 3) := by decide +kernel
theorem dJ2_charAt_3b067_5 : decode cJ2_charAt_3b067 5 = .ok (.aload_n 0, 1) := by decide +kernel
theorem dJ2_charAt_3b067_6 : decode cJ2_charAt_3b067 6 = .ok (.iload_n 1, 1) := by decide +kernel
theorem dJ2_charAt_3b067_7 : decode cJ2_charAt_3b067 7 = .ok (.invokestatic 71, 3) := by decide +kernel
theorem dJ2_charAt_3b067_10 : decode cJ2_charAt_3b067 10 = .ok (.ireturn, 1) := by decide +kernel
theorem dJ2_checkIndex_2214a_0 : decode cJ2_checkIndex_2214a 0 = .ok (.iload_n 0, 1) := by decide +kernel
theorem dJ2_checkIndex_2214a_1 : decode cJ2_checkIndex_2214a 1 = .ok (.aload_n 1, 1) := by decide +kernel
theorem dJ2_checkIndex_2214a_2 : decode cJ2_checkIndex_2214a 2 = .ok (.invokestatic 48, 3) := by decide +kernel
theorem dJ2_checkIndex_2214a_5 : decode cJ2_checkIndex_2214a 5 = .ok (.invokestatic 414, 3) := by decide +kernel
theorem dJ2_checkIndex_2214a_8 : decode cJ2_checkIndex_2214a 8 = .ok (.return_, 1) := by decide +kernel
theorem dJ3_checkIndex_8e157_0 : decode cJ3_checkIndex_8e157 0 = .ok (.iload_n 0, 1) := by decide +kernel
theorem dJ3_checkIndex_8e157_1 : decode cJ3_checkIndex_8e157 1 = .ok (.ifCond .lt 8, 3) := by decide +kernel
theorem dJ3_checkIndex_8e157_4 : decode cJ3_checkIndex_8e157 4 = .ok (.iload_n 0, 1) := by decide +kernel
theorem dJ3_checkIndex_8e157_5 : decode cJ3_checkIndex_8e157 5 = .ok (.iload_n 1, 1) := by decide +kernel
theorem dJ3_checkIndex_8e157_6 : decode cJ3_checkIndex_8e157 6 = .ok (.if_icmp .lt 10, 3) := by decide +kernel
theorem dJ3_checkIndex_8e157_9 : decode cJ3_checkIndex_8e157 9 = .ok (.aload_n 2, 1) := by decide +kernel
theorem dJ3_checkIndex_8e157_10 : decode cJ3_checkIndex_8e157 10 = .ok (.iload_n 0, 1) := by decide +kernel
theorem dJ3_checkIndex_8e157_11 : decode cJ3_checkIndex_8e157 11 = .ok (.iload_n 1, 1) := by decide +kernel
theorem dJ3_checkIndex_8e157_12 : decode cJ3_checkIndex_8e157 12 = .ok (.invokestatic 95, 3) := by decide +kernel
theorem dJ3_checkIndex_8e157_15 : decode cJ3_checkIndex_8e157 15 = .ok (.athrow, 1) := by decide +kernel
theorem dJ3_checkIndex_8e157_16 : decode cJ3_checkIndex_8e157 16 = .ok (.iload_n 0, 1) := by decide +kernel
theorem dJ3_checkIndex_8e157_17 : decode cJ3_checkIndex_8e157 17 = .ok (.ireturn, 1) := by decide +kernel
theorem dL_cell_0 : decode cL_cell 0 = .ok (.iload_n 1, 1) := by decide +kernel
theorem dL_cell_1 : decode cL_cell 1 = .ok (.aload_n 0, 1) := by decide +kernel
theorem dL_cell_2 : decode cL_cell 2 = .ok (.arraylength, 1) := by decide +kernel
theorem dL_cell_3 : decode cL_cell 3 = .ok (.if_icmp .ge 9, 3) := by decide +kernel
theorem dL_cell_6 : decode cL_cell 6 = .ok (.aload_n 0, 1) := by decide +kernel
theorem dL_cell_7 : decode cL_cell 7 = .ok (.iload_n 1, 1) := by decide +kernel
theorem dL_cell_8 : decode cL_cell 8 = .ok (.iaload, 1) := by decide +kernel
theorem dL_cell_9 : decode cL_cell 9 = .ok (.goto 9, 3) := by decide +kernel
theorem dL_cell_12 : decode cL_cell 12 = .ok (.ldc 7, 2) := by decide +kernel
theorem dL_cell_14 : decode cL_cell 14 = .ok (.iload_n 1, 1) := by decide +kernel
theorem dL_cell_15 : decode cL_cell 15 = .ok (.iconst 1, 1) := by decide +kernel
theorem dL_cell_16 : decode cL_cell 16 = .ok (.iadd, 1) := by decide +kernel
theorem dL_cell_17 : decode cL_cell 17 = .ok (.imul, 1) := by decide +kernel
theorem dL_cell_18 : decode cL_cell 18 = .ok (.ireturn, 1) := by decide +kernel
theorem dL_low_0 : decode cL_low 0 = .ok (.iload_n 0, 1) := by decide +kernel
theorem dL_low_1 : decode cL_low 1 = .ok (.ldc 8, 2) := by decide +kernel
theorem dL_low_3 : decode cL_low 3 = .ok (.iand, 1) := by decide +kernel
theorem dL_low_4 : decode cL_low 4 = .ok (.iload_n 1, 1) := by decide +kernel
theorem dL_low_5 : decode cL_low 5 = .ok (.irem, 1) := by decide +kernel
theorem dL_low_6 : decode cL_low 6 = .ok (.ireturn, 1) := by decide +kernel
theorem dL_begins_0 : decode cL_begins 0 = .ok (.iconst 0, 1) := by decide +kernel
theorem dL_begins_1 : decode cL_begins 1 = .ok (.istore_n 1, 1) := by decide +kernel
theorem dL_begins_2 : decode cL_begins 2 = .ok (.iload_n 1, 1) := by decide +kernel
theorem dL_begins_3 : decode cL_begins 3 = .ok (.bipush 7, 2) := by decide +kernel
theorem dL_begins_5 : decode cL_begins 5 = .ok (.if_icmp .ge 32, 3) := by decide +kernel
theorem dL_begins_8 : decode cL_begins 8 = .ok (.aload_n 0, 1) := by decide +kernel
theorem dL_begins_9 : decode cL_begins 9 = .ok (.iload_n 1, 1) := by decide +kernel
theorem dL_begins_10 : decode cL_begins 10 = .ok (.iload_n 1, 1) := by decide +kernel
theorem dL_begins_11 : decode cL_begins 11 = .ok (.ifCond .ne 9, 3) := by decide +kernel
theorem dL_begins_14 : decode cL_begins 14 = .ok (.sipush 300, 3) := by decide +kernel
theorem dL_begins_17 : decode cL_begins 17 = .ok (.goto 13, 3) := by decide +kernel
theorem dL_begins_20 : decode cL_begins 20 = .ok (.iload_n 1, 1) := by decide +kernel
theorem dL_begins_21 : decode cL_begins 21 = .ok (.iconst 3, 1) := by decide +kernel
theorem dL_begins_22 : decode cL_begins 22 = .ok (.if_icmp .ne 7, 3) := by decide +kernel
theorem dL_begins_25 : decode cL_begins 25 = .ok (.iconst 1, 1) := by decide +kernel
theorem dL_begins_26 : decode cL_begins 26 = .ok (.goto 4, 3) := by decide +kernel
theorem dL_begins_29 : decode cL_begins 29 = .ok (.iconst 0, 1) := by decide +kernel
theorem dL_begins_30 : decode cL_begins 30 = .ok (.iastore, 1) := by decide +kernel
theorem dL_begins_31 : decode cL_begins 31 = .ok (.iinc 1 1, 3) := by decide +kernel
theorem dL_begins_34 : decode cL_begins 34 = .ok (.goto (-32), 3) := by decide +kernel
theorem dL_begins_37 : decode cL_begins 37 = .ok (.return_, 1) := by decide +kernel
theorem dL_least_0 : decode cL_least 0 = .ok (.iload_n 0, 1) := by decide +kernel
theorem dL_least_1 : decode cL_least 1 = .ok (.bipush 6, 2) := by decide +kernel
theorem dL_least_3 : decode cL_least 3 = .ok (.if_icmp .ne 8, 3) := by decide +kernel
theorem dL_least_6 : decode cL_least 6 = .ok (.bipush (-9), 2) := by decide +kernel
theorem dL_least_8 : decode cL_least 8 = .ok (.goto 14, 3) := by decide +kernel
theorem dL_least_11 : decode cL_least 11 = .ok (.iload_n 0, 1) := by decide +kernel
theorem dL_least_12 : decode cL_least 12 = .ok (.bipush 7, 2) := by decide +kernel
theorem dL_least_14 : decode cL_least 14 = .ok (.if_icmp .ne 7, 3) := by decide +kernel
theorem dL_least_17 : decode cL_least 17 = .ok (.iconst 1, 1) := by decide +kernel
theorem dL_least_18 : decode cL_least 18 = .ok (.goto 4, 3) := by decide +kernel
theorem dL_least_21 : decode cL_least 21 = .ok (.iconst 0, 1) := by decide +kernel
theorem dL_least_22 : decode cL_least 22 = .ok (.ireturn, 1) := by decide +kernel
theorem dL_most_0 : decode cL_most 0 = .ok (.iload_n 0, 1) := by decide +kernel
theorem dL_most_1 : decode cL_most 1 = .ok (.ifCond .eq 13, 3) := by decide +kernel
theorem dL_most_4 : decode cL_most 4 = .ok (.iload_n 0, 1) := by decide +kernel
theorem dL_most_5 : decode cL_most 5 = .ok (.iconst 3, 1) := by decide +kernel
theorem dL_most_6 : decode cL_most 6 = .ok (.if_icmp .eq 8, 3) := by decide +kernel
theorem dL_most_9 : decode cL_most 9 = .ok (.iload_n 0, 1) := by decide +kernel
theorem dL_most_10 : decode cL_most 10 = .ok (.iconst 4, 1) := by decide +kernel
theorem dL_most_11 : decode cL_most 11 = .ok (.if_icmp .ne 9, 3) := by decide +kernel
theorem dL_most_14 : decode cL_most 14 = .ok (.sipush 400, 3) := by decide +kernel
theorem dL_most_17 : decode cL_most 17 = .ok (.goto 47, 3) := by decide +kernel
theorem dL_most_20 : decode cL_most 20 = .ok (.iload_n 0, 1) := by decide +kernel
theorem dL_most_21 : decode cL_most 21 = .ok (.iconst 5, 1) := by decide +kernel
theorem dL_most_22 : decode cL_most 22 = .ok (.if_icmp .ne 8, 3) := by decide +kernel
theorem dL_most_25 : decode cL_most 25 = .ok (.bipush 20, 2) := by decide +kernel
theorem dL_most_27 : decode cL_most 27 = .ok (.goto 37, 3) := by decide +kernel
theorem dL_most_30 : decode cL_most 30 = .ok (.iload_n 0, 1) := by decide +kernel
theorem dL_most_31 : decode cL_most 31 = .ok (.bipush 7, 2) := by decide +kernel
theorem dL_most_33 : decode cL_most 33 = .ok (.if_icmp .ne 8, 3) := by decide +kernel
theorem dL_most_36 : decode cL_most 36 = .ok (.bipush 100, 2) := by decide +kernel
theorem dL_most_38 : decode cL_most 38 = .ok (.goto 26, 3) := by decide +kernel
theorem dL_most_41 : decode cL_most 41 = .ok (.iload_n 0, 1) := by decide +kernel
theorem dL_most_42 : decode cL_most 42 = .ok (.bipush 8, 2) := by decide +kernel
theorem dL_most_44 : decode cL_most 44 = .ok (.if_icmp .ne 8, 3) := by decide +kernel
theorem dL_most_47 : decode cL_most 47 = .ok (.bipush 50, 2) := by decide +kernel
theorem dL_most_49 : decode cL_most 49 = .ok (.goto 15, 3) := by decide +kernel
theorem dL_most_52 : decode cL_most 52 = .ok (.iload_n 0, 1) := by decide +kernel
theorem dL_most_53 : decode cL_most 53 = .ok (.bipush 9, 2) := by decide +kernel
theorem dL_most_55 : decode cL_most 55 = .ok (.if_icmp .ne 7, 3) := by decide +kernel
theorem dL_most_58 : decode cL_most 58 = .ok (.iconst 4, 1) := by decide +kernel
theorem dL_most_59 : decode cL_most 59 = .ok (.goto 5, 3) := by decide +kernel
theorem dL_most_62 : decode cL_most 62 = .ok (.bipush 9, 2) := by decide +kernel
theorem dL_most_64 : decode cL_most 64 = .ok (.ireturn, 1) := by decide +kernel
theorem dL_typesNumber_0 : decode cL_typesNumber 0 = .ok (.iload_n 1, 1) := by decide +kernel
theorem dL_typesNumber_1 : decode cL_typesNumber 1 = .ok (.ifCond .ge 8, 3) := by decide +kernel
theorem dL_typesNumber_4 : decode cL_typesNumber 4 = .ok (.iload_n 1, 1) := by decide +kernel
theorem dL_typesNumber_5 : decode cL_typesNumber 5 = .ok (.ineg, 1) := by decide +kernel
theorem dL_typesNumber_6 : decode cL_typesNumber 6 = .ok (.goto 4, 3) := by decide +kernel
theorem dL_typesNumber_9 : decode cL_typesNumber 9 = .ok (.iload_n 1, 1) := by decide +kernel
theorem dL_typesNumber_10 : decode cL_typesNumber 10 = .ok (.istore_n 2, 1) := by decide +kernel
theorem dL_typesNumber_11 : decode cL_typesNumber 11 = .ok (.iload_n 1, 1) := by decide +kernel
theorem dL_typesNumber_12 : decode cL_typesNumber 12 = .ok (.ifCond .ge 12, 3) := by decide +kernel
theorem dL_typesNumber_15 : decode cL_typesNumber 15 = .ok (.aload_n 0, 1) := by decide +kernel
theorem dL_typesNumber_16 : decode cL_typesNumber 16 = .ok (.bipush 45, 2) := by decide +kernel
theorem dL_typesNumber_18 : decode cL_typesNumber 18 = .ok (.invokevirtual 9, 3) := by decide +kernel
theorem dL_typesNumber_21 : decode cL_typesNumber 21 = .ok (.ifCond .le 50, 3) := by decide +kernel
theorem dL_typesNumber_24 : decode cL_typesNumber 24 = .ok (.iload_n 2, 1) := by decide +kernel
theorem dL_typesNumber_25 : decode cL_typesNumber 25 = .ok (.bipush 100, 2) := by decide +kernel
theorem dL_typesNumber_27 : decode cL_typesNumber 27 = .ok (.if_icmp .lt 17, 3) := by decide +kernel
theorem dL_typesNumber_30 : decode cL_typesNumber 30 = .ok (.aload_n 0, 1) := by decide +kernel
theorem dL_typesNumber_31 : decode cL_typesNumber 31 = .ok (.bipush 48, 2) := by decide +kernel
theorem dL_typesNumber_33 : decode cL_typesNumber 33 = .ok (.iload_n 2, 1) := by decide +kernel
theorem dL_typesNumber_34 : decode cL_typesNumber 34 = .ok (.bipush 100, 2) := by decide +kernel
theorem dL_typesNumber_36 : decode cL_typesNumber 36 = .ok (.idiv, 1) := by decide +kernel
theorem dL_typesNumber_37 : decode cL_typesNumber 37 = .ok (.iadd, 1) := by decide +kernel
theorem dL_typesNumber_38 : decode cL_typesNumber 38 = .ok (.invokevirtual 9, 3) := by decide +kernel
theorem dL_typesNumber_41 : decode cL_typesNumber 41 = .ok (.ifCond .le 30, 3) := by decide +kernel
theorem dL_typesNumber_44 : decode cL_typesNumber 44 = .ok (.iload_n 2, 1) := by decide +kernel
theorem dL_typesNumber_45 : decode cL_typesNumber 45 = .ok (.bipush 10, 2) := by decide +kernel
theorem dL_typesNumber_47 : decode cL_typesNumber 47 = .ok (.if_icmp .lt 20, 3) := by decide +kernel
theorem dL_typesNumber_50 : decode cL_typesNumber 50 = .ok (.aload_n 0, 1) := by decide +kernel
theorem dL_typesNumber_51 : decode cL_typesNumber 51 = .ok (.bipush 48, 2) := by decide +kernel
theorem dL_typesNumber_53 : decode cL_typesNumber 53 = .ok (.iload_n 2, 1) := by decide +kernel
theorem dL_typesNumber_54 : decode cL_typesNumber 54 = .ok (.bipush 10, 2) := by decide +kernel
theorem dL_typesNumber_56 : decode cL_typesNumber 56 = .ok (.idiv, 1) := by decide +kernel
theorem dL_typesNumber_57 : decode cL_typesNumber 57 = .ok (.bipush 10, 2) := by decide +kernel
theorem dL_typesNumber_59 : decode cL_typesNumber 59 = .ok (.irem, 1) := by decide +kernel
theorem dL_typesNumber_60 : decode cL_typesNumber 60 = .ok (.iadd, 1) := by decide +kernel
theorem dL_typesNumber_61 : decode cL_typesNumber 61 = .ok (.invokevirtual 9, 3) := by decide +kernel
theorem dL_typesNumber_64 : decode cL_typesNumber 64 = .ok (.ifCond .le 7, 3) := by decide +kernel
theorem dL_typesNumber_67 : decode cL_typesNumber 67 = .ok (.iconst 1, 1) := by decide +kernel
theorem dL_typesNumber_68 : decode cL_typesNumber 68 = .ok (.goto 4, 3) := by decide +kernel
theorem dL_typesNumber_71 : decode cL_typesNumber 71 = .ok (.iconst 0, 1) := by decide +kernel
theorem dL_typesNumber_72 : decode cL_typesNumber 72 = .ok (.istore_n 3, 1) := by decide +kernel
theorem dL_typesNumber_73 : decode cL_typesNumber 73 = .ok (.iload_n 3, 1) := by decide +kernel
theorem dL_typesNumber_74 : decode cL_typesNumber 74 = .ok (.ifCond .eq 21, 3) := by decide +kernel
theorem dL_typesNumber_77 : decode cL_typesNumber 77 = .ok (.aload_n 0, 1) := by decide +kernel
theorem dL_typesNumber_78 : decode cL_typesNumber 78 = .ok (.bipush 48, 2) := by decide +kernel
theorem dL_typesNumber_80 : decode cL_typesNumber 80 = .ok (.iload_n 2, 1) := by decide +kernel
theorem dL_typesNumber_81 : decode cL_typesNumber 81 = .ok (.bipush 10, 2) := by decide +kernel
theorem dL_typesNumber_83 : decode cL_typesNumber 83 = .ok (.irem, 1) := by decide +kernel
theorem dL_typesNumber_84 : decode cL_typesNumber 84 = .ok (.iadd, 1) := by decide +kernel
theorem dL_typesNumber_85 : decode cL_typesNumber 85 = .ok (.invokevirtual 9, 3) := by decide +kernel
theorem dL_typesNumber_88 : decode cL_typesNumber 88 = .ok (.ifCond .le 7, 3) := by decide +kernel
theorem dL_typesNumber_91 : decode cL_typesNumber 91 = .ok (.iconst 1, 1) := by decide +kernel
theorem dL_typesNumber_92 : decode cL_typesNumber 92 = .ok (.goto 4, 3) := by decide +kernel
theorem dL_typesNumber_95 : decode cL_typesNumber 95 = .ok (.iconst 0, 1) := by decide +kernel
theorem dL_typesNumber_96 : decode cL_typesNumber 96 = .ok (.ireturn, 1) := by decide +kernel
theorem dL_spells_0 : decode cL_spells 0 = .ok (.iconst 1, 1) := by decide +kernel
theorem dL_spells_1 : decode cL_spells 1 = .ok (.istore_n 3, 1) := by decide +kernel
theorem dL_spells_2 : decode cL_spells 2 = .ok (.bipush 56, 2) := by decide +kernel
theorem dL_spells_4 : decode cL_spells 4 = .ok (.istore 4, 2) := by decide +kernel
theorem dL_spells_6 : decode cL_spells 6 = .ok (.iload 4, 2) := by decide +kernel
theorem dL_spells_8 : decode cL_spells 8 = .ok (.ifCond .lt 44, 3) := by decide +kernel
theorem dL_spells_11 : decode cL_spells 11 = .ok (.lload_n 1, 1) := by decide +kernel
theorem dL_spells_12 : decode cL_spells 12 = .ok (.iload 4, 2) := by decide +kernel
theorem dL_spells_14 : decode cL_spells 14 = .ok (.lshr, 1) := by decide +kernel
theorem dL_spells_15 : decode cL_spells 15 = .ok (.ldc2_w 15, 3) := by decide +kernel
theorem dL_spells_18 : decode cL_spells 18 = .ok (.land, 1) := by decide +kernel
theorem dL_spells_19 : decode cL_spells 19 = .ok (.l2i, 1) := by decide +kernel
theorem dL_spells_20 : decode cL_spells 20 = .ok (.istore 5, 2) := by decide +kernel
theorem dL_spells_22 : decode cL_spells 22 = .ok (.iload_n 3, 1) := by decide +kernel
theorem dL_spells_23 : decode cL_spells 23 = .ok (.ifCond .eq 21, 3) := by decide +kernel
theorem dL_spells_26 : decode cL_spells 26 = .ok (.iload 5, 2) := by decide +kernel
theorem dL_spells_28 : decode cL_spells 28 = .ok (.ifCond .eq 12, 3) := by decide +kernel
theorem dL_spells_31 : decode cL_spells 31 = .ok (.aload_n 0, 1) := by decide +kernel
theorem dL_spells_32 : decode cL_spells 32 = .ok (.iload 5, 2) := by decide +kernel
theorem dL_spells_34 : decode cL_spells 34 = .ok (.invokevirtual 9, 3) := by decide +kernel
theorem dL_spells_37 : decode cL_spells 37 = .ok (.ifCond .le 7, 3) := by decide +kernel
theorem dL_spells_40 : decode cL_spells 40 = .ok (.iconst 1, 1) := by decide +kernel
theorem dL_spells_41 : decode cL_spells 41 = .ok (.goto 4, 3) := by decide +kernel
theorem dL_spells_44 : decode cL_spells 44 = .ok (.iconst 0, 1) := by decide +kernel
theorem dL_spells_45 : decode cL_spells 45 = .ok (.istore_n 3, 1) := by decide +kernel
theorem dL_spells_46 : decode cL_spells 46 = .ok (.iinc 4 (-8), 3) := by decide +kernel
theorem dL_spells_49 : decode cL_spells 49 = .ok (.goto (-43), 3) := by decide +kernel
theorem dL_spells_52 : decode cL_spells 52 = .ok (.iload_n 3, 1) := by decide +kernel
theorem dL_spells_53 : decode cL_spells 53 = .ok (.ireturn, 1) := by decide +kernel
theorem dL_word_0 : decode cL_word 0 = .ok (.iload_n 0, 1) := by decide +kernel
theorem dL_word_1 : decode cL_word 1 = .ok (.tableswitch 79 1 8 #[47, 51, 55, 59, 63, 67, 71, 75], 47) := by decide +kernel
theorem dL_word_48 : decode cL_word 48 = .ok (.ldc2_w 17, 3) := by decide +kernel
theorem dL_word_51 : decode cL_word 51 = .ok (.lreturn, 1) := by decide +kernel
theorem dL_word_52 : decode cL_word 52 = .ok (.ldc2_w 19, 3) := by decide +kernel
theorem dL_word_55 : decode cL_word 55 = .ok (.lreturn, 1) := by decide +kernel
theorem dL_word_56 : decode cL_word 56 = .ok (.ldc2_w 21, 3) := by decide +kernel
theorem dL_word_59 : decode cL_word 59 = .ok (.lreturn, 1) := by decide +kernel
theorem dL_word_60 : decode cL_word 60 = .ok (.ldc2_w 23, 3) := by decide +kernel
theorem dL_word_63 : decode cL_word 63 = .ok (.lreturn, 1) := by decide +kernel
theorem dL_word_64 : decode cL_word 64 = .ok (.ldc2_w 25, 3) := by decide +kernel
theorem dL_word_67 : decode cL_word 67 = .ok (.lreturn, 1) := by decide +kernel
theorem dL_word_68 : decode cL_word 68 = .ok (.ldc2_w 27, 3) := by decide +kernel
theorem dL_word_71 : decode cL_word 71 = .ok (.lreturn, 1) := by decide +kernel
theorem dL_word_72 : decode cL_word 72 = .ok (.ldc2_w 29, 3) := by decide +kernel
theorem dL_word_75 : decode cL_word 75 = .ok (.lreturn, 1) := by decide +kernel
theorem dL_word_76 : decode cL_word 76 = .ok (.ldc2_w 31, 3) := by decide +kernel
theorem dL_word_79 : decode cL_word 79 = .ok (.lreturn, 1) := by decide +kernel
theorem dL_word_80 : decode cL_word 80 = .ok (.ldc2_w 33, 3) := by decide +kernel
theorem dL_word_83 : decode cL_word 83 = .ok (.lreturn, 1) := by decide +kernel
theorem dL_value_0 : decode cL_value 0 = .ok (.iload_n 0, 1) := by decide +kernel
theorem dL_value_1 : decode cL_value 1 = .ok (.tableswitch 122 0 6 #[43, 122, 122, 67, 88, 122, 112], 43) := by decide +kernel
theorem dL_value_44 : decode cL_value 44 = .ok (.iload_n 1, 1) := by decide +kernel
theorem dL_value_45 : decode cL_value 45 = .ok (.iload_n 1, 1) := by decide +kernel
theorem dL_value_46 : decode cL_value 46 = .ok (.bipush 9, 2) := by decide +kernel
theorem dL_value_48 : decode cL_value 48 = .ok (.ishr, 1) := by decide +kernel
theorem dL_value_49 : decode cL_value 49 = .ok (.iconst 4, 1) := by decide +kernel
theorem dL_value_50 : decode cL_value 50 = .ok (.invokestatic 35, 3) := by decide +kernel
theorem dL_value_53 : decode cL_value 53 = .ok (.ifCond .ne 9, 3) := by decide +kernel
theorem dL_value_56 : decode cL_value 56 = .ok (.sipush 401, 3) := by decide +kernel
theorem dL_value_59 : decode cL_value 59 = .ok (.goto 5, 3) := by decide +kernel
theorem dL_value_62 : decode cL_value 62 = .ok (.bipush 120, 2) := by decide +kernel
theorem dL_value_64 : decode cL_value 64 = .ok (.invokestatic 35, 3) := by decide +kernel
theorem dL_value_67 : decode cL_value 67 = .ok (.ireturn, 1) := by decide +kernel
theorem dL_value_68 : decode cL_value 68 = .ok (.iload_n 1, 1) := by decide +kernel
theorem dL_value_69 : decode cL_value 69 = .ok (.iconst 3, 1) := by decide +kernel
theorem dL_value_70 : decode cL_value 70 = .ok (.ishr, 1) := by decide +kernel
theorem dL_value_71 : decode cL_value 71 = .ok (.iconst 3, 1) := by decide +kernel
theorem dL_value_72 : decode cL_value 72 = .ok (.invokestatic 35, 3) := by decide +kernel
theorem dL_value_75 : decode cL_value 75 = .ok (.ifCond .ne 12, 3) := by decide +kernel
theorem dL_value_78 : decode cL_value 78 = .ok (.iload_n 1, 1) := by decide +kernel
theorem dL_value_79 : decode cL_value 79 = .ok (.bipush 90, 2) := by decide +kernel
theorem dL_value_81 : decode cL_value 81 = .ok (.invokestatic 35, 3) := by decide +kernel
theorem dL_value_84 : decode cL_value 84 = .ok (.goto 4, 3) := by decide +kernel
theorem dL_value_87 : decode cL_value 87 = .ok (.iconst 0, 1) := by decide +kernel
theorem dL_value_88 : decode cL_value 88 = .ok (.ireturn, 1) := by decide +kernel
theorem dL_value_89 : decode cL_value 89 = .ok (.iload_n 1, 1) := by decide +kernel
theorem dL_value_90 : decode cL_value 90 = .ok (.iconst 4, 1) := by decide +kernel
theorem dL_value_91 : decode cL_value 91 = .ok (.ishr, 1) := by decide +kernel
theorem dL_value_92 : decode cL_value 92 = .ok (.iconst 2, 1) := by decide +kernel
theorem dL_value_93 : decode cL_value 93 = .ok (.invokestatic 35, 3) := by decide +kernel
theorem dL_value_96 : decode cL_value 96 = .ok (.ifCond .ne 13, 3) := by decide +kernel
theorem dL_value_99 : decode cL_value 99 = .ok (.iload_n 1, 1) := by decide +kernel
theorem dL_value_100 : decode cL_value 100 = .ok (.sipush 200, 3) := by decide +kernel
theorem dL_value_103 : decode cL_value 103 = .ok (.invokestatic 35, 3) := by decide +kernel
theorem dL_value_106 : decode cL_value 106 = .ok (.goto 6, 3) := by decide +kernel
theorem dL_value_109 : decode cL_value 109 = .ok (.sipush 400, 3) := by decide +kernel
theorem dL_value_112 : decode cL_value 112 = .ok (.ireturn, 1) := by decide +kernel
theorem dL_value_113 : decode cL_value 113 = .ok (.iload_n 1, 1) := by decide +kernel
theorem dL_value_114 : decode cL_value 114 = .ok (.bipush 19, 2) := by decide +kernel
theorem dL_value_116 : decode cL_value 116 = .ok (.invokestatic 35, 3) := by decide +kernel
theorem dL_value_119 : decode cL_value 119 = .ok (.bipush 9, 2) := by decide +kernel
theorem dL_value_121 : decode cL_value 121 = .ok (.isub, 1) := by decide +kernel
theorem dL_value_122 : decode cL_value 122 = .ok (.ireturn, 1) := by decide +kernel
theorem dL_value_123 : decode cL_value 123 = .ok (.iload_n 0, 1) := by decide +kernel
theorem dL_value_124 : decode cL_value 124 = .ok (.invokestatic 41, 3) := by decide +kernel
theorem dL_value_127 : decode cL_value 127 = .ok (.iload_n 1, 1) := by decide +kernel
theorem dL_value_128 : decode cL_value 128 = .ok (.iload_n 0, 1) := by decide +kernel
theorem dL_value_129 : decode cL_value 129 = .ok (.invokestatic 44, 3) := by decide +kernel
theorem dL_value_132 : decode cL_value 132 = .ok (.iload_n 0, 1) := by decide +kernel
theorem dL_value_133 : decode cL_value 133 = .ok (.invokestatic 41, 3) := by decide +kernel
theorem dL_value_136 : decode cL_value 136 = .ok (.isub, 1) := by decide +kernel
theorem dL_value_137 : decode cL_value 137 = .ok (.iconst 1, 1) := by decide +kernel
theorem dL_value_138 : decode cL_value 138 = .ok (.iadd, 1) := by decide +kernel
theorem dL_value_139 : decode cL_value 139 = .ok (.invokestatic 35, 3) := by decide +kernel
theorem dL_value_142 : decode cL_value 142 = .ok (.iadd, 1) := by decide +kernel
theorem dL_value_143 : decode cL_value 143 = .ok (.ireturn, 1) := by decide +kernel
theorem dL_inserts_0 : decode cL_inserts 0 = .ok (.aload_n 1, 1) := by decide +kernel
theorem dL_inserts_1 : decode cL_inserts 1 = .ok (.bipush 60, 2) := by decide +kernel
theorem dL_inserts_3 : decode cL_inserts 3 = .ok (.iaload, 1) := by decide +kernel
theorem dL_inserts_4 : decode cL_inserts 4 = .ok (.iconst 5, 1) := by decide +kernel
theorem dL_inserts_5 : decode cL_inserts 5 = .ok (.if_icmp .ne 21, 3) := by decide +kernel
theorem dL_inserts_8 : decode cL_inserts 8 = .ok (.aload_n 0, 1) := by decide +kernel
theorem dL_inserts_9 : decode cL_inserts 9 = .ok (.bipush 6, 2) := by decide +kernel
theorem dL_inserts_11 : decode cL_inserts 11 = .ok (.invokevirtual 47, 3) := by decide +kernel
theorem dL_inserts_14 : decode cL_inserts 14 = .ok (.sipush (-1002), 3) := by decide +kernel
theorem dL_inserts_17 : decode cL_inserts 17 = .ok (.if_icmp .ne 7, 3) := by decide +kernel
theorem dL_inserts_20 : decode cL_inserts 20 = .ok (.iconst 1, 1) := by decide +kernel
theorem dL_inserts_21 : decode cL_inserts 21 = .ok (.goto 4, 3) := by decide +kernel
theorem dL_inserts_24 : decode cL_inserts 24 = .ok (.iconst 0, 1) := by decide +kernel
theorem dL_inserts_25 : decode cL_inserts 25 = .ok (.ireturn, 1) := by decide +kernel
theorem dL_inserts_26 : decode cL_inserts 26 = .ok (.bipush 12, 2) := by decide +kernel
theorem dL_inserts_28 : decode cL_inserts 28 = .ok (.aload_n 1, 1) := by decide +kernel
theorem dL_inserts_29 : decode cL_inserts 29 = .ok (.bipush 60, 2) := by decide +kernel
theorem dL_inserts_31 : decode cL_inserts 31 = .ok (.iaload, 1) := by decide +kernel
theorem dL_inserts_32 : decode cL_inserts 32 = .ok (.imul, 1) := by decide +kernel
theorem dL_inserts_33 : decode cL_inserts 33 = .ok (.iconst 1, 1) := by decide +kernel
theorem dL_inserts_34 : decode cL_inserts 34 = .ok (.isub, 1) := by decide +kernel
theorem dL_inserts_35 : decode cL_inserts 35 = .ok (.istore 5, 2) := by decide +kernel
theorem dL_inserts_37 : decode cL_inserts 37 = .ok (.iload 5, 2) := by decide +kernel
theorem dL_inserts_39 : decode cL_inserts 39 = .ok (.bipush 12, 2) := by decide +kernel
theorem dL_inserts_41 : decode cL_inserts 41 = .ok (.iload_n 2, 1) := by decide +kernel
theorem dL_inserts_42 : decode cL_inserts 42 = .ok (.imul, 1) := by decide +kernel
theorem dL_inserts_43 : decode cL_inserts 43 = .ok (.if_icmp .lt 20, 3) := by decide +kernel
theorem dL_inserts_46 : decode cL_inserts 46 = .ok (.aload_n 1, 1) := by decide +kernel
theorem dL_inserts_47 : decode cL_inserts 47 = .ok (.iload 5, 2) := by decide +kernel
theorem dL_inserts_49 : decode cL_inserts 49 = .ok (.bipush 12, 2) := by decide +kernel
theorem dL_inserts_51 : decode cL_inserts 51 = .ok (.iadd, 1) := by decide +kernel
theorem dL_inserts_52 : decode cL_inserts 52 = .ok (.aload_n 1, 1) := by decide +kernel
theorem dL_inserts_53 : decode cL_inserts 53 = .ok (.iload 5, 2) := by decide +kernel
theorem dL_inserts_55 : decode cL_inserts 55 = .ok (.iaload, 1) := by decide +kernel
theorem dL_inserts_56 : decode cL_inserts 56 = .ok (.iastore, 1) := by decide +kernel
theorem dL_inserts_57 : decode cL_inserts 57 = .ok (.iinc 5 (-1), 3) := by decide +kernel
theorem dL_inserts_60 : decode cL_inserts 60 = .ok (.goto (-23), 3) := by decide +kernel
theorem dL_inserts_63 : decode cL_inserts 63 = .ok (.aload_n 1, 1) := by decide +kernel
theorem dL_inserts_64 : decode cL_inserts 64 = .ok (.bipush 60, 2) := by decide +kernel
theorem dL_inserts_66 : decode cL_inserts 66 = .ok (.dup2, 1) := by decide +kernel
theorem dL_inserts_67 : decode cL_inserts 67 = .ok (.iaload, 1) := by decide +kernel
theorem dL_inserts_68 : decode cL_inserts 68 = .ok (.iconst 1, 1) := by decide +kernel
theorem dL_inserts_69 : decode cL_inserts 69 = .ok (.iadd, 1) := by decide +kernel
theorem dL_inserts_70 : decode cL_inserts 70 = .ok (.iastore, 1) := by decide +kernel
theorem dL_inserts_71 : decode cL_inserts 71 = .ok (.iconst 0, 1) := by decide +kernel
theorem dL_inserts_72 : decode cL_inserts 72 = .ok (.istore 5, 2) := by decide +kernel
theorem dL_inserts_74 : decode cL_inserts 74 = .ok (.iload 5, 2) := by decide +kernel
theorem dL_inserts_76 : decode cL_inserts 76 = .ok (.bipush 12, 2) := by decide +kernel
theorem dL_inserts_78 : decode cL_inserts 78 = .ok (.if_icmp .ge 64, 3) := by decide +kernel
theorem dL_inserts_81 : decode cL_inserts 81 = .ok (.aload_n 1, 1) := by decide +kernel
theorem dL_inserts_82 : decode cL_inserts 82 = .ok (.bipush 12, 2) := by decide +kernel
theorem dL_inserts_84 : decode cL_inserts 84 = .ok (.iload_n 2, 1) := by decide +kernel
theorem dL_inserts_85 : decode cL_inserts 85 = .ok (.imul, 1) := by decide +kernel
theorem dL_inserts_86 : decode cL_inserts 86 = .ok (.iload 5, 2) := by decide +kernel
theorem dL_inserts_88 : decode cL_inserts 88 = .ok (.iadd, 1) := by decide +kernel
theorem dL_inserts_89 : decode cL_inserts 89 = .ok (.iload 5, 2) := by decide +kernel
theorem dL_inserts_91 : decode cL_inserts 91 = .ok (.iconst 2, 1) := by decide +kernel
theorem dL_inserts_92 : decode cL_inserts 92 = .ok (.if_icmp .ne 7, 3) := by decide +kernel
theorem dL_inserts_95 : decode cL_inserts 95 = .ok (.iconst 1, 1) := by decide +kernel
theorem dL_inserts_96 : decode cL_inserts 96 = .ok (.goto 39, 3) := by decide +kernel
theorem dL_inserts_99 : decode cL_inserts 99 = .ok (.iload 5, 2) := by decide +kernel
theorem dL_inserts_101 : decode cL_inserts 101 = .ok (.iconst 4, 1) := by decide +kernel
theorem dL_inserts_102 : decode cL_inserts 102 = .ok (.if_icmp .ne 9, 3) := by decide +kernel
theorem dL_inserts_105 : decode cL_inserts 105 = .ok (.sipush 400, 3) := by decide +kernel
theorem dL_inserts_108 : decode cL_inserts 108 = .ok (.goto 27, 3) := by decide +kernel
theorem dL_inserts_111 : decode cL_inserts 111 = .ok (.iload 5, 2) := by decide +kernel
theorem dL_inserts_113 : decode cL_inserts 113 = .ok (.bipush 7, 2) := by decide +kernel
theorem dL_inserts_115 : decode cL_inserts 115 = .ok (.if_icmp .ne 8, 3) := by decide +kernel
theorem dL_inserts_118 : decode cL_inserts 118 = .ok (.bipush 10, 2) := by decide +kernel
theorem dL_inserts_120 : decode cL_inserts 120 = .ok (.goto 15, 3) := by decide +kernel
theorem dL_inserts_123 : decode cL_inserts 123 = .ok (.iload 5, 2) := by decide +kernel
theorem dL_inserts_125 : decode cL_inserts 125 = .ok (.bipush 9, 2) := by decide +kernel
theorem dL_inserts_127 : decode cL_inserts 127 = .ok (.if_icmp .ne 7, 3) := by decide +kernel
theorem dL_inserts_130 : decode cL_inserts 130 = .ok (.iconst 4, 1) := by decide +kernel
theorem dL_inserts_131 : decode cL_inserts 131 = .ok (.goto 4, 3) := by decide +kernel
theorem dL_inserts_134 : decode cL_inserts 134 = .ok (.iconst 0, 1) := by decide +kernel
theorem dL_inserts_135 : decode cL_inserts 135 = .ok (.iastore, 1) := by decide +kernel
theorem dL_inserts_136 : decode cL_inserts 136 = .ok (.iinc 5 1, 3) := by decide +kernel
theorem dL_inserts_139 : decode cL_inserts 139 = .ok (.goto (-65), 3) := by decide +kernel
theorem dL_inserts_142 : decode cL_inserts 142 = .ok (.aload_n 1, 1) := by decide +kernel
theorem dL_inserts_143 : decode cL_inserts 143 = .ok (.bipush 12, 2) := by decide +kernel
theorem dL_inserts_145 : decode cL_inserts 145 = .ok (.iload_n 2, 1) := by decide +kernel
theorem dL_inserts_146 : decode cL_inserts 146 = .ok (.imul, 1) := by decide +kernel
theorem dL_inserts_147 : decode cL_inserts 147 = .ok (.iconst 0, 1) := by decide +kernel
theorem dL_inserts_148 : decode cL_inserts 148 = .ok (.iload_n 3, 1) := by decide +kernel
theorem dL_inserts_149 : decode cL_inserts 149 = .ok (.invokestatic 50, 3) := by decide +kernel
theorem dL_inserts_152 : decode cL_inserts 152 = .ok (.iastore, 1) := by decide +kernel
theorem dL_inserts_153 : decode cL_inserts 153 = .ok (.aload_n 0, 1) := by decide +kernel
theorem dL_inserts_154 : decode cL_inserts 154 = .ok (.invokevirtual 53, 3) := by decide +kernel
theorem dL_inserts_157 : decode cL_inserts 157 = .ok (.ifCond .lt 20, 3) := by decide +kernel
theorem dL_inserts_160 : decode cL_inserts 160 = .ok (.aload_n 0, 1) := by decide +kernel
theorem dL_inserts_161 : decode cL_inserts 161 = .ok (.aload_n 1, 1) := by decide +kernel
theorem dL_inserts_162 : decode cL_inserts 162 = .ok (.bipush 12, 2) := by decide +kernel
theorem dL_inserts_164 : decode cL_inserts 164 = .ok (.iload_n 2, 1) := by decide +kernel
theorem dL_inserts_165 : decode cL_inserts 165 = .ok (.imul, 1) := by decide +kernel
theorem dL_inserts_166 : decode cL_inserts 166 = .ok (.iaload, 1) := by decide +kernel
theorem dL_inserts_167 : decode cL_inserts 167 = .ok (.invokestatic 57, 3) := by decide +kernel
theorem dL_inserts_170 : decode cL_inserts 170 = .ok (.ifCond .eq 7, 3) := by decide +kernel
theorem dL_inserts_173 : decode cL_inserts 173 = .ok (.iconst 1, 1) := by decide +kernel
theorem dL_inserts_174 : decode cL_inserts 174 = .ok (.goto 4, 3) := by decide +kernel
theorem dL_inserts_177 : decode cL_inserts 177 = .ok (.iconst 0, 1) := by decide +kernel
theorem dL_inserts_178 : decode cL_inserts 178 = .ok (.istore 5, 2) := by decide +kernel
theorem dL_inserts_180 : decode cL_inserts 180 = .ok (.iconst 1, 1) := by decide +kernel
theorem dL_inserts_181 : decode cL_inserts 181 = .ok (.iload_n 3, 1) := by decide +kernel
theorem dL_inserts_182 : decode cL_inserts 182 = .ok (.bipush 13, 2) := by decide +kernel
theorem dL_inserts_184 : decode cL_inserts 184 = .ok (.ishr, 1) := by decide +kernel
theorem dL_inserts_185 : decode cL_inserts 185 = .ok (.bipush 9, 2) := by decide +kernel
theorem dL_inserts_187 : decode cL_inserts 187 = .ok (.invokestatic 35, 3) := by decide +kernel
theorem dL_inserts_190 : decode cL_inserts 190 = .ok (.iadd, 1) := by decide +kernel
theorem dL_inserts_191 : decode cL_inserts 191 = .ok (.istore 6, 2) := by decide +kernel
theorem dL_inserts_193 : decode cL_inserts 193 = .ok (.iconst 0, 1) := by decide +kernel
theorem dL_inserts_194 : decode cL_inserts 194 = .ok (.istore 7, 2) := by decide +kernel
theorem dL_inserts_196 : decode cL_inserts 196 = .ok (.iload 7, 2) := by decide +kernel
theorem dL_inserts_198 : decode cL_inserts 198 = .ok (.iconst 1, 1) := by decide +kernel
theorem dL_inserts_199 : decode cL_inserts 199 = .ok (.iload_n 3, 1) := by decide +kernel
theorem dL_inserts_200 : decode cL_inserts 200 = .ok (.bipush 17, 2) := by decide +kernel
theorem dL_inserts_202 : decode cL_inserts 202 = .ok (.ishr, 1) := by decide +kernel
theorem dL_inserts_203 : decode cL_inserts 203 = .ok (.iconst 3, 1) := by decide +kernel
theorem dL_inserts_204 : decode cL_inserts 204 = .ok (.invokestatic 35, 3) := by decide +kernel
theorem dL_inserts_207 : decode cL_inserts 207 = .ok (.iadd, 1) := by decide +kernel
theorem dL_inserts_208 : decode cL_inserts 208 = .ok (.if_icmp .ge 124, 3) := by decide +kernel
theorem dL_inserts_211 : decode cL_inserts 211 = .ok (.aload_n 1, 1) := by decide +kernel
theorem dL_inserts_212 : decode cL_inserts 212 = .ok (.bipush 12, 2) := by decide +kernel
theorem dL_inserts_214 : decode cL_inserts 214 = .ok (.iload_n 2, 1) := by decide +kernel
theorem dL_inserts_215 : decode cL_inserts 215 = .ok (.imul, 1) := by decide +kernel
theorem dL_inserts_216 : decode cL_inserts 216 = .ok (.iload 6, 2) := by decide +kernel
theorem dL_inserts_218 : decode cL_inserts 218 = .ok (.iadd, 1) := by decide +kernel
theorem dL_inserts_219 : decode cL_inserts 219 = .ok (.iload 6, 2) := by decide +kernel
theorem dL_inserts_221 : decode cL_inserts 221 = .ok (.iload 4, 2) := by decide +kernel
theorem dL_inserts_223 : decode cL_inserts 223 = .ok (.bipush 6, 2) := by decide +kernel
theorem dL_inserts_225 : decode cL_inserts 225 = .ok (.iload 7, 2) := by decide +kernel
theorem dL_inserts_227 : decode cL_inserts 227 = .ok (.imul, 1) := by decide +kernel
theorem dL_inserts_228 : decode cL_inserts 228 = .ok (.ishr, 1) := by decide +kernel
theorem dL_inserts_229 : decode cL_inserts 229 = .ok (.invokestatic 50, 3) := by decide +kernel
theorem dL_inserts_232 : decode cL_inserts 232 = .ok (.iastore, 1) := by decide +kernel
theorem dL_inserts_233 : decode cL_inserts 233 = .ok (.iload 5, 2) := by decide +kernel
theorem dL_inserts_235 : decode cL_inserts 235 = .ok (.ifCond .eq 77, 3) := by decide +kernel
theorem dL_inserts_238 : decode cL_inserts 238 = .ok (.iload_n 3, 1) := by decide +kernel
theorem dL_inserts_239 : decode cL_inserts 239 = .ok (.bipush 20, 2) := by decide +kernel
theorem dL_inserts_241 : decode cL_inserts 241 = .ok (.iload 7, 2) := by decide +kernel
theorem dL_inserts_243 : decode cL_inserts 243 = .ok (.iadd, 1) := by decide +kernel
theorem dL_inserts_244 : decode cL_inserts 244 = .ok (.ishr, 1) := by decide +kernel
theorem dL_inserts_245 : decode cL_inserts 245 = .ok (.iconst 1, 1) := by decide +kernel
theorem dL_inserts_246 : decode cL_inserts 246 = .ok (.iand, 1) := by decide +kernel
theorem dL_inserts_247 : decode cL_inserts 247 = .ok (.ifCond .eq 12, 3) := by decide +kernel
theorem dL_inserts_250 : decode cL_inserts 250 = .ok (.aload_n 0, 1) := by decide +kernel
theorem dL_inserts_251 : decode cL_inserts 251 = .ok (.bipush 32, 2) := by decide +kernel
theorem dL_inserts_253 : decode cL_inserts 253 = .ok (.invokevirtual 9, 3) := by decide +kernel
theorem dL_inserts_256 : decode cL_inserts 256 = .ok (.ifCond .le 56, 3) := by decide +kernel
theorem dL_inserts_259 : decode cL_inserts 259 = .ok (.aload_n 0, 1) := by decide +kernel
theorem dL_inserts_260 : decode cL_inserts 260 = .ok (.iload 6, 2) := by decide +kernel
theorem dL_inserts_262 : decode cL_inserts 262 = .ok (.invokestatic 61, 3) := by decide +kernel
theorem dL_inserts_265 : decode cL_inserts 265 = .ok (.invokestatic 65, 3) := by decide +kernel
theorem dL_inserts_268 : decode cL_inserts 268 = .ok (.ifCond .eq 44, 3) := by decide +kernel
theorem dL_inserts_271 : decode cL_inserts 271 = .ok (.iload_n 3, 1) := by decide +kernel
theorem dL_inserts_272 : decode cL_inserts 272 = .ok (.bipush 23, 2) := by decide +kernel
theorem dL_inserts_274 : decode cL_inserts 274 = .ok (.iload 7, 2) := by decide +kernel
theorem dL_inserts_276 : decode cL_inserts 276 = .ok (.iadd, 1) := by decide +kernel
theorem dL_inserts_277 : decode cL_inserts 277 = .ok (.ishr, 1) := by decide +kernel
theorem dL_inserts_278 : decode cL_inserts 278 = .ok (.iconst 1, 1) := by decide +kernel
theorem dL_inserts_279 : decode cL_inserts 279 = .ok (.iand, 1) := by decide +kernel
theorem dL_inserts_280 : decode cL_inserts 280 = .ok (.ifCond .eq 12, 3) := by decide +kernel
theorem dL_inserts_283 : decode cL_inserts 283 = .ok (.aload_n 0, 1) := by decide +kernel
theorem dL_inserts_284 : decode cL_inserts 284 = .ok (.bipush 32, 2) := by decide +kernel
theorem dL_inserts_286 : decode cL_inserts 286 = .ok (.invokevirtual 9, 3) := by decide +kernel
theorem dL_inserts_289 : decode cL_inserts 289 = .ok (.ifCond .le 23, 3) := by decide +kernel
theorem dL_inserts_292 : decode cL_inserts 292 = .ok (.aload_n 0, 1) := by decide +kernel
theorem dL_inserts_293 : decode cL_inserts 293 = .ok (.aload_n 1, 1) := by decide +kernel
theorem dL_inserts_294 : decode cL_inserts 294 = .ok (.bipush 12, 2) := by decide +kernel
theorem dL_inserts_296 : decode cL_inserts 296 = .ok (.iload_n 2, 1) := by decide +kernel
theorem dL_inserts_297 : decode cL_inserts 297 = .ok (.imul, 1) := by decide +kernel
theorem dL_inserts_298 : decode cL_inserts 298 = .ok (.iload 6, 2) := by decide +kernel
theorem dL_inserts_300 : decode cL_inserts 300 = .ok (.iadd, 1) := by decide +kernel
theorem dL_inserts_301 : decode cL_inserts 301 = .ok (.iaload, 1) := by decide +kernel
theorem dL_inserts_302 : decode cL_inserts 302 = .ok (.invokestatic 57, 3) := by decide +kernel
theorem dL_inserts_305 : decode cL_inserts 305 = .ok (.ifCond .eq 7, 3) := by decide +kernel
theorem dL_inserts_308 : decode cL_inserts 308 = .ok (.iconst 1, 1) := by decide +kernel
theorem dL_inserts_309 : decode cL_inserts 309 = .ok (.goto 4, 3) := by decide +kernel
theorem dL_inserts_312 : decode cL_inserts 312 = .ok (.iconst 0, 1) := by decide +kernel
theorem dL_inserts_313 : decode cL_inserts 313 = .ok (.istore 5, 2) := by decide +kernel
theorem dL_inserts_315 : decode cL_inserts 315 = .ok (.iconst 1, 1) := by decide +kernel
theorem dL_inserts_316 : decode cL_inserts 316 = .ok (.iload 6, 2) := by decide +kernel
theorem dL_inserts_318 : decode cL_inserts 318 = .ok (.iconst 1, 1) := by decide +kernel
theorem dL_inserts_319 : decode cL_inserts 319 = .ok (.iadd, 1) := by decide +kernel
theorem dL_inserts_320 : decode cL_inserts 320 = .ok (.bipush 9, 2) := by decide +kernel
theorem dL_inserts_322 : decode cL_inserts 322 = .ok (.irem, 1) := by decide +kernel
theorem dL_inserts_323 : decode cL_inserts 323 = .ok (.iadd, 1) := by decide +kernel
theorem dL_inserts_324 : decode cL_inserts 324 = .ok (.istore 6, 2) := by decide +kernel
theorem dL_inserts_326 : decode cL_inserts 326 = .ok (.iinc 7 1, 3) := by decide +kernel
theorem dL_inserts_329 : decode cL_inserts 329 = .ok (.goto (-133), 3) := by decide +kernel
theorem dL_inserts_332 : decode cL_inserts 332 = .ok (.iload 5, 2) := by decide +kernel
theorem dL_inserts_334 : decode cL_inserts 334 = .ok (.ifCond .eq 19, 3) := by decide +kernel
theorem dL_inserts_337 : decode cL_inserts 337 = .ok (.aload_n 0, 1) := by decide +kernel
theorem dL_inserts_338 : decode cL_inserts 338 = .ok (.iload_n 2, 1) := by decide +kernel
theorem dL_inserts_339 : decode cL_inserts 339 = .ok (.invokevirtual 47, 3) := by decide +kernel
theorem dL_inserts_342 : decode cL_inserts 342 = .ok (.aload_n 1, 1) := by decide +kernel
theorem dL_inserts_343 : decode cL_inserts 343 = .ok (.bipush 60, 2) := by decide +kernel
theorem dL_inserts_345 : decode cL_inserts 345 = .ok (.iaload, 1) := by decide +kernel
theorem dL_inserts_346 : decode cL_inserts 346 = .ok (.if_icmp .ne 7, 3) := by decide +kernel
theorem dL_inserts_349 : decode cL_inserts 349 = .ok (.iconst 1, 1) := by decide +kernel
theorem dL_inserts_350 : decode cL_inserts 350 = .ok (.goto 4, 3) := by decide +kernel
theorem dL_inserts_353 : decode cL_inserts 353 = .ok (.iconst 0, 1) := by decide +kernel
theorem dL_inserts_354 : decode cL_inserts 354 = .ok (.ireturn, 1) := by decide +kernel
theorem dL_changes_0 : decode cL_changes 0 = .ok (.iload_n 3, 1) := by decide +kernel
theorem dL_changes_1 : decode cL_changes 1 = .ok (.bipush 10, 2) := by decide +kernel
theorem dL_changes_3 : decode cL_changes 3 = .ok (.invokestatic 35, 3) := by decide +kernel
theorem dL_changes_6 : decode cL_changes 6 = .ok (.istore 4, 2) := by decide +kernel
theorem dL_changes_8 : decode cL_changes 8 = .ok (.aload_n 1, 1) := by decide +kernel
theorem dL_changes_9 : decode cL_changes 9 = .ok (.bipush 12, 2) := by decide +kernel
theorem dL_changes_11 : decode cL_changes 11 = .ok (.iload_n 2, 1) := by decide +kernel
theorem dL_changes_12 : decode cL_changes 12 = .ok (.imul, 1) := by decide +kernel
theorem dL_changes_13 : decode cL_changes 13 = .ok (.iload 4, 2) := by decide +kernel
theorem dL_changes_15 : decode cL_changes 15 = .ok (.iadd, 1) := by decide +kernel
theorem dL_changes_16 : decode cL_changes 16 = .ok (.iaload, 1) := by decide +kernel
theorem dL_changes_17 : decode cL_changes 17 = .ok (.istore 5, 2) := by decide +kernel
theorem dL_changes_19 : decode cL_changes 19 = .ok (.aload_n 1, 1) := by decide +kernel
theorem dL_changes_20 : decode cL_changes 20 = .ok (.bipush 12, 2) := by decide +kernel
theorem dL_changes_22 : decode cL_changes 22 = .ok (.iload_n 2, 1) := by decide +kernel
theorem dL_changes_23 : decode cL_changes 23 = .ok (.imul, 1) := by decide +kernel
theorem dL_changes_24 : decode cL_changes 24 = .ok (.iload 4, 2) := by decide +kernel
theorem dL_changes_26 : decode cL_changes 26 = .ok (.iadd, 1) := by decide +kernel
theorem dL_changes_27 : decode cL_changes 27 = .ok (.iload 4, 2) := by decide +kernel
theorem dL_changes_29 : decode cL_changes 29 = .ok (.iload_n 3, 1) := by decide +kernel
theorem dL_changes_30 : decode cL_changes 30 = .ok (.iconst 4, 1) := by decide +kernel
theorem dL_changes_31 : decode cL_changes 31 = .ok (.ishr, 1) := by decide +kernel
theorem dL_changes_32 : decode cL_changes 32 = .ok (.invokestatic 50, 3) := by decide +kernel
theorem dL_changes_35 : decode cL_changes 35 = .ok (.iastore, 1) := by decide +kernel
theorem dL_changes_36 : decode cL_changes 36 = .ok (.aload_n 0, 1) := by decide +kernel
theorem dL_changes_37 : decode cL_changes 37 = .ok (.iload_n 2, 1) := by decide +kernel
theorem dL_changes_38 : decode cL_changes 38 = .ok (.iload 4, 2) := by decide +kernel
theorem dL_changes_40 : decode cL_changes 40 = .ok (.aload_n 1, 1) := by decide +kernel
theorem dL_changes_41 : decode cL_changes 41 = .ok (.bipush 12, 2) := by decide +kernel
theorem dL_changes_43 : decode cL_changes 43 = .ok (.iload_n 2, 1) := by decide +kernel
theorem dL_changes_44 : decode cL_changes 44 = .ok (.imul, 1) := by decide +kernel
theorem dL_changes_45 : decode cL_changes 45 = .ok (.iload 4, 2) := by decide +kernel
theorem dL_changes_47 : decode cL_changes 47 = .ok (.iadd, 1) := by decide +kernel
theorem dL_changes_48 : decode cL_changes 48 = .ok (.iaload, 1) := by decide +kernel
theorem dL_changes_49 : decode cL_changes 49 = .ok (.invokevirtual 69, 3) := by decide +kernel
theorem dL_changes_52 : decode cL_changes 52 = .ok (.iload 5, 2) := by decide +kernel
theorem dL_changes_54 : decode cL_changes 54 = .ok (.if_icmp .ne 61, 3) := by decide +kernel
theorem dL_changes_57 : decode cL_changes 57 = .ok (.aload_n 0, 1) := by decide +kernel
theorem dL_changes_58 : decode cL_changes 58 = .ok (.iload_n 2, 1) := by decide +kernel
theorem dL_changes_59 : decode cL_changes 59 = .ok (.iload 4, 2) := by decide +kernel
theorem dL_changes_61 : decode cL_changes 61 = .ok (.iload 4, 2) := by decide +kernel
theorem dL_changes_63 : decode cL_changes 63 = .ok (.invokestatic 44, 3) := by decide +kernel
theorem dL_changes_66 : decode cL_changes 66 = .ok (.iconst 1, 1) := by decide +kernel
theorem dL_changes_67 : decode cL_changes 67 = .ok (.iadd, 1) := by decide +kernel
theorem dL_changes_68 : decode cL_changes 68 = .ok (.invokevirtual 69, 3) := by decide +kernel
theorem dL_changes_71 : decode cL_changes 71 = .ok (.sipush (-1002), 3) := by decide +kernel
theorem dL_changes_74 : decode cL_changes 74 = .ok (.if_icmp .ne 41, 3) := by decide +kernel
theorem dL_changes_77 : decode cL_changes 77 = .ok (.aload_n 0, 1) := by decide +kernel
theorem dL_changes_78 : decode cL_changes 78 = .ok (.iload_n 2, 1) := by decide +kernel
theorem dL_changes_79 : decode cL_changes 79 = .ok (.iload 4, 2) := by decide +kernel
theorem dL_changes_81 : decode cL_changes 81 = .ok (.iload 4, 2) := by decide +kernel
theorem dL_changes_83 : decode cL_changes 83 = .ok (.invokestatic 41, 3) := by decide +kernel
theorem dL_changes_86 : decode cL_changes 86 = .ok (.iconst 1, 1) := by decide +kernel
