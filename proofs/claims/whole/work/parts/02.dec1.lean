theorem dX4_swap_11 : decode cX4_swap 11 = .ok (.invokevirtual 31, 3) := by decide +kernel
theorem dX4_swap_14 : decode cX4_swap 14 = .ok (.istore 4, 2) := by decide +kernel
theorem dX4_swap_16 : decode cX4_swap 16 = .ok (.aload_n 0, 1) := by decide +kernel
theorem dX4_swap_17 : decode cX4_swap 17 = .ok (.iload_n 1, 1) := by decide +kernel
theorem dX4_swap_18 : decode cX4_swap 18 = .ok (.iload_n 3, 1) := by decide +kernel
theorem dX4_swap_19 : decode cX4_swap 19 = .ok (.aload_n 0, 1) := by decide +kernel
theorem dX4_swap_20 : decode cX4_swap 20 = .ok (.iload_n 2, 1) := by decide +kernel
theorem dX4_swap_21 : decode cX4_swap 21 = .ok (.iload_n 3, 1) := by decide +kernel
theorem dX4_swap_22 : decode cX4_swap 22 = .ok (.invokevirtual 31, 3) := by decide +kernel
theorem dX4_swap_25 : decode cX4_swap 25 = .ok (.invokevirtual 50, 3) := by decide +kernel
theorem dX4_swap_28 : decode cX4_swap 28 = .ok (.aload_n 0, 1) := by decide +kernel
theorem dX4_swap_29 : decode cX4_swap 29 = .ok (.iload_n 2, 1) := by decide +kernel
theorem dX4_swap_30 : decode cX4_swap 30 = .ok (.iload_n 3, 1) := by decide +kernel
theorem dX4_swap_31 : decode cX4_swap 31 = .ok (.iload 4, 2) := by decide +kernel
theorem dX4_swap_33 : decode cX4_swap 33 = .ok (.invokevirtual 50, 3) := by decide +kernel
theorem dX4_swap_36 : decode cX4_swap 36 = .ok (.iinc 3 1, 3) := by decide +kernel
theorem dX4_swap_39 : decode cX4_swap 39 = .ok (.goto (-37), 3) := by decide +kernel
theorem dX4_swap_42 : decode cX4_swap 42 = .ok (.return_, 1) := by decide +kernel
theorem dX5_init_0 : decode cX5_init 0 = .ok (.aload_n 0, 1) := by decide +kernel
theorem dX5_init_1 : decode cX5_init 1 = .ok (.invokespecial 3, 3) := by decide +kernel
theorem dX5_init_4 : decode cX5_init 4 = .ok (.aload_n 0, 1) := by decide +kernel
theorem dX5_init_5 : decode cX5_init 5 = .ok (.bipush 80, 2) := by decide +kernel
theorem dX5_init_7 : decode cX5_init 7 = .ok (.newarray .byte, 2) := by decide +kernel
theorem dX5_init_9 : decode cX5_init 9 = .ok (.putfield 9, 3) := by decide +kernel
theorem dX5_init_12 : decode cX5_init 12 = .ok (.aload_n 0, 1) := by decide +kernel
theorem dX5_init_13 : decode cX5_init 13 = .ok (.bipush 10, 2) := by decide +kernel
theorem dX5_init_15 : decode cX5_init 15 = .ok (.newarray .int, 2) := by decide +kernel
theorem dX5_init_17 : decode cX5_init 17 = .ok (.putfield 15, 3) := by decide +kernel
theorem dX5_init_20 : decode cX5_init 20 = .ok (.return_, 1) := by decide +kernel
theorem dX5_append_0 : decode cX5_append 0 = .ok (.aload_n 0, 1) := by decide +kernel
theorem dX5_append_1 : decode cX5_append 1 = .ok (.getfield 19, 3) := by decide +kernel
theorem dX5_append_4 : decode cX5_append 4 = .ok (.ifCond .lt 12, 3) := by decide +kernel
theorem dX5_append_7 : decode cX5_append 7 = .ok (.aload_n 0, 1) := by decide +kernel
theorem dX5_append_8 : decode cX5_append 8 = .ok (.getfield 19, 3) := by decide +kernel
theorem dX5_append_11 : decode cX5_append 11 = .ok (.bipush 80, 2) := by decide +kernel
theorem dX5_append_13 : decode cX5_append 13 = .ok (.if_icmp .lt 5, 3) := by decide +kernel
theorem dX5_append_16 : decode cX5_append 16 = .ok (.iconst 0, 1) := by decide +kernel
theorem dX5_append_17 : decode cX5_append 17 = .ok (.ireturn, 1) := by decide +kernel
theorem dX5_append_18 : decode cX5_append 18 = .ok (.aload_n 0, 1) := by decide +kernel
theorem dX5_append_19 : decode cX5_append 19 = .ok (.getfield 9, 3) := by decide +kernel
theorem dX5_append_22 : decode cX5_append 22 = .ok (.aload_n 0, 1) := by decide +kernel
theorem dX5_append_23 : decode cX5_append 23 = .ok (.getfield 19, 3) := by decide +kernel
theorem dX5_append_26 : decode cX5_append 26 = .ok (.iload_n 1, 1) := by decide +kernel
theorem dX5_append_27 : decode cX5_append 27 = .ok (.i2b, 1) := by decide +kernel
theorem dX5_append_28 : decode cX5_append 28 = .ok (.bastore, 1) := by decide +kernel
theorem dX5_append_29 : decode cX5_append 29 = .ok (.aload_n 0, 1) := by decide +kernel
theorem dX5_append_30 : decode cX5_append 30 = .ok (.dup, 1) := by decide +kernel
theorem dX5_append_31 : decode cX5_append 31 = .ok (.getfield 19, 3) := by decide +kernel
theorem dX5_append_34 : decode cX5_append 34 = .ok (.iconst 1, 1) := by decide +kernel
theorem dX5_append_35 : decode cX5_append 35 = .ok (.iadd, 1) := by decide +kernel
theorem dX5_append_36 : decode cX5_append 36 = .ok (.putfield 19, 3) := by decide +kernel
theorem dX5_append_39 : decode cX5_append 39 = .ok (.iconst 1, 1) := by decide +kernel
theorem dX5_append_40 : decode cX5_append 40 = .ok (.ireturn, 1) := by decide +kernel
theorem dX5_byteAt_0 : decode cX5_byteAt 0 = .ok (.iload_n 1, 1) := by decide +kernel
theorem dX5_byteAt_1 : decode cX5_byteAt 1 = .ok (.ifCond .lt 26, 3) := by decide +kernel
theorem dX5_byteAt_4 : decode cX5_byteAt 4 = .ok (.iload_n 1, 1) := by decide +kernel
theorem dX5_byteAt_5 : decode cX5_byteAt 5 = .ok (.aload_n 0, 1) := by decide +kernel
theorem dX5_byteAt_6 : decode cX5_byteAt 6 = .ok (.getfield 19, 3) := by decide +kernel
theorem dX5_byteAt_9 : decode cX5_byteAt 9 = .ok (.if_icmp .ge 18, 3) := by decide +kernel
theorem dX5_byteAt_12 : decode cX5_byteAt 12 = .ok (.iload_n 1, 1) := by decide +kernel
theorem dX5_byteAt_13 : decode cX5_byteAt 13 = .ok (.bipush 80, 2) := by decide +kernel
theorem dX5_byteAt_15 : decode cX5_byteAt 15 = .ok (.if_icmp .ge 12, 3) := by decide +kernel
theorem dX5_byteAt_18 : decode cX5_byteAt 18 = .ok (.aload_n 0, 1) := by decide +kernel
theorem dX5_byteAt_19 : decode cX5_byteAt 19 = .ok (.getfield 9, 3) := by decide +kernel
theorem dX5_byteAt_22 : decode cX5_byteAt 22 = .ok (.iload_n 1, 1) := by decide +kernel
theorem dX5_byteAt_23 : decode cX5_byteAt 23 = .ok (.baload, 1) := by decide +kernel
theorem dX5_byteAt_24 : decode cX5_byteAt 24 = .ok (.goto 4, 3) := by decide +kernel
theorem dX5_byteAt_27 : decode cX5_byteAt 27 = .ok (.iconst (-1), 1) := by decide +kernel
theorem dX5_byteAt_28 : decode cX5_byteAt 28 = .ok (.ireturn, 1) := by decide +kernel
theorem dX5_read_0 : decode cX5_read 0 = .ok (.getstatic 23, 3) := by decide +kernel
theorem dX5_read_3 : decode cX5_read 3 = .ok (.iconst 0, 1) := by decide +kernel
theorem dX5_read_4 : decode cX5_read 4 = .ok (.aload_n 0, 1) := by decide +kernel
theorem dX5_read_5 : decode cX5_read 5 = .ok (.getfield 15, 3) := by decide +kernel
theorem dX5_read_8 : decode cX5_read 8 = .ok (.iconst 0, 1) := by decide +kernel
theorem dX5_read_9 : decode cX5_read 9 = .ok (.bipush 10, 2) := by decide +kernel
theorem dX5_read_11 : decode cX5_read 11 = .ok (.invokestatic 26, 3) := by decide +kernel
theorem dX5_read_14 : decode cX5_read 14 = .ok (.aload_n 0, 1) := by decide +kernel
theorem dX5_read_15 : decode cX5_read 15 = .ok (.iconst 0, 1) := by decide +kernel
theorem dX5_read_16 : decode cX5_read 16 = .ok (.putfield 32, 3) := by decide +kernel
theorem dX5_read_19 : decode cX5_read 19 = .ok (.aload_n 0, 1) := by decide +kernel
theorem dX5_read_20 : decode cX5_read 20 = .ok (.iconst 0, 1) := by decide +kernel
theorem dX5_read_21 : decode cX5_read 21 = .ok (.putfield 35, 3) := by decide +kernel
theorem dX5_read_24 : decode cX5_read 24 = .ok (.aload_n 0, 1) := by decide +kernel
theorem dX5_read_25 : decode cX5_read 25 = .ok (.iconst 0, 1) := by decide +kernel
theorem dX5_read_26 : decode cX5_read 26 = .ok (.invokevirtual 38, 3) := by decide +kernel
theorem dX5_read_29 : decode cX5_read 29 = .ok (.istore_n 1, 1) := by decide +kernel
theorem dX5_read_30 : decode cX5_read 30 = .ok (.iconst 0, 1) := by decide +kernel
theorem dX5_read_31 : decode cX5_read 31 = .ok (.istore_n 2, 1) := by decide +kernel
theorem dX5_read_32 : decode cX5_read 32 = .ok (.iload_n 2, 1) := by decide +kernel
theorem dX5_read_33 : decode cX5_read 33 = .ok (.bipush 80, 2) := by decide +kernel
theorem dX5_read_35 : decode cX5_read 35 = .ok (.if_icmp .ge 46, 3) := by decide +kernel
theorem dX5_read_38 : decode cX5_read 38 = .ok (.iload_n 1, 1) := by decide +kernel
theorem dX5_read_39 : decode cX5_read 39 = .ok (.ifCond .ge 42, 3) := by decide +kernel
theorem dX5_read_42 : decode cX5_read 42 = .ok (.aload_n 0, 1) := by decide +kernel
theorem dX5_read_43 : decode cX5_read 43 = .ok (.getfield 32, 3) := by decide +kernel
theorem dX5_read_46 : decode cX5_read 46 = .ok (.aload_n 0, 1) := by decide +kernel
theorem dX5_read_47 : decode cX5_read 47 = .ok (.getfield 19, 3) := by decide +kernel
theorem dX5_read_50 : decode cX5_read 50 = .ok (.if_icmp .ge 31, 3) := by decide +kernel
theorem dX5_read_53 : decode cX5_read 53 = .ok (.aload_n 0, 1) := by decide +kernel
theorem dX5_read_54 : decode cX5_read 54 = .ok (.invokevirtual 42, 3) := by decide +kernel
theorem dX5_read_57 : decode cX5_read 57 = .ok (.istore_n 3, 1) := by decide +kernel
theorem dX5_read_58 : decode cX5_read 58 = .ok (.iload_n 3, 1) := by decide +kernel
theorem dX5_read_59 : decode cX5_read 59 = .ok (.ifCond .ge 10, 3) := by decide +kernel
theorem dX5_read_62 : decode cX5_read 62 = .ok (.aload_n 0, 1) := by decide +kernel
theorem dX5_read_63 : decode cX5_read 63 = .ok (.getfield 32, 3) := by decide +kernel
theorem dX5_read_66 : decode cX5_read 66 = .ok (.goto 8, 3) := by decide +kernel
theorem dX5_read_69 : decode cX5_read 69 = .ok (.aload_n 0, 1) := by decide +kernel
theorem dX5_read_70 : decode cX5_read 70 = .ok (.iload_n 3, 1) := by decide +kernel
theorem dX5_read_71 : decode cX5_read 71 = .ok (.invokevirtual 38, 3) := by decide +kernel
theorem dX5_read_74 : decode cX5_read 74 = .ok (.istore_n 1, 1) := by decide +kernel
theorem dX5_read_75 : decode cX5_read 75 = .ok (.iinc 2 1, 3) := by decide +kernel
theorem dX5_read_78 : decode cX5_read 78 = .ok (.goto (-46), 3) := by decide +kernel
theorem dX5_read_81 : decode cX5_read 81 = .ok (.iload_n 1, 1) := by decide +kernel
theorem dX5_read_82 : decode cX5_read 82 = .ok (.ireturn, 1) := by decide +kernel
theorem dX5_readNumber_0 : decode cX5_readNumber 0 = .ok (.aload_n 0, 1) := by decide +kernel
theorem dX5_readNumber_1 : decode cX5_readNumber 1 = .ok (.invokevirtual 46, 3) := by decide +kernel
theorem dX5_readNumber_4 : decode cX5_readNumber 4 = .ok (.aload_n 0, 1) := by decide +kernel
theorem dX5_readNumber_5 : decode cX5_readNumber 5 = .ok (.getfield 32, 3) := by decide +kernel
theorem dX5_readNumber_8 : decode cX5_readNumber 8 = .ok (.istore_n 2, 1) := by decide +kernel
theorem dX5_readNumber_9 : decode cX5_readNumber 9 = .ok (.iload_n 1, 1) := by decide +kernel
theorem dX5_readNumber_10 : decode cX5_readNumber 10 = .ok (.bipush 6, 2) := by decide +kernel
theorem dX5_readNumber_12 : decode cX5_readNumber 12 = .ok (.if_icmp .ne 20, 3) := by decide +kernel
theorem dX5_readNumber_15 : decode cX5_readNumber 15 = .ok (.aload_n 0, 1) := by decide +kernel
theorem dX5_readNumber_16 : decode cX5_readNumber 16 = .ok (.aload_n 0, 1) := by decide +kernel
theorem dX5_readNumber_17 : decode cX5_readNumber 17 = .ok (.getfield 32, 3) := by decide +kernel
theorem dX5_readNumber_20 : decode cX5_readNumber 20 = .ok (.invokevirtual 49, 3) := by decide +kernel
theorem dX5_readNumber_23 : decode cX5_readNumber 23 = .ok (.bipush 45, 2) := by decide +kernel
theorem dX5_readNumber_25 : decode cX5_readNumber 25 = .ok (.if_icmp .ne 7, 3) := by decide +kernel
theorem dX5_readNumber_28 : decode cX5_readNumber 28 = .ok (.iconst 1, 1) := by decide +kernel
theorem dX5_readNumber_29 : decode cX5_readNumber 29 = .ok (.goto 4, 3) := by decide +kernel
theorem dX5_readNumber_32 : decode cX5_readNumber 32 = .ok (.iconst 0, 1) := by decide +kernel
theorem dX5_readNumber_33 : decode cX5_readNumber 33 = .ok (.istore_n 3, 1) := by decide +kernel
theorem dX5_readNumber_34 : decode cX5_readNumber 34 = .ok (.iload_n 3, 1) := by decide +kernel
theorem dX5_readNumber_35 : decode cX5_readNumber 35 = .ok (.ifCond .eq 13, 3) := by decide +kernel
theorem dX5_readNumber_38 : decode cX5_readNumber 38 = .ok (.aload_n 0, 1) := by decide +kernel
theorem dX5_readNumber_39 : decode cX5_readNumber 39 = .ok (.dup, 1) := by decide +kernel
theorem dX5_readNumber_40 : decode cX5_readNumber 40 = .ok (.getfield 32, 3) := by decide +kernel
theorem dX5_readNumber_43 : decode cX5_readNumber 43 = .ok (.iconst 1, 1) := by decide +kernel
theorem dX5_readNumber_44 : decode cX5_readNumber 44 = .ok (.iadd, 1) := by decide +kernel
theorem dX5_readNumber_45 : decode cX5_readNumber 45 = .ok (.putfield 32, 3) := by decide +kernel
theorem dX5_readNumber_48 : decode cX5_readNumber 48 = .ok (.aload_n 0, 1) := by decide +kernel
theorem dX5_readNumber_49 : decode cX5_readNumber 49 = .ok (.getfield 32, 3) := by decide +kernel
theorem dX5_readNumber_52 : decode cX5_readNumber 52 = .ok (.istore 4, 2) := by decide +kernel
theorem dX5_readNumber_54 : decode cX5_readNumber 54 = .ok (.iconst 0, 1) := by decide +kernel
theorem dX5_readNumber_55 : decode cX5_readNumber 55 = .ok (.istore 5, 2) := by decide +kernel
theorem dX5_readNumber_57 : decode cX5_readNumber 57 = .ok (.aload_n 0, 1) := by decide +kernel
theorem dX5_readNumber_58 : decode cX5_readNumber 58 = .ok (.getfield 32, 3) := by decide +kernel
theorem dX5_readNumber_61 : decode cX5_readNumber 61 = .ok (.iload 4, 2) := by decide +kernel
theorem dX5_readNumber_63 : decode cX5_readNumber 63 = .ok (.iconst 3, 1) := by decide +kernel
theorem dX5_readNumber_64 : decode cX5_readNumber 64 = .ok (.iadd, 1) := by decide +kernel
theorem dX5_readNumber_65 : decode cX5_readNumber 65 = .ok (.if_icmp .ge 49, 3) := by decide +kernel
theorem dX5_readNumber_68 : decode cX5_readNumber 68 = .ok (.aload_n 0, 1) := by decide +kernel
theorem dX5_readNumber_69 : decode cX5_readNumber 69 = .ok (.aload_n 0, 1) := by decide +kernel
theorem dX5_readNumber_70 : decode cX5_readNumber 70 = .ok (.getfield 32, 3) := by decide +kernel
theorem dX5_readNumber_73 : decode cX5_readNumber 73 = .ok (.invokevirtual 49, 3) := by decide +kernel
theorem dX5_readNumber_76 : decode cX5_readNumber 76 = .ok (.invokestatic 52, 3) := by decide +kernel
theorem dX5_readNumber_79 : decode cX5_readNumber 79 = .ok (.ifCond .eq 35, 3) := by decide +kernel
theorem dX5_readNumber_82 : decode cX5_readNumber 82 = .ok (.iload 5, 2) := by decide +kernel
theorem dX5_readNumber_84 : decode cX5_readNumber 84 = .ok (.bipush 10, 2) := by decide +kernel
theorem dX5_readNumber_86 : decode cX5_readNumber 86 = .ok (.imul, 1) := by decide +kernel
theorem dX5_readNumber_87 : decode cX5_readNumber 87 = .ok (.aload_n 0, 1) := by decide +kernel
theorem dX5_readNumber_88 : decode cX5_readNumber 88 = .ok (.aload_n 0, 1) := by decide +kernel
theorem dX5_readNumber_89 : decode cX5_readNumber 89 = .ok (.getfield 32, 3) := by decide +kernel
theorem dX5_readNumber_92 : decode cX5_readNumber 92 = .ok (.invokevirtual 49, 3) := by decide +kernel
theorem dX5_readNumber_95 : decode cX5_readNumber 95 = .ok (.iadd, 1) := by decide +kernel
theorem dX5_readNumber_96 : decode cX5_readNumber 96 = .ok (.bipush 48, 2) := by decide +kernel
theorem dX5_readNumber_98 : decode cX5_readNumber 98 = .ok (.isub, 1) := by decide +kernel
theorem dX5_readNumber_99 : decode cX5_readNumber 99 = .ok (.istore 5, 2) := by decide +kernel
theorem dX5_readNumber_101 : decode cX5_readNumber 101 = .ok (.aload_n 0, 1) := by decide +kernel
theorem dX5_readNumber_102 : decode cX5_readNumber 102 = .ok (.dup, 1) := by decide +kernel
theorem dX5_readNumber_103 : decode cX5_readNumber 103 = .ok (.getfield 32, 3) := by decide +kernel
theorem dX5_readNumber_106 : decode cX5_readNumber 106 = .ok (.iconst 1, 1) := by decide +kernel
theorem dX5_readNumber_107 : decode cX5_readNumber 107 = .ok (.iadd, 1) := by decide +kernel
theorem dX5_readNumber_108 : decode cX5_readNumber 108 = .ok (.putfield 32, 3) := by decide +kernel
theorem dX5_readNumber_111 : decode cX5_readNumber 111 = .ok (.goto (-54), 3) := by decide +kernel
theorem dX5_readNumber_114 : decode cX5_readNumber 114 = .ok (.aload_n 0, 1) := by decide +kernel
theorem dX5_readNumber_115 : decode cX5_readNumber 115 = .ok (.getfield 32, 3) := by decide +kernel
theorem dX5_readNumber_118 : decode cX5_readNumber 118 = .ok (.iload 4, 2) := by decide +kernel
theorem dX5_readNumber_120 : decode cX5_readNumber 120 = .ok (.if_icmp .ne 8, 3) := by decide +kernel
theorem dX5_readNumber_123 : decode cX5_readNumber 123 = .ok (.aload_n 0, 1) := by decide +kernel
theorem dX5_readNumber_124 : decode cX5_readNumber 124 = .ok (.getfield 32, 3) := by decide +kernel
theorem dX5_readNumber_127 : decode cX5_readNumber 127 = .ok (.ireturn, 1) := by decide +kernel
theorem dX5_readNumber_128 : decode cX5_readNumber 128 = .ok (.iload_n 3, 1) := by decide +kernel
theorem dX5_readNumber_129 : decode cX5_readNumber 129 = .ok (.ifCond .eq 9, 3) := by decide +kernel
theorem dX5_readNumber_132 : decode cX5_readNumber 132 = .ok (.iload 5, 2) := by decide +kernel
theorem dX5_readNumber_134 : decode cX5_readNumber 134 = .ok (.ineg, 1) := by decide +kernel
theorem dX5_readNumber_135 : decode cX5_readNumber 135 = .ok (.goto 5, 3) := by decide +kernel
theorem dX5_readNumber_138 : decode cX5_readNumber 138 = .ok (.iload 5, 2) := by decide +kernel
theorem dX5_readNumber_140 : decode cX5_readNumber 140 = .ok (.istore 5, 2) := by decide +kernel
theorem dX5_readNumber_142 : decode cX5_readNumber 142 = .ok (.iload_n 1, 1) := by decide +kernel
theorem dX5_readNumber_143 : decode cX5_readNumber 143 = .ok (.ifCond .lt 29, 3) := by decide +kernel
theorem dX5_readNumber_146 : decode cX5_readNumber 146 = .ok (.iload_n 1, 1) := by decide +kernel
theorem dX5_readNumber_147 : decode cX5_readNumber 147 = .ok (.bipush 10, 2) := by decide +kernel
theorem dX5_readNumber_149 : decode cX5_readNumber 149 = .ok (.if_icmp .ge 23, 3) := by decide +kernel
theorem dX5_readNumber_152 : decode cX5_readNumber 152 = .ok (.iload 5, 2) := by decide +kernel
theorem dX5_readNumber_154 : decode cX5_readNumber 154 = .ok (.getstatic 56, 3) := by decide +kernel
theorem dX5_readNumber_157 : decode cX5_readNumber 157 = .ok (.iload_n 1, 1) := by decide +kernel
theorem dX5_readNumber_158 : decode cX5_readNumber 158 = .ok (.iaload, 1) := by decide +kernel
theorem dX5_readNumber_159 : decode cX5_readNumber 159 = .ok (.if_icmp .lt 13, 3) := by decide +kernel
theorem dX5_readNumber_162 : decode cX5_readNumber 162 = .ok (.iload 5, 2) := by decide +kernel
theorem dX5_readNumber_164 : decode cX5_readNumber 164 = .ok (.getstatic 59, 3) := by decide +kernel
theorem dX5_readNumber_167 : decode cX5_readNumber 167 = .ok (.iload_n 1, 1) := by decide +kernel
theorem dX5_readNumber_168 : decode cX5_readNumber 168 = .ok (.iaload, 1) := by decide +kernel
theorem dX5_readNumber_169 : decode cX5_readNumber 169 = .ok (.if_icmp .le 5, 3) := by decide +kernel
theorem dX5_readNumber_172 : decode cX5_readNumber 172 = .ok (.iload_n 2, 1) := by decide +kernel
theorem dX5_readNumber_173 : decode cX5_readNumber 173 = .ok (.ireturn, 1) := by decide +kernel
theorem dX5_readNumber_174 : decode cX5_readNumber 174 = .ok (.aload_n 0, 1) := by decide +kernel
theorem dX5_readNumber_175 : decode cX5_readNumber 175 = .ok (.aload_n 0, 1) := by decide +kernel
theorem dX5_readNumber_176 : decode cX5_readNumber 176 = .ok (.getfield 32, 3) := by decide +kernel
theorem dX5_readNumber_179 : decode cX5_readNumber 179 = .ok (.invokevirtual 49, 3) := by decide +kernel
theorem dX5_readNumber_182 : decode cX5_readNumber 182 = .ok (.invokestatic 52, 3) := by decide +kernel
theorem dX5_readNumber_185 : decode cX5_readNumber 185 = .ok (.ifCond .eq 8, 3) := by decide +kernel
theorem dX5_readNumber_188 : decode cX5_readNumber 188 = .ok (.aload_n 0, 1) := by decide +kernel
theorem dX5_readNumber_189 : decode cX5_readNumber 189 = .ok (.getfield 32, 3) := by decide +kernel
theorem dX5_readNumber_192 : decode cX5_readNumber 192 = .ok (.ireturn, 1) := by decide +kernel
theorem dX5_readNumber_193 : decode cX5_readNumber 193 = .ok (.aload_n 0, 1) := by decide +kernel
theorem dX5_readNumber_194 : decode cX5_readNumber 194 = .ok (.getfield 15, 3) := by decide +kernel
theorem dX5_readNumber_197 : decode cX5_readNumber 197 = .ok (.iload_n 1, 1) := by decide +kernel
theorem dX5_readNumber_198 : decode cX5_readNumber 198 = .ok (.iload 5, 2) := by decide +kernel
theorem dX5_readNumber_200 : decode cX5_readNumber 200 = .ok (.iastore, 1) := by decide +kernel
theorem dX5_readNumber_201 : decode cX5_readNumber 201 = .ok (.aload_n 0, 1) := by decide +kernel
theorem dX5_readNumber_202 : decode cX5_readNumber 202 = .ok (.invokevirtual 46, 3) := by decide +kernel
theorem dX5_readNumber_205 : decode cX5_readNumber 205 = .ok (.iconst (-1), 1) := by decide +kernel
theorem dX5_readNumber_206 : decode cX5_readNumber 206 = .ok (.ireturn, 1) := by decide +kernel
theorem dX5_readWord_0 : decode cX5_readWord 0 = .ok (.aload_n 0, 1) := by decide +kernel
theorem dX5_readWord_1 : decode cX5_readWord 1 = .ok (.getfield 32, 3) := by decide +kernel
theorem dX5_readWord_4 : decode cX5_readWord 4 = .ok (.istore_n 1, 1) := by decide +kernel
theorem dX5_readWord_5 : decode cX5_readWord 5 = .ok (.iload_n 1, 1) := by decide +kernel
theorem dX5_readWord_6 : decode cX5_readWord 6 = .ok (.aload_n 0, 1) := by decide +kernel
theorem dX5_readWord_7 : decode cX5_readWord 7 = .ok (.getfield 19, 3) := by decide +kernel
theorem dX5_readWord_10 : decode cX5_readWord 10 = .ok (.if_icmp .ge 20, 3) := by decide +kernel
theorem dX5_readWord_13 : decode cX5_readWord 13 = .ok (.aload_n 0, 1) := by decide +kernel
theorem dX5_readWord_14 : decode cX5_readWord 14 = .ok (.iload_n 1, 1) := by decide +kernel
theorem dX5_readWord_15 : decode cX5_readWord 15 = .ok (.invokevirtual 49, 3) := by decide +kernel
theorem dX5_readWord_18 : decode cX5_readWord 18 = .ok (.invokestatic 62, 3) := by decide +kernel
theorem dX5_readWord_21 : decode cX5_readWord 21 = .ok (.ifCond .eq 9, 3) := by decide +kernel
theorem dX5_readWord_24 : decode cX5_readWord 24 = .ok (.iinc 1 1, 3) := by decide +kernel
theorem dX5_readWord_27 : decode cX5_readWord 27 = .ok (.goto (-22), 3) := by decide +kernel
theorem dX5_readWord_30 : decode cX5_readWord 30 = .ok (.iconst 1, 1) := by decide +kernel
theorem dX5_readWord_31 : decode cX5_readWord 31 = .ok (.istore_n 2, 1) := by decide +kernel
theorem dX5_readWord_32 : decode cX5_readWord 32 = .ok (.iload_n 2, 1) := by decide +kernel
theorem dX5_readWord_33 : decode cX5_readWord 33 = .ok (.bipush 10, 2) := by decide +kernel
theorem dX5_readWord_35 : decode cX5_readWord 35 = .ok (.if_icmp .ge 61, 3) := by decide +kernel
theorem dX5_readWord_38 : decode cX5_readWord 38 = .ok (.aload_n 0, 1) := by decide +kernel
theorem dX5_readWord_39 : decode cX5_readWord 39 = .ok (.getfield 35, 3) := by decide +kernel
theorem dX5_readWord_42 : decode cX5_readWord 42 = .ok (.iload_n 2, 1) := by decide +kernel
theorem dX5_readWord_43 : decode cX5_readWord 43 = .ok (.ishr, 1) := by decide +kernel
theorem dX5_readWord_44 : decode cX5_readWord 44 = .ok (.iconst 1, 1) := by decide +kernel
theorem dX5_readWord_45 : decode cX5_readWord 45 = .ok (.iand, 1) := by decide +kernel
theorem dX5_readWord_46 : decode cX5_readWord 46 = .ok (.ifCond .ne 7, 3) := by decide +kernel
theorem dX5_readWord_49 : decode cX5_readWord 49 = .ok (.iconst 1, 1) := by decide +kernel
theorem dX5_readWord_50 : decode cX5_readWord 50 = .ok (.goto 4, 3) := by decide +kernel
theorem dX5_readWord_53 : decode cX5_readWord 53 = .ok (.iconst 0, 1) := by decide +kernel
theorem dX5_readWord_54 : decode cX5_readWord 54 = .ok (.istore_n 3, 1) := by decide +kernel
theorem dX5_readWord_55 : decode cX5_readWord 55 = .ok (.iload_n 3, 1) := by decide +kernel
theorem dX5_readWord_56 : decode cX5_readWord 56 = .ok (.ifCond .eq 34, 3) := by decide +kernel
theorem dX5_readWord_59 : decode cX5_readWord 59 = .ok (.aload_n 0, 1) := by decide +kernel
theorem dX5_readWord_60 : decode cX5_readWord 60 = .ok (.iload_n 2, 1) := by decide +kernel
theorem dX5_readWord_61 : decode cX5_readWord 61 = .ok (.invokestatic 65, 3) := by decide +kernel
theorem dX5_readWord_64 : decode cX5_readWord 64 = .ok (.iload_n 1, 1) := by decide +kernel
theorem dX5_readWord_65 : decode cX5_readWord 65 = .ok (.invokevirtual 69, 3) := by decide +kernel
theorem dX5_readWord_68 : decode cX5_readWord 68 = .ok (.ifCond .eq 22, 3) := by decide +kernel
theorem dX5_readWord_71 : decode cX5_readWord 71 = .ok (.aload_n 0, 1) := by decide +kernel
theorem dX5_readWord_72 : decode cX5_readWord 72 = .ok (.dup, 1) := by decide +kernel
theorem dX5_readWord_73 : decode cX5_readWord 73 = .ok (.getfield 35, 3) := by decide +kernel
theorem dX5_readWord_76 : decode cX5_readWord 76 = .ok (.iconst 1, 1) := by decide +kernel
theorem dX5_readWord_77 : decode cX5_readWord 77 = .ok (.iload_n 2, 1) := by decide +kernel
theorem dX5_readWord_78 : decode cX5_readWord 78 = .ok (.ishl, 1) := by decide +kernel
theorem dX5_readWord_79 : decode cX5_readWord 79 = .ok (.ior, 1) := by decide +kernel
theorem dX5_readWord_80 : decode cX5_readWord 80 = .ok (.putfield 35, 3) := by decide +kernel
theorem dX5_readWord_83 : decode cX5_readWord 83 = .ok (.aload_n 0, 1) := by decide +kernel
theorem dX5_readWord_84 : decode cX5_readWord 84 = .ok (.iload_n 1, 1) := by decide +kernel
theorem dX5_readWord_85 : decode cX5_readWord 85 = .ok (.putfield 32, 3) := by decide +kernel
theorem dX5_readWord_88 : decode cX5_readWord 88 = .ok (.iload_n 2, 1) := by decide +kernel
theorem dX5_readWord_89 : decode cX5_readWord 89 = .ok (.ireturn, 1) := by decide +kernel
theorem dX5_readWord_90 : decode cX5_readWord 90 = .ok (.iinc 2 1, 3) := by decide +kernel
theorem dX5_readWord_93 : decode cX5_readWord 93 = .ok (.goto (-61), 3) := by decide +kernel
theorem dX5_readWord_96 : decode cX5_readWord 96 = .ok (.iconst (-1), 1) := by decide +kernel
theorem dX5_readWord_97 : decode cX5_readWord 97 = .ok (.ireturn, 1) := by decide +kernel
theorem dX5_stands_0 : decode cX5_stands 0 = .ok (.aload_n 1, 1) := by decide +kernel
theorem dX5_stands_1 : decode cX5_stands 1 = .ok (.invokevirtual 73, 3) := by decide +kernel
theorem dX5_stands_4 : decode cX5_stands 4 = .ok (.iload_n 2, 1) := by decide +kernel
theorem dX5_stands_5 : decode cX5_stands 5 = .ok (.aload_n 0, 1) := by decide +kernel
theorem dX5_stands_6 : decode cX5_stands 6 = .ok (.getfield 32, 3) := by decide +kernel
theorem dX5_stands_9 : decode cX5_stands 9 = .ok (.isub, 1) := by decide +kernel
theorem dX5_stands_10 : decode cX5_stands 10 = .ok (.if_icmp .eq 5, 3) := by decide +kernel
theorem dX5_stands_13 : decode cX5_stands 13 = .ok (.iconst 0, 1) := by decide +kernel
theorem dX5_stands_14 : decode cX5_stands 14 = .ok (.ireturn, 1) := by decide +kernel
theorem dX5_stands_15 : decode cX5_stands 15 = .ok (.iconst 0, 1) := by decide +kernel
theorem dX5_stands_16 : decode cX5_stands 16 = .ok (.istore_n 3, 1) := by decide +kernel
theorem dX5_stands_17 : decode cX5_stands 17 = .ok (.iload_n 3, 1) := by decide +kernel
theorem dX5_stands_18 : decode cX5_stands 18 = .ok (.aload_n 1, 1) := by decide +kernel
theorem dX5_stands_19 : decode cX5_stands 19 = .ok (.invokevirtual 73, 3) := by decide +kernel
theorem dX5_stands_22 : decode cX5_stands 22 = .ok (.if_icmp .ge 29, 3) := by decide +kernel
theorem dX5_stands_25 : decode cX5_stands 25 = .ok (.aload_n 1, 1) := by decide +kernel
theorem dX5_stands_26 : decode cX5_stands 26 = .ok (.iload_n 3, 1) := by decide +kernel
theorem dX5_stands_27 : decode cX5_stands 27 = .ok (.invokevirtual 77, 3) := by decide +kernel
theorem dX5_stands_30 : decode cX5_stands 30 = .ok (.aload_n 0, 1) := by decide +kernel
theorem dX5_stands_31 : decode cX5_stands 31 = .ok (.aload_n 0, 1) := by decide +kernel
theorem dX5_stands_32 : decode cX5_stands 32 = .ok (.getfield 32, 3) := by decide +kernel
theorem dX5_stands_35 : decode cX5_stands 35 = .ok (.iload_n 3, 1) := by decide +kernel
theorem dX5_stands_36 : decode cX5_stands 36 = .ok (.iadd, 1) := by decide +kernel
theorem dX5_stands_37 : decode cX5_stands 37 = .ok (.invokevirtual 49, 3) := by decide +kernel
theorem dX5_stands_40 : decode cX5_stands 40 = .ok (.if_icmp .eq 5, 3) := by decide +kernel
theorem dX5_stands_43 : decode cX5_stands 43 = .ok (.iconst 0, 1) := by decide +kernel
theorem dX5_stands_44 : decode cX5_stands 44 = .ok (.ireturn, 1) := by decide +kernel
theorem dX5_stands_45 : decode cX5_stands 45 = .ok (.iinc 3 1, 3) := by decide +kernel
theorem dX5_stands_48 : decode cX5_stands 48 = .ok (.goto (-31), 3) := by decide +kernel
theorem dX5_stands_51 : decode cX5_stands 51 = .ok (.iconst 1, 1) := by decide +kernel
theorem dX5_stands_52 : decode cX5_stands 52 = .ok (.ireturn, 1) := by decide +kernel
theorem dX5_skipBlanks_0 : decode cX5_skipBlanks 0 = .ok (.aload_n 0, 1) := by decide +kernel
theorem dX5_skipBlanks_1 : decode cX5_skipBlanks 1 = .ok (.getfield 32, 3) := by decide +kernel
theorem dX5_skipBlanks_4 : decode cX5_skipBlanks 4 = .ok (.aload_n 0, 1) := by decide +kernel
theorem dX5_skipBlanks_5 : decode cX5_skipBlanks 5 = .ok (.getfield 19, 3) := by decide +kernel
theorem dX5_skipBlanks_8 : decode cX5_skipBlanks 8 = .ok (.if_icmp .ge 29, 3) := by decide +kernel
theorem dX5_skipBlanks_11 : decode cX5_skipBlanks 11 = .ok (.aload_n 0, 1) := by decide +kernel
theorem dX5_skipBlanks_12 : decode cX5_skipBlanks 12 = .ok (.aload_n 0, 1) := by decide +kernel
theorem dX5_skipBlanks_13 : decode cX5_skipBlanks 13 = .ok (.getfield 32, 3) := by decide +kernel
theorem dX5_skipBlanks_16 : decode cX5_skipBlanks 16 = .ok (.invokevirtual 49, 3) := by decide +kernel
theorem dX5_skipBlanks_19 : decode cX5_skipBlanks 19 = .ok (.bipush 32, 2) := by decide +kernel
theorem dX5_skipBlanks_21 : decode cX5_skipBlanks 21 = .ok (.if_icmp .ne 16, 3) := by decide +kernel
theorem dX5_skipBlanks_24 : decode cX5_skipBlanks 24 = .ok (.aload_n 0, 1) := by decide +kernel
theorem dX5_skipBlanks_25 : decode cX5_skipBlanks 25 = .ok (.dup, 1) := by decide +kernel
theorem dX5_skipBlanks_26 : decode cX5_skipBlanks 26 = .ok (.getfield 32, 3) := by decide +kernel
theorem dX5_skipBlanks_29 : decode cX5_skipBlanks 29 = .ok (.iconst 1, 1) := by decide +kernel
theorem dX5_skipBlanks_30 : decode cX5_skipBlanks 30 = .ok (.iadd, 1) := by decide +kernel
theorem dX5_skipBlanks_31 : decode cX5_skipBlanks 31 = .ok (.putfield 32, 3) := by decide +kernel
theorem dX5_skipBlanks_34 : decode cX5_skipBlanks 34 = .ok (.goto (-34), 3) := by decide +kernel
theorem dX5_skipBlanks_37 : decode cX5_skipBlanks 37 = .ok (.return_, 1) := by decide +kernel
theorem dX5_isDigit_0 : decode cX5_isDigit 0 = .ok (.iload_n 0, 1) := by decide +kernel
theorem dX5_isDigit_1 : decode cX5_isDigit 1 = .ok (.bipush 48, 2) := by decide +kernel
theorem dX5_isDigit_3 : decode cX5_isDigit 3 = .ok (.if_icmp .lt 13, 3) := by decide +kernel
theorem dX5_isDigit_6 : decode cX5_isDigit 6 = .ok (.iload_n 0, 1) := by decide +kernel
theorem dX5_isDigit_7 : decode cX5_isDigit 7 = .ok (.bipush 57, 2) := by decide +kernel
theorem dX5_isDigit_9 : decode cX5_isDigit 9 = .ok (.if_icmp .gt 7, 3) := by decide +kernel
theorem dX5_isDigit_12 : decode cX5_isDigit 12 = .ok (.iconst 1, 1) := by decide +kernel
theorem dX5_isDigit_13 : decode cX5_isDigit 13 = .ok (.goto 4, 3) := by decide +kernel
theorem dX5_isDigit_16 : decode cX5_isDigit 16 = .ok (.iconst 0, 1) := by decide +kernel
theorem dX5_isDigit_17 : decode cX5_isDigit 17 = .ok (.ireturn, 1) := by decide +kernel
theorem dX5_isLetter_0 : decode cX5_isLetter 0 = .ok (.iload_n 0, 1) := by decide +kernel
theorem dX5_isLetter_1 : decode cX5_isLetter 1 = .ok (.bipush 97, 2) := by decide +kernel
theorem dX5_isLetter_3 : decode cX5_isLetter 3 = .ok (.if_icmp .lt 13, 3) := by decide +kernel
theorem dX5_isLetter_6 : decode cX5_isLetter 6 = .ok (.iload_n 0, 1) := by decide +kernel
theorem dX5_isLetter_7 : decode cX5_isLetter 7 = .ok (.bipush 122, 2) := by decide +kernel
theorem dX5_isLetter_9 : decode cX5_isLetter 9 = .ok (.if_icmp .gt 7, 3) := by decide +kernel
theorem dX5_isLetter_12 : decode cX5_isLetter 12 = .ok (.iconst 1, 1) := by decide +kernel
theorem dX5_isLetter_13 : decode cX5_isLetter 13 = .ok (.goto 4, 3) := by decide +kernel
theorem dX5_isLetter_16 : decode cX5_isLetter 16 = .ok (.iconst 0, 1) := by decide +kernel
theorem dX5_isLetter_17 : decode cX5_isLetter 17 = .ok (.ireturn, 1) := by decide +kernel
theorem dX5_word_0 : decode cX5_word 0 = .ok (.iload_n 0, 1) := by decide +kernel
theorem dX5_word_1 : decode cX5_word 1 = .ok (.tableswitch 71 1 8 #[47, 50, 53, 56, 59, 62, 65, 68], 47) := by decide +kernel
theorem dX5_word_48 : decode cX5_word 48 = .ok (.ldc 81, 2) := by decide +kernel
theorem dX5_word_50 : decode cX5_word 50 = .ok (.areturn, 1) := by decide +kernel
theorem dX5_word_51 : decode cX5_word 51 = .ok (.ldc 83, 2) := by decide +kernel
theorem dX5_word_53 : decode cX5_word 53 = .ok (.areturn, 1) := by decide +kernel
theorem dX5_word_54 : decode cX5_word 54 = .ok (.ldc 85, 2) := by decide +kernel
theorem dX5_word_56 : decode cX5_word 56 = .ok (.areturn, 1) := by decide +kernel
theorem dX5_word_57 : decode cX5_word 57 = .ok (.ldc 87, 2) := by decide +kernel
theorem dX5_word_59 : decode cX5_word 59 = .ok (.areturn, 1) := by decide +kernel
theorem dX5_word_60 : decode cX5_word 60 = .ok (.ldc 89, 2) := by decide +kernel
theorem dX5_word_62 : decode cX5_word 62 = .ok (.areturn, 1) := by decide +kernel
theorem dX5_word_63 : decode cX5_word 63 = .ok (.ldc 91, 2) := by decide +kernel
theorem dX5_word_65 : decode cX5_word 65 = .ok (.areturn, 1) := by decide +kernel
theorem dX5_word_66 : decode cX5_word 66 = .ok (.ldc 93, 2) := by decide +kernel
theorem dX5_word_68 : decode cX5_word 68 = .ok (.areturn, 1) := by decide +kernel
theorem dX5_word_69 : decode cX5_word 69 = .ok (.ldc 95, 2) := by decide +kernel
theorem dX5_word_71 : decode cX5_word 71 = .ok (.areturn, 1) := by decide +kernel
theorem dX5_word_72 : decode cX5_word 72 = .ok (.ldc 97, 2) := by decide +kernel
theorem dX5_word_74 : decode cX5_word 74 = .ok (.areturn, 1) := by decide +kernel
theorem dX6_init_0 : decode cX6_init 0 = .ok (.aload_n 0, 1) := by decide +kernel
theorem dX6_init_1 : decode cX6_init 1 = .ok (.invokespecial 1, 3) := by decide +kernel
theorem dX6_init_4 : decode cX6_init 4 = .ok (.aload_n 0, 1) := by decide +kernel
theorem dX6_init_5 : decode cX6_init 5 = .ok (.new 7, 3) := by decide +kernel
theorem dX6_init_8 : decode cX6_init 8 = .ok (.dup, 1) := by decide +kernel
theorem dX6_init_9 : decode cX6_init 9 = .ok (.invokespecial 9, 3) := by decide +kernel
theorem dX6_init_12 : decode cX6_init 12 = .ok (.putfield 10, 3) := by decide +kernel
theorem dX6_init_15 : decode cX6_init 15 = .ok (.aload_n 0, 1) := by decide +kernel
theorem dX6_init_16 : decode cX6_init 16 = .ok (.new 16, 3) := by decide +kernel
theorem dX6_init_19 : decode cX6_init 19 = .ok (.dup, 1) := by decide +kernel
theorem dX6_init_20 : decode cX6_init 20 = .ok (.invokespecial 18, 3) := by decide +kernel
theorem dX6_init_23 : decode cX6_init 23 = .ok (.putfield 19, 3) := by decide +kernel
theorem dX6_init_26 : decode cX6_init 26 = .ok (.aload_n 0, 1) := by decide +kernel
theorem dX6_init_27 : decode cX6_init 27 = .ok (.new 23, 3) := by decide +kernel
theorem dX6_init_30 : decode cX6_init 30 = .ok (.dup, 1) := by decide +kernel
theorem dX6_init_31 : decode cX6_init 31 = .ok (.invokespecial 25, 3) := by decide +kernel
theorem dX6_init_34 : decode cX6_init 34 = .ok (.putfield 26, 3) := by decide +kernel
theorem dX6_init_37 : decode cX6_init 37 = .ok (.aload_n 0, 1) := by decide +kernel
theorem dX6_init_38 : decode cX6_init 38 = .ok (.new 30, 3) := by decide +kernel
theorem dX6_init_41 : decode cX6_init 41 = .ok (.dup, 1) := by decide +kernel
theorem dX6_init_42 : decode cX6_init 42 = .ok (.aload_n 0, 1) := by decide +kernel
theorem dX6_init_43 : decode cX6_init 43 = .ok (.getfield 19, 3) := by decide +kernel
theorem dX6_init_46 : decode cX6_init 46 = .ok (.invokespecial 32, 3) := by decide +kernel
theorem dX6_init_49 : decode cX6_init 49 = .ok (.putfield 35, 3) := by decide +kernel
theorem dX6_init_52 : decode cX6_init 52 = .ok (.aload_n 0, 1) := by decide +kernel
theorem dX6_init_53 : decode cX6_init 53 = .ok (.new 39, 3) := by decide +kernel
theorem dX6_init_56 : decode cX6_init 56 = .ok (.dup, 1) := by decide +kernel
theorem dX6_init_57 : decode cX6_init 57 = .ok (.aload_n 0, 1) := by decide +kernel
theorem dX6_init_58 : decode cX6_init 58 = .ok (.getfield 19, 3) := by decide +kernel
theorem dX6_init_61 : decode cX6_init 61 = .ok (.aload_n 0, 1) := by decide +kernel
theorem dX6_init_62 : decode cX6_init 62 = .ok (.getfield 35, 3) := by decide +kernel
theorem dX6_init_65 : decode cX6_init 65 = .ok (.invokespecial 41, 3) := by decide +kernel
theorem dX6_init_68 : decode cX6_init 68 = .ok (.putfield 44, 3) := by decide +kernel
theorem dX6_init_71 : decode cX6_init 71 = .ok (.aload_n 0, 1) := by decide +kernel
theorem dX6_init_72 : decode cX6_init 72 = .ok (.new 48, 3) := by decide +kernel
theorem dX6_init_75 : decode cX6_init 75 = .ok (.dup, 1) := by decide +kernel
theorem dX6_init_76 : decode cX6_init 76 = .ok (.aload_n 0, 1) := by decide +kernel
theorem dX6_init_77 : decode cX6_init 77 = .ok (.getfield 19, 3) := by decide +kernel
theorem dX6_init_80 : decode cX6_init 80 = .ok (.aload_n 0, 1) := by decide +kernel
theorem dX6_init_81 : decode cX6_init 81 = .ok (.getfield 35, 3) := by decide +kernel
theorem dX6_init_84 : decode cX6_init 84 = .ok (.aload_n 0, 1) := by decide +kernel
theorem dX6_init_85 : decode cX6_init 85 = .ok (.getfield 44, 3) := by decide +kernel
theorem dX6_init_88 : decode cX6_init 88 = .ok (.invokespecial 50, 3) := by decide +kernel
theorem dX6_init_91 : decode cX6_init 91 = .ok (.putfield 53, 3) := by decide +kernel
theorem dX6_init_94 : decode cX6_init 94 = .ok (.aload_n 0, 1) := by decide +kernel
theorem dX6_init_95 : decode cX6_init 95 = .ok (.new 39, 3) := by decide +kernel
theorem dX6_init_98 : decode cX6_init 98 = .ok (.dup, 1) := by decide +kernel
theorem dX6_init_99 : decode cX6_init 99 = .ok (.aload_n 0, 1) := by decide +kernel
theorem dX6_init_100 : decode cX6_init 100 = .ok (.getfield 19, 3) := by decide +kernel
theorem dX6_init_103 : decode cX6_init 103 = .ok (.aload_n 0, 1) := by decide +kernel
theorem dX6_init_104 : decode cX6_init 104 = .ok (.getfield 35, 3) := by decide +kernel
theorem dX6_init_107 : decode cX6_init 107 = .ok (.invokespecial 41, 3) := by decide +kernel
theorem dX6_init_110 : decode cX6_init 110 = .ok (.putfield 57, 3) := by decide +kernel
theorem dX6_init_113 : decode cX6_init 113 = .ok (.aload_n 0, 1) := by decide +kernel
theorem dX6_init_114 : decode cX6_init 114 = .ok (.iconst 0, 1) := by decide +kernel
theorem dX6_init_115 : decode cX6_init 115 = .ok (.putfield 60, 3) := by decide +kernel
theorem dX6_init_118 : decode cX6_init 118 = .ok (.return_, 1) := by decide +kernel
theorem dX6_type_0 : decode cX6_type 0 = .ok (.iload_n 1, 1) := by decide +kernel
theorem dX6_type_1 : decode cX6_type 1 = .ok (.ifCond .lt 9, 3) := by decide +kernel
theorem dX6_type_4 : decode cX6_type 4 = .ok (.iload_n 1, 1) := by decide +kernel
theorem dX6_type_5 : decode cX6_type 5 = .ok (.bipush 127, 2) := by decide +kernel
theorem dX6_type_7 : decode cX6_type 7 = .ok (.if_icmp .le 7, 3) := by decide +kernel
theorem dX6_type_10 : decode cX6_type 10 = .ok (.sipush (-1002), 3) := by decide +kernel
theorem dX6_type_13 : decode cX6_type 13 = .ok (.ireturn, 1) := by decide +kernel
theorem dX6_type_14 : decode cX6_type 14 = .ok (.aload_n 0, 1) := by decide +kernel
theorem dX6_type_15 : decode cX6_type 15 = .ok (.getfield 10, 3) := by decide +kernel
theorem dX6_type_18 : decode cX6_type 18 = .ok (.iload_n 1, 1) := by decide +kernel
theorem dX6_type_19 : decode cX6_type 19 = .ok (.invokevirtual 64, 3) := by decide +kernel
theorem dX6_type_22 : decode cX6_type 22 = .ok (.ifCond .eq 13, 3) := by decide +kernel
theorem dX6_type_25 : decode cX6_type 25 = .ok (.aload_n 0, 1) := by decide +kernel
theorem dX6_type_26 : decode cX6_type 26 = .ok (.getfield 10, 3) := by decide +kernel
theorem dX6_type_29 : decode cX6_type 29 = .ok (.getfield 68, 3) := by decide +kernel
theorem dX6_type_32 : decode cX6_type 32 = .ok (.goto 6, 3) := by decide +kernel
theorem dX6_type_35 : decode cX6_type 35 = .ok (.sipush (-1004), 3) := by decide +kernel
theorem dX6_type_38 : decode cX6_type 38 = .ok (.ireturn, 1) := by decide +kernel
theorem dX6_clear_0 : decode cX6_clear 0 = .ok (.aload_n 0, 1) := by decide +kernel
theorem dX6_clear_1 : decode cX6_clear 1 = .ok (.getfield 10, 3) := by decide +kernel
theorem dX6_clear_4 : decode cX6_clear 4 = .ok (.getfield 68, 3) := by decide +kernel
theorem dX6_clear_7 : decode cX6_clear 7 = .ok (.istore_n 1, 1) := by decide +kernel
theorem dX6_clear_8 : decode cX6_clear 8 = .ok (.aload_n 0, 1) := by decide +kernel
theorem dX6_clear_9 : decode cX6_clear 9 = .ok (.getfield 10, 3) := by decide +kernel
theorem dX6_clear_12 : decode cX6_clear 12 = .ok (.iconst 0, 1) := by decide +kernel
theorem dX6_clear_13 : decode cX6_clear 13 = .ok (.putfield 68, 3) := by decide +kernel
theorem dX6_clear_16 : decode cX6_clear 16 = .ok (.iload_n 1, 1) := by decide +kernel
theorem dX6_clear_17 : decode cX6_clear 17 = .ok (.ireturn, 1) := by decide +kernel
theorem dX6_insert_0 : decode cX6_insert 0 = .ok (.iload_n 1, 1) := by decide +kernel
theorem dX6_insert_1 : decode cX6_insert 1 = .ok (.ifCond .lt 14, 3) := by decide +kernel
theorem dX6_insert_4 : decode cX6_insert 4 = .ok (.iload_n 1, 1) := by decide +kernel
theorem dX6_insert_5 : decode cX6_insert 5 = .ok (.aload_n 0, 1) := by decide +kernel
theorem dX6_insert_6 : decode cX6_insert 6 = .ok (.getfield 19, 3) := by decide +kernel
theorem dX6_insert_9 : decode cX6_insert 9 = .ok (.getfield 72, 3) := by decide +kernel
theorem dX6_insert_12 : decode cX6_insert 12 = .ok (.if_icmp .le 7, 3) := by decide +kernel
theorem dX6_insert_15 : decode cX6_insert 15 = .ok (.sipush (-1002), 3) := by decide +kernel
theorem dX6_insert_18 : decode cX6_insert 18 = .ok (.ireturn, 1) := by decide +kernel
theorem dX6_insert_19 : decode cX6_insert 19 = .ok (.aload_n 0, 1) := by decide +kernel
theorem dX6_insert_20 : decode cX6_insert 20 = .ok (.getfield 10, 3) := by decide +kernel
theorem dX6_insert_23 : decode cX6_insert 23 = .ok (.invokevirtual 75, 3) := by decide +kernel
theorem dX6_insert_26 : decode cX6_insert 26 = .ok (.istore_n 2, 1) := by decide +kernel
theorem dX6_insert_27 : decode cX6_insert 27 = .ok (.iload_n 2, 1) := by decide +kernel
theorem dX6_insert_28 : decode cX6_insert 28 = .ok (.ifCond .lt 9, 3) := by decide +kernel
theorem dX6_insert_31 : decode cX6_insert 31 = .ok (.sipush (-2000), 3) := by decide +kernel
theorem dX6_insert_34 : decode cX6_insert 34 = .ok (.iload_n 2, 1) := by decide +kernel
theorem dX6_insert_35 : decode cX6_insert 35 = .ok (.isub, 1) := by decide +kernel
theorem dX6_insert_36 : decode cX6_insert 36 = .ok (.ireturn, 1) := by decide +kernel
theorem dX6_insert_37 : decode cX6_insert 37 = .ok (.aload_n 0, 1) := by decide +kernel
theorem dX6_insert_38 : decode cX6_insert 38 = .ok (.getfield 19, 3) := by decide +kernel
theorem dX6_insert_41 : decode cX6_insert 41 = .ok (.getfield 72, 3) := by decide +kernel
theorem dX6_insert_44 : decode cX6_insert 44 = .ok (.bipush 16, 2) := by decide +kernel
theorem dX6_insert_46 : decode cX6_insert 46 = .ok (.if_icmp .lt 7, 3) := by decide +kernel
theorem dX6_insert_49 : decode cX6_insert 49 = .ok (.sipush (-1004), 3) := by decide +kernel
theorem dX6_insert_52 : decode cX6_insert 52 = .ok (.ireturn, 1) := by decide +kernel
theorem dX6_insert_53 : decode cX6_insert 53 = .ok (.aload_n 0, 1) := by decide +kernel
theorem dX6_insert_54 : decode cX6_insert 54 = .ok (.invokevirtual 79, 3) := by decide +kernel
theorem dX6_insert_57 : decode cX6_insert 57 = .ok (.aload_n 0, 1) := by decide +kernel
theorem dX6_insert_58 : decode cX6_insert 58 = .ok (.getfield 19, 3) := by decide +kernel
theorem dX6_insert_61 : decode cX6_insert 61 = .ok (.aload_n 0, 1) := by decide +kernel
theorem dX6_insert_62 : decode cX6_insert 62 = .ok (.getfield 10, 3) := by decide +kernel
theorem dX6_insert_65 : decode cX6_insert 65 = .ok (.getfield 82, 3) := by decide +kernel
theorem dX6_insert_68 : decode cX6_insert 68 = .ok (.invokevirtual 86, 3) := by decide +kernel
theorem dX6_insert_71 : decode cX6_insert 71 = .ok (.aload_n 0, 1) := by decide +kernel
theorem dX6_insert_72 : decode cX6_insert 72 = .ok (.getfield 19, 3) := by decide +kernel
theorem dX6_insert_75 : decode cX6_insert 75 = .ok (.aload_n 0, 1) := by decide +kernel
theorem dX6_insert_76 : decode cX6_insert 76 = .ok (.getfield 19, 3) := by decide +kernel
theorem dX6_insert_79 : decode cX6_insert 79 = .ok (.getfield 72, 3) := by decide +kernel
theorem dX6_insert_82 : decode cX6_insert 82 = .ok (.iconst 1, 1) := by decide +kernel
theorem dX6_insert_83 : decode cX6_insert 83 = .ok (.isub, 1) := by decide +kernel
theorem dX6_insert_84 : decode cX6_insert 84 = .ok (.iload_n 1, 1) := by decide +kernel
theorem dX6_insert_85 : decode cX6_insert 85 = .ok (.invokevirtual 89, 3) := by decide +kernel
theorem dX6_insert_88 : decode cX6_insert 88 = .ok (.aload_n 0, 1) := by decide +kernel
theorem dX6_insert_89 : decode cX6_insert 89 = .ok (.getfield 19, 3) := by decide +kernel
theorem dX6_insert_92 : decode cX6_insert 92 = .ok (.getfield 72, 3) := by decide +kernel
theorem dX6_insert_95 : decode cX6_insert 95 = .ok (.ireturn, 1) := by decide +kernel
theorem dX6_remove_0 : decode cX6_remove 0 = .ok (.aload_n 0, 1) := by decide +kernel
theorem dX6_remove_1 : decode cX6_remove 1 = .ok (.getfield 19, 3) := by decide +kernel
theorem dX6_remove_4 : decode cX6_remove 4 = .ok (.iload_n 1, 1) := by decide +kernel
theorem dX6_remove_5 : decode cX6_remove 5 = .ok (.invokevirtual 93, 3) := by decide +kernel
theorem dX6_remove_8 : decode cX6_remove 8 = .ok (.ifCond .ne 7, 3) := by decide +kernel
theorem dX6_remove_11 : decode cX6_remove 11 = .ok (.sipush (-1002), 3) := by decide +kernel
theorem dX6_remove_14 : decode cX6_remove 14 = .ok (.ireturn, 1) := by decide +kernel
theorem dX6_remove_15 : decode cX6_remove 15 = .ok (.aload_n 0, 1) := by decide +kernel
theorem dX6_remove_16 : decode cX6_remove 16 = .ok (.invokevirtual 79, 3) := by decide +kernel
theorem dX6_remove_19 : decode cX6_remove 19 = .ok (.aload_n 0, 1) := by decide +kernel
theorem dX6_remove_20 : decode cX6_remove 20 = .ok (.getfield 19, 3) := by decide +kernel
theorem dX6_remove_23 : decode cX6_remove 23 = .ok (.iload_n 1, 1) := by decide +kernel
theorem dX6_remove_24 : decode cX6_remove 24 = .ok (.aload_n 0, 1) := by decide +kernel
theorem dX6_remove_25 : decode cX6_remove 25 = .ok (.getfield 19, 3) := by decide +kernel
theorem dX6_remove_28 : decode cX6_remove 28 = .ok (.getfield 72, 3) := by decide +kernel
theorem dX6_remove_31 : decode cX6_remove 31 = .ok (.iconst 1, 1) := by decide +kernel
theorem dX6_remove_32 : decode cX6_remove 32 = .ok (.isub, 1) := by decide +kernel
theorem dX6_remove_33 : decode cX6_remove 33 = .ok (.invokevirtual 89, 3) := by decide +kernel
theorem dX6_remove_36 : decode cX6_remove 36 = .ok (.aload_n 0, 1) := by decide +kernel
theorem dX6_remove_37 : decode cX6_remove 37 = .ok (.getfield 19, 3) := by decide +kernel
theorem dX6_remove_40 : decode cX6_remove 40 = .ok (.dup, 1) := by decide +kernel
theorem dX6_remove_41 : decode cX6_remove 41 = .ok (.getfield 72, 3) := by decide +kernel
theorem dX6_remove_44 : decode cX6_remove 44 = .ok (.iconst 1, 1) := by decide +kernel
theorem dX6_remove_45 : decode cX6_remove 45 = .ok (.isub, 1) := by decide +kernel
theorem dX6_remove_46 : decode cX6_remove 46 = .ok (.putfield 72, 3) := by decide +kernel
theorem dX6_remove_49 : decode cX6_remove 49 = .ok (.aload_n 0, 1) := by decide +kernel
theorem dX6_remove_50 : decode cX6_remove 50 = .ok (.getfield 19, 3) := by decide +kernel
theorem dX6_remove_53 : decode cX6_remove 53 = .ok (.getfield 72, 3) := by decide +kernel
theorem dX6_remove_56 : decode cX6_remove 56 = .ok (.ireturn, 1) := by decide +kernel
theorem dX6_move_0 : decode cX6_move 0 = .ok (.aload_n 0, 1) := by decide +kernel
theorem dX6_move_1 : decode cX6_move 1 = .ok (.getfield 19, 3) := by decide +kernel
theorem dX6_move_4 : decode cX6_move 4 = .ok (.iload_n 1, 1) := by decide +kernel
theorem dX6_move_5 : decode cX6_move 5 = .ok (.invokevirtual 93, 3) := by decide +kernel
theorem dX6_move_8 : decode cX6_move 8 = .ok (.ifCond .eq 14, 3) := by decide +kernel
theorem dX6_move_11 : decode cX6_move 11 = .ok (.aload_n 0, 1) := by decide +kernel
theorem dX6_move_12 : decode cX6_move 12 = .ok (.getfield 19, 3) := by decide +kernel
theorem dX6_move_15 : decode cX6_move 15 = .ok (.iload_n 2, 1) := by decide +kernel
theorem dX6_move_16 : decode cX6_move 16 = .ok (.invokevirtual 93, 3) := by decide +kernel
theorem dX6_move_19 : decode cX6_move 19 = .ok (.ifCond .ne 7, 3) := by decide +kernel
theorem dX6_move_22 : decode cX6_move 22 = .ok (.sipush (-1002), 3) := by decide +kernel
theorem dX6_move_25 : decode cX6_move 25 = .ok (.ireturn, 1) := by decide +kernel
theorem dX6_move_26 : decode cX6_move 26 = .ok (.aload_n 0, 1) := by decide +kernel
theorem dX6_move_27 : decode cX6_move 27 = .ok (.invokevirtual 79, 3) := by decide +kernel
theorem dX6_move_30 : decode cX6_move 30 = .ok (.aload_n 0, 1) := by decide +kernel
theorem dX6_move_31 : decode cX6_move 31 = .ok (.getfield 19, 3) := by decide +kernel
theorem dX6_move_34 : decode cX6_move 34 = .ok (.iload_n 1, 1) := by decide +kernel
theorem dX6_move_35 : decode cX6_move 35 = .ok (.iload_n 2, 1) := by decide +kernel
theorem dX6_move_36 : decode cX6_move 36 = .ok (.invokevirtual 89, 3) := by decide +kernel
theorem dX6_move_39 : decode cX6_move 39 = .ok (.aload_n 0, 1) := by decide +kernel
theorem dX6_move_40 : decode cX6_move 40 = .ok (.invokevirtual 96, 3) := by decide +kernel
theorem dX6_move_43 : decode cX6_move 43 = .ok (.aload_n 0, 1) := by decide +kernel
theorem dX6_move_44 : decode cX6_move 44 = .ok (.getfield 35, 3) := by decide +kernel
theorem dX6_move_47 : decode cX6_move 47 = .ok (.iload_n 2, 1) := by decide +kernel
theorem dX6_move_48 : decode cX6_move 48 = .ok (.invokevirtual 99, 3) := by decide +kernel
theorem dX6_move_51 : decode cX6_move 51 = .ok (.ireturn, 1) := by decide +kernel
theorem dX6_change_0 : decode cX6_change 0 = .ok (.aload_n 0, 1) := by decide +kernel
theorem dX6_change_1 : decode cX6_change 1 = .ok (.getfield 19, 3) := by decide +kernel
theorem dX6_change_4 : decode cX6_change 4 = .ok (.iload_n 1, 1) := by decide +kernel
theorem dX6_change_5 : decode cX6_change 5 = .ok (.invokevirtual 93, 3) := by decide +kernel
theorem dX6_change_8 : decode cX6_change 8 = .ok (.ifCond .eq 13, 3) := by decide +kernel
theorem dX6_change_11 : decode cX6_change 11 = .ok (.iload_n 2, 1) := by decide +kernel
theorem dX6_change_12 : decode cX6_change 12 = .ok (.ifCond .lt 9, 3) := by decide +kernel
theorem dX6_change_15 : decode cX6_change 15 = .ok (.iload_n 2, 1) := by decide +kernel
theorem dX6_change_16 : decode cX6_change 16 = .ok (.bipush 10, 2) := by decide +kernel
theorem dX6_change_18 : decode cX6_change 18 = .ok (.if_icmp .lt 7, 3) := by decide +kernel
theorem dX6_change_21 : decode cX6_change 21 = .ok (.sipush (-1002), 3) := by decide +kernel
theorem dX6_change_24 : decode cX6_change 24 = .ok (.ireturn, 1) := by decide +kernel
theorem dX6_change_25 : decode cX6_change 25 = .ok (.iload_n 3, 1) := by decide +kernel
theorem dX6_change_26 : decode cX6_change 26 = .ok (.getstatic 103, 3) := by decide +kernel
theorem dX6_change_29 : decode cX6_change 29 = .ok (.iload_n 2, 1) := by decide +kernel
theorem dX6_change_30 : decode cX6_change 30 = .ok (.iaload, 1) := by decide +kernel
theorem dX6_change_31 : decode cX6_change 31 = .ok (.if_icmp .lt 12, 3) := by decide +kernel
theorem dX6_change_34 : decode cX6_change 34 = .ok (.iload_n 3, 1) := by decide +kernel
theorem dX6_change_35 : decode cX6_change 35 = .ok (.getstatic 106, 3) := by decide +kernel
theorem dX6_change_38 : decode cX6_change 38 = .ok (.iload_n 2, 1) := by decide +kernel
theorem dX6_change_39 : decode cX6_change 39 = .ok (.iaload, 1) := by decide +kernel
theorem dX6_change_40 : decode cX6_change 40 = .ok (.if_icmp .le 7, 3) := by decide +kernel
theorem dX6_change_43 : decode cX6_change 43 = .ok (.sipush (-1002), 3) := by decide +kernel
theorem dX6_change_46 : decode cX6_change 46 = .ok (.ireturn, 1) := by decide +kernel
theorem dX6_change_47 : decode cX6_change 47 = .ok (.aload_n 0, 1) := by decide +kernel
theorem dX6_change_48 : decode cX6_change 48 = .ok (.invokevirtual 79, 3) := by decide +kernel
theorem dX6_change_51 : decode cX6_change 51 = .ok (.aload_n 0, 1) := by decide +kernel
theorem dX6_change_52 : decode cX6_change 52 = .ok (.getfield 19, 3) := by decide +kernel
theorem dX6_change_55 : decode cX6_change 55 = .ok (.iload_n 1, 1) := by decide +kernel
theorem dX6_change_56 : decode cX6_change 56 = .ok (.iload_n 2, 1) := by decide +kernel
theorem dX6_change_57 : decode cX6_change 57 = .ok (.invokevirtual 109, 3) := by decide +kernel
theorem dX6_change_60 : decode cX6_change 60 = .ok (.istore 4, 2) := by decide +kernel
theorem dX6_change_62 : decode cX6_change 62 = .ok (.aload_n 0, 1) := by decide +kernel
theorem dX6_change_63 : decode cX6_change 63 = .ok (.getfield 19, 3) := by decide +kernel
theorem dX6_change_66 : decode cX6_change 66 = .ok (.iload_n 1, 1) := by decide +kernel
theorem dX6_change_67 : decode cX6_change 67 = .ok (.iload_n 2, 1) := by decide +kernel
theorem dX6_change_68 : decode cX6_change 68 = .ok (.iload_n 3, 1) := by decide +kernel
theorem dX6_change_69 : decode cX6_change 69 = .ok (.invokevirtual 113, 3) := by decide +kernel
theorem dX6_change_72 : decode cX6_change 72 = .ok (.iload 4, 2) := by decide +kernel
theorem dX6_change_74 : decode cX6_change 74 = .ok (.ireturn, 1) := by decide +kernel
theorem dX6_hide_0 : decode cX6_hide 0 = .ok (.aload_n 0, 1) := by decide +kernel
theorem dX6_hide_1 : decode cX6_hide 1 = .ok (.getfield 19, 3) := by decide +kernel
theorem dX6_hide_4 : decode cX6_hide 4 = .ok (.iload_n 1, 1) := by decide +kernel
theorem dX6_hide_5 : decode cX6_hide 5 = .ok (.invokevirtual 93, 3) := by decide +kernel
theorem dX6_hide_8 : decode cX6_hide 8 = .ok (.ifCond .ne 7, 3) := by decide +kernel
theorem dX6_hide_11 : decode cX6_hide 11 = .ok (.sipush (-1002), 3) := by decide +kernel
theorem dX6_hide_14 : decode cX6_hide 14 = .ok (.ireturn, 1) := by decide +kernel
theorem dX6_hide_15 : decode cX6_hide 15 = .ok (.aload_n 0, 1) := by decide +kernel
theorem dX6_hide_16 : decode cX6_hide 16 = .ok (.invokevirtual 79, 3) := by decide +kernel
theorem dX6_hide_19 : decode cX6_hide 19 = .ok (.iconst 1, 1) := by decide +kernel
theorem dX6_hide_20 : decode cX6_hide 20 = .ok (.aload_n 0, 1) := by decide +kernel
theorem dX6_hide_21 : decode cX6_hide 21 = .ok (.getfield 19, 3) := by decide +kernel
theorem dX6_hide_24 : decode cX6_hide 24 = .ok (.iload_n 1, 1) := by decide +kernel
theorem dX6_hide_25 : decode cX6_hide 25 = .ok (.bipush 10, 2) := by decide +kernel
theorem dX6_hide_27 : decode cX6_hide 27 = .ok (.invokevirtual 109, 3) := by decide +kernel
theorem dX6_hide_30 : decode cX6_hide 30 = .ok (.isub, 1) := by decide +kernel
theorem dX6_hide_31 : decode cX6_hide 31 = .ok (.istore_n 2, 1) := by decide +kernel
theorem dX6_hide_32 : decode cX6_hide 32 = .ok (.aload_n 0, 1) := by decide +kernel
theorem dX6_hide_33 : decode cX6_hide 33 = .ok (.getfield 19, 3) := by decide +kernel
theorem dX6_hide_36 : decode cX6_hide 36 = .ok (.iload_n 1, 1) := by decide +kernel
theorem dX6_hide_37 : decode cX6_hide 37 = .ok (.bipush 10, 2) := by decide +kernel
theorem dX6_hide_39 : decode cX6_hide 39 = .ok (.iload_n 2, 1) := by decide +kernel
theorem dX6_hide_40 : decode cX6_hide 40 = .ok (.invokevirtual 113, 3) := by decide +kernel
theorem dX6_hide_43 : decode cX6_hide 43 = .ok (.iload_n 2, 1) := by decide +kernel
theorem dX6_hide_44 : decode cX6_hide 44 = .ok (.ireturn, 1) := by decide +kernel
theorem dX6_set_0 : decode cX6_set 0 = .ok (.iload_n 1, 1) := by decide +kernel
theorem dX6_set_1 : decode cX6_set 1 = .ok (.ifCond .lt 9, 3) := by decide +kernel
theorem dX6_set_4 : decode cX6_set 4 = .ok (.iload_n 1, 1) := by decide +kernel
theorem dX6_set_5 : decode cX6_set 5 = .ok (.bipush 7, 2) := by decide +kernel
theorem dX6_set_7 : decode cX6_set 7 = .ok (.if_icmp .lt 7, 3) := by decide +kernel
theorem dX6_set_10 : decode cX6_set 10 = .ok (.sipush (-1002), 3) := by decide +kernel
theorem dX6_set_13 : decode cX6_set 13 = .ok (.ireturn, 1) := by decide +kernel
theorem dX6_set_14 : decode cX6_set 14 = .ok (.iload_n 2, 1) := by decide +kernel
theorem dX6_set_15 : decode cX6_set 15 = .ok (.getstatic 117, 3) := by decide +kernel
theorem dX6_set_18 : decode cX6_set 18 = .ok (.iload_n 1, 1) := by decide +kernel
theorem dX6_set_19 : decode cX6_set 19 = .ok (.iaload, 1) := by decide +kernel
theorem dX6_set_20 : decode cX6_set 20 = .ok (.if_icmp .lt 12, 3) := by decide +kernel
theorem dX6_set_23 : decode cX6_set 23 = .ok (.iload_n 2, 1) := by decide +kernel
theorem dX6_set_24 : decode cX6_set 24 = .ok (.getstatic 120, 3) := by decide +kernel
theorem dX6_set_27 : decode cX6_set 27 = .ok (.iload_n 1, 1) := by decide +kernel
theorem dX6_set_28 : decode cX6_set 28 = .ok (.iaload, 1) := by decide +kernel
theorem dX6_set_29 : decode cX6_set 29 = .ok (.if_icmp .le 7, 3) := by decide +kernel
theorem dX6_set_32 : decode cX6_set 32 = .ok (.sipush (-1002), 3) := by decide +kernel
theorem dX6_set_35 : decode cX6_set 35 = .ok (.ireturn, 1) := by decide +kernel
theorem dX6_set_36 : decode cX6_set 36 = .ok (.aload_n 0, 1) := by decide +kernel
theorem dX6_set_37 : decode cX6_set 37 = .ok (.invokevirtual 79, 3) := by decide +kernel
theorem dX6_set_40 : decode cX6_set 40 = .ok (.aload_n 0, 1) := by decide +kernel
theorem dX6_set_41 : decode cX6_set 41 = .ok (.getfield 19, 3) := by decide +kernel
theorem dX6_set_44 : decode cX6_set 44 = .ok (.iload_n 1, 1) := by decide +kernel
theorem dX6_set_45 : decode cX6_set 45 = .ok (.invokevirtual 123, 3) := by decide +kernel
theorem dX6_set_48 : decode cX6_set 48 = .ok (.istore_n 3, 1) := by decide +kernel
theorem dX6_set_49 : decode cX6_set 49 = .ok (.aload_n 0, 1) := by decide +kernel
theorem dX6_set_50 : decode cX6_set 50 = .ok (.getfield 19, 3) := by decide +kernel
theorem dX6_set_53 : decode cX6_set 53 = .ok (.iload_n 1, 1) := by decide +kernel
theorem dX6_set_54 : decode cX6_set 54 = .ok (.iload_n 2, 1) := by decide +kernel
theorem dX6_set_55 : decode cX6_set 55 = .ok (.invokevirtual 126, 3) := by decide +kernel
theorem dX6_set_58 : decode cX6_set 58 = .ok (.iload_n 3, 1) := by decide +kernel
theorem dX6_set_59 : decode cX6_set 59 = .ok (.ireturn, 1) := by decide +kernel
theorem dX6_undo_0 : decode cX6_undo 0 = .ok (.aload_n 0, 1) := by decide +kernel
theorem dX6_undo_1 : decode cX6_undo 1 = .ok (.getfield 26, 3) := by decide +kernel
theorem dX6_undo_4 : decode cX6_undo 4 = .ok (.getfield 129, 3) := by decide +kernel
theorem dX6_undo_7 : decode cX6_undo 7 = .ok (.ifCond .ne 7, 3) := by decide +kernel
theorem dX6_undo_10 : decode cX6_undo 10 = .ok (.sipush (-1003), 3) := by decide +kernel
theorem dX6_undo_13 : decode cX6_undo 13 = .ok (.ireturn, 1) := by decide +kernel
theorem dX6_undo_14 : decode cX6_undo 14 = .ok (.aload_n 0, 1) := by decide +kernel
theorem dX6_undo_15 : decode cX6_undo 15 = .ok (.getfield 26, 3) := by decide +kernel
theorem dX6_undo_18 : decode cX6_undo 18 = .ok (.aload_n 0, 1) := by decide +kernel
theorem dX6_undo_19 : decode cX6_undo 19 = .ok (.getfield 19, 3) := by decide +kernel
theorem dX6_undo_22 : decode cX6_undo 22 = .ok (.invokevirtual 132, 3) := by decide +kernel
theorem dX6_undo_25 : decode cX6_undo 25 = .ok (.aload_n 0, 1) := by decide +kernel
theorem dX6_undo_26 : decode cX6_undo 26 = .ok (.iconst 0, 1) := by decide +kernel
theorem dX6_undo_27 : decode cX6_undo 27 = .ok (.putfield 60, 3) := by decide +kernel
theorem dX6_undo_30 : decode cX6_undo 30 = .ok (.aload_n 0, 1) := by decide +kernel
theorem dX6_undo_31 : decode cX6_undo 31 = .ok (.getfield 26, 3) := by decide +kernel
theorem dX6_undo_34 : decode cX6_undo 34 = .ok (.getfield 129, 3) := by decide +kernel
theorem dX6_undo_37 : decode cX6_undo 37 = .ok (.ireturn, 1) := by decide +kernel
theorem dX6_item_0 : decode cX6_item 0 = .ok (.aload_n 0, 1) := by decide +kernel
theorem dX6_item_1 : decode cX6_item 1 = .ok (.getfield 19, 3) := by decide +kernel
theorem dX6_item_4 : decode cX6_item 4 = .ok (.iload_n 1, 1) := by decide +kernel
theorem dX6_item_5 : decode cX6_item 5 = .ok (.invokevirtual 93, 3) := by decide +kernel
theorem dX6_item_8 : decode cX6_item 8 = .ok (.ifCond .eq 13, 3) := by decide +kernel
theorem dX6_item_11 : decode cX6_item 11 = .ok (.iload_n 2, 1) := by decide +kernel
theorem dX6_item_12 : decode cX6_item 12 = .ok (.ifCond .lt 9, 3) := by decide +kernel
theorem dX6_item_15 : decode cX6_item 15 = .ok (.iload_n 2, 1) := by decide +kernel
theorem dX6_item_16 : decode cX6_item 16 = .ok (.bipush 11, 2) := by decide +kernel
theorem dX6_item_18 : decode cX6_item 18 = .ok (.if_icmp .le 7, 3) := by decide +kernel
theorem dX6_item_21 : decode cX6_item 21 = .ok (.sipush (-1002), 3) := by decide +kernel
theorem dX6_item_24 : decode cX6_item 24 = .ok (.ireturn, 1) := by decide +kernel
theorem dX6_item_25 : decode cX6_item 25 = .ok (.iload_n 2, 1) := by decide +kernel
theorem dX6_item_26 : decode cX6_item 26 = .ok (.bipush 11, 2) := by decide +kernel
theorem dX6_item_28 : decode cX6_item 28 = .ok (.if_icmp .ne 14, 3) := by decide +kernel
theorem dX6_item_31 : decode cX6_item 31 = .ok (.aload_n 0, 1) := by decide +kernel
theorem dX6_item_32 : decode cX6_item 32 = .ok (.getfield 19, 3) := by decide +kernel
theorem dX6_item_35 : decode cX6_item 35 = .ok (.iload_n 1, 1) := by decide +kernel
theorem dX6_item_36 : decode cX6_item 36 = .ok (.invokevirtual 135, 3) := by decide +kernel
theorem dX6_item_39 : decode cX6_item 39 = .ok (.goto 12, 3) := by decide +kernel
theorem dX6_item_42 : decode cX6_item 42 = .ok (.aload_n 0, 1) := by decide +kernel
theorem dX6_item_43 : decode cX6_item 43 = .ok (.getfield 19, 3) := by decide +kernel
theorem dX6_item_46 : decode cX6_item 46 = .ok (.iload_n 1, 1) := by decide +kernel
theorem dX6_item_47 : decode cX6_item 47 = .ok (.iload_n 2, 1) := by decide +kernel
theorem dX6_item_48 : decode cX6_item 48 = .ok (.invokevirtual 109, 3) := by decide +kernel
theorem dX6_item_51 : decode cX6_item 51 = .ok (.ireturn, 1) := by decide +kernel
theorem dX6_lies_0 : decode cX6_lies 0 = .ok (.aload_n 0, 1) := by decide +kernel
theorem dX6_lies_1 : decode cX6_lies 1 = .ok (.getfield 19, 3) := by decide +kernel
theorem dX6_lies_4 : decode cX6_lies 4 = .ok (.iload_n 1, 1) := by decide +kernel
theorem dX6_lies_5 : decode cX6_lies 5 = .ok (.invokevirtual 93, 3) := by decide +kernel
theorem dX6_lies_8 : decode cX6_lies 8 = .ok (.ifCond .eq 13, 3) := by decide +kernel
theorem dX6_lies_11 : decode cX6_lies 11 = .ok (.iload_n 2, 1) := by decide +kernel
theorem dX6_lies_12 : decode cX6_lies 12 = .ok (.ifCond .lt 9, 3) := by decide +kernel
theorem dX6_lies_15 : decode cX6_lies 15 = .ok (.iload_n 2, 1) := by decide +kernel
theorem dX6_lies_16 : decode cX6_lies 16 = .ok (.bipush 7, 2) := by decide +kernel
theorem dX6_lies_18 : decode cX6_lies 18 = .ok (.if_icmp .le 7, 3) := by decide +kernel
theorem dX6_lies_21 : decode cX6_lies 21 = .ok (.sipush (-1002), 3) := by decide +kernel
theorem dX6_lies_24 : decode cX6_lies 24 = .ok (.ireturn, 1) := by decide +kernel
theorem dX6_lies_25 : decode cX6_lies 25 = .ok (.aload_n 0, 1) := by decide +kernel
theorem dX6_lies_26 : decode cX6_lies 26 = .ok (.getfield 19, 3) := by decide +kernel
theorem dX6_lies_29 : decode cX6_lies 29 = .ok (.iload_n 1, 1) := by decide +kernel
theorem dX6_lies_30 : decode cX6_lies 30 = .ok (.bipush 10, 2) := by decide +kernel
theorem dX6_lies_32 : decode cX6_lies 32 = .ok (.invokevirtual 109, 3) := by decide +kernel
theorem dX6_lies_35 : decode cX6_lies 35 = .ok (.ifCond .eq 7, 3) := by decide +kernel
theorem dX6_lies_38 : decode cX6_lies 38 = .ok (.sipush (-1003), 3) := by decide +kernel
theorem dX6_lies_41 : decode cX6_lies 41 = .ok (.ireturn, 1) := by decide +kernel
theorem dX6_lies_42 : decode cX6_lies 42 = .ok (.aload_n 0, 1) := by decide +kernel
theorem dX6_lies_43 : decode cX6_lies 43 = .ok (.invokevirtual 96, 3) := by decide +kernel
theorem dX6_lies_46 : decode cX6_lies 46 = .ok (.aload_n 0, 1) := by decide +kernel
theorem dX6_lies_47 : decode cX6_lies 47 = .ok (.aload_n 0, 1) := by decide +kernel
theorem dX6_lies_48 : decode cX6_lies 48 = .ok (.getfield 35, 3) := by decide +kernel
theorem dX6_lies_51 : decode cX6_lies 51 = .ok (.iload_n 1, 1) := by decide +kernel
theorem dX6_lies_52 : decode cX6_lies 52 = .ok (.invokevirtual 99, 3) := by decide +kernel
theorem dX6_lies_55 : decode cX6_lies 55 = .ok (.iload_n 2, 1) := by decide +kernel
theorem dX6_lies_56 : decode cX6_lies 56 = .ok (.invokevirtual 138, 3) := by decide +kernel
theorem dX6_lies_59 : decode cX6_lies 59 = .ok (.ireturn, 1) := by decide +kernel
theorem dX6_ordered_0 : decode cX6_ordered 0 = .ok (.iload_n 1, 1) := by decide +kernel
theorem dX6_ordered_1 : decode cX6_ordered 1 = .ok (.ifCond .ge 7, 3) := by decide +kernel
theorem dX6_ordered_4 : decode cX6_ordered 4 = .ok (.sipush (-1002), 3) := by decide +kernel
theorem dX6_ordered_7 : decode cX6_ordered 7 = .ok (.ireturn, 1) := by decide +kernel
theorem dX6_ordered_8 : decode cX6_ordered 8 = .ok (.aload_n 0, 1) := by decide +kernel
theorem dX6_ordered_9 : decode cX6_ordered 9 = .ok (.invokevirtual 96, 3) := by decide +kernel
theorem dX6_ordered_12 : decode cX6_ordered 12 = .ok (.iload_n 1, 1) := by decide +kernel
theorem dX6_ordered_13 : decode cX6_ordered 13 = .ok (.aload_n 0, 1) := by decide +kernel
theorem dX6_ordered_14 : decode cX6_ordered 14 = .ok (.getfield 35, 3) := by decide +kernel
theorem dX6_ordered_17 : decode cX6_ordered 17 = .ok (.getfield 141, 3) := by decide +kernel
theorem dX6_ordered_20 : decode cX6_ordered 20 = .ok (.if_icmp .ge 14, 3) := by decide +kernel
theorem dX6_ordered_23 : decode cX6_ordered 23 = .ok (.aload_n 0, 1) := by decide +kernel
theorem dX6_ordered_24 : decode cX6_ordered 24 = .ok (.getfield 35, 3) := by decide +kernel
theorem dX6_ordered_27 : decode cX6_ordered 27 = .ok (.iload_n 1, 1) := by decide +kernel
theorem dX6_ordered_28 : decode cX6_ordered 28 = .ok (.invokevirtual 144, 3) := by decide +kernel
theorem dX6_ordered_31 : decode cX6_ordered 31 = .ok (.goto 6, 3) := by decide +kernel
theorem dX6_ordered_34 : decode cX6_ordered 34 = .ok (.sipush (-1001), 3) := by decide +kernel
theorem dX6_ordered_37 : decode cX6_ordered 37 = .ok (.ireturn, 1) := by decide +kernel
theorem dX6_line_0 : decode cX6_line 0 = .ok (.iload_n 1, 1) := by decide +kernel
theorem dX6_line_1 : decode cX6_line 1 = .ok (.ifCond .lt 13, 3) := by decide +kernel
theorem dX6_line_4 : decode cX6_line 4 = .ok (.iload_n 2, 1) := by decide +kernel
theorem dX6_line_5 : decode cX6_line 5 = .ok (.ifCond .lt 9, 3) := by decide +kernel
theorem dX6_line_8 : decode cX6_line 8 = .ok (.iload_n 2, 1) := by decide +kernel
theorem dX6_line_9 : decode cX6_line 9 = .ok (.bipush 7, 2) := by decide +kernel
theorem dX6_line_11 : decode cX6_line 11 = .ok (.if_icmp .le 7, 3) := by decide +kernel
theorem dX6_line_14 : decode cX6_line 14 = .ok (.sipush (-1002), 3) := by decide +kernel
theorem dX6_line_17 : decode cX6_line 17 = .ok (.ireturn, 1) := by decide +kernel
theorem dX6_line_18 : decode cX6_line 18 = .ok (.aload_n 0, 1) := by decide +kernel
theorem dX6_line_19 : decode cX6_line 19 = .ok (.invokevirtual 96, 3) := by decide +kernel
theorem dX6_line_22 : decode cX6_line 22 = .ok (.iload_n 1, 1) := by decide +kernel
theorem dX6_line_23 : decode cX6_line 23 = .ok (.aload_n 0, 1) := by decide +kernel
theorem dX6_line_24 : decode cX6_line 24 = .ok (.getfield 44, 3) := by decide +kernel
theorem dX6_line_27 : decode cX6_line 27 = .ok (.getfield 147, 3) := by decide +kernel
theorem dX6_line_30 : decode cX6_line 30 = .ok (.if_icmp .ge 12, 3) := by decide +kernel
theorem dX6_line_33 : decode cX6_line 33 = .ok (.aload_n 0, 1) := by decide +kernel
theorem dX6_line_34 : decode cX6_line 34 = .ok (.iload_n 1, 1) := by decide +kernel
theorem dX6_line_35 : decode cX6_line 35 = .ok (.iload_n 2, 1) := by decide +kernel
theorem dX6_line_36 : decode cX6_line 36 = .ok (.invokevirtual 149, 3) := by decide +kernel
theorem dX6_line_39 : decode cX6_line 39 = .ok (.goto 6, 3) := by decide +kernel
theorem dX6_line_42 : decode cX6_line 42 = .ok (.sipush (-1001), 3) := by decide +kernel
theorem dX6_line_45 : decode cX6_line 45 = .ok (.ireturn, 1) := by decide +kernel
theorem dX6_at_0 : decode cX6_at 0 = .ok (.iload_n 1, 1) := by decide +kernel
theorem dX6_at_1 : decode cX6_at 1 = .ok (.sipush (-2000), 3) := by decide +kernel
theorem dX6_at_4 : decode cX6_at 4 = .ok (.if_icmp .lt 21, 3) := by decide +kernel
theorem dX6_at_7 : decode cX6_at 7 = .ok (.iload_n 1, 1) := by decide +kernel
theorem dX6_at_8 : decode cX6_at 8 = .ok (.sipush 2000, 3) := by decide +kernel
theorem dX6_at_11 : decode cX6_at 11 = .ok (.if_icmp .gt 14, 3) := by decide +kernel
theorem dX6_at_14 : decode cX6_at 14 = .ok (.iload_n 2, 1) := by decide +kernel
theorem dX6_at_15 : decode cX6_at 15 = .ok (.ifCond .lt 10, 3) := by decide +kernel
theorem dX6_at_18 : decode cX6_at 18 = .ok (.iload_n 2, 1) := by decide +kernel
theorem dX6_at_19 : decode cX6_at 19 = .ok (.sipush 5000, 3) := by decide +kernel
theorem dX6_at_22 : decode cX6_at 22 = .ok (.if_icmp .le 7, 3) := by decide +kernel
theorem dX6_at_25 : decode cX6_at 25 = .ok (.sipush (-1002), 3) := by decide +kernel
theorem dX6_at_28 : decode cX6_at 28 = .ok (.ireturn, 1) := by decide +kernel
theorem dX6_at_29 : decode cX6_at 29 = .ok (.aload_n 0, 1) := by decide +kernel
theorem dX6_at_30 : decode cX6_at 30 = .ok (.invokevirtual 96, 3) := by decide +kernel
theorem dX6_at_33 : decode cX6_at 33 = .ok (.aload_n 0, 1) := by decide +kernel
theorem dX6_at_34 : decode cX6_at 34 = .ok (.getfield 35, 3) := by decide +kernel
theorem dX6_at_37 : decode cX6_at 37 = .ok (.getfield 141, 3) := by decide +kernel
theorem dX6_at_40 : decode cX6_at 40 = .ok (.iconst 1, 1) := by decide +kernel
theorem dX6_at_41 : decode cX6_at 41 = .ok (.isub, 1) := by decide +kernel
theorem dX6_at_42 : decode cX6_at 42 = .ok (.istore_n 3, 1) := by decide +kernel
theorem dX6_at_43 : decode cX6_at 43 = .ok (.iload_n 3, 1) := by decide +kernel
theorem dX6_at_44 : decode cX6_at 44 = .ok (.ifCond .lt 31, 3) := by decide +kernel
theorem dX6_at_47 : decode cX6_at 47 = .ok (.aload_n 0, 1) := by decide +kernel
theorem dX6_at_48 : decode cX6_at 48 = .ok (.getfield 53, 3) := by decide +kernel
theorem dX6_at_51 : decode cX6_at 51 = .ok (.iload_n 3, 1) := by decide +kernel
theorem dX6_at_52 : decode cX6_at 52 = .ok (.iload_n 1, 1) := by decide +kernel
theorem dX6_at_53 : decode cX6_at 53 = .ok (.iload_n 2, 1) := by decide +kernel
theorem dX6_at_54 : decode cX6_at 54 = .ok (.invokevirtual 152, 3) := by decide +kernel
theorem dX6_at_57 : decode cX6_at 57 = .ok (.ifCond .eq 12, 3) := by decide +kernel
theorem dX6_at_60 : decode cX6_at 60 = .ok (.aload_n 0, 1) := by decide +kernel
theorem dX6_at_61 : decode cX6_at 61 = .ok (.getfield 35, 3) := by decide +kernel
theorem dX6_at_64 : decode cX6_at 64 = .ok (.iload_n 3, 1) := by decide +kernel
theorem dX6_at_65 : decode cX6_at 65 = .ok (.invokevirtual 144, 3) := by decide +kernel
theorem dX6_at_68 : decode cX6_at 68 = .ok (.ireturn, 1) := by decide +kernel
theorem dX6_at_69 : decode cX6_at 69 = .ok (.iinc 3 (-1), 3) := by decide +kernel
theorem dX6_at_72 : decode cX6_at 72 = .ok (.goto (-29), 3) := by decide +kernel
theorem dX6_at_75 : decode cX6_at 75 = .ok (.sipush (-1001), 3) := by decide +kernel
theorem dX6_at_78 : decode cX6_at 78 = .ok (.ireturn, 1) := by decide +kernel
theorem dX6_leastWidth_0 : decode cX6_leastWidth 0 = .ok (.iload_n 1, 1) := by decide +kernel
theorem dX6_leastWidth_1 : decode cX6_leastWidth 1 = .ok (.ifCond .ne 18, 3) := by decide +kernel
theorem dX6_leastWidth_4 : decode cX6_leastWidth 4 = .ok (.iload_n 2, 1) := by decide +kernel
theorem dX6_leastWidth_5 : decode cX6_leastWidth 5 = .ok (.iconst 1, 1) := by decide +kernel
theorem dX6_leastWidth_6 : decode cX6_leastWidth 6 = .ok (.if_icmp .lt 13, 3) := by decide +kernel
theorem dX6_leastWidth_9 : decode cX6_leastWidth 9 = .ok (.iload_n 2, 1) := by decide +kernel
theorem dX6_leastWidth_10 : decode cX6_leastWidth 10 = .ok (.bipush 16, 2) := by decide +kernel
theorem dX6_leastWidth_12 : decode cX6_leastWidth 12 = .ok (.if_icmp .gt 7, 3) := by decide +kernel
theorem dX6_leastWidth_15 : decode cX6_leastWidth 15 = .ok (.iconst 1, 1) := by decide +kernel
theorem dX6_leastWidth_16 : decode cX6_leastWidth 16 = .ok (.goto 4, 3) := by decide +kernel
theorem dX6_leastWidth_19 : decode cX6_leastWidth 19 = .ok (.iconst 0, 1) := by decide +kernel
theorem dX6_leastWidth_20 : decode cX6_leastWidth 20 = .ok (.istore_n 3, 1) := by decide +kernel
theorem dX6_leastWidth_21 : decode cX6_leastWidth 21 = .ok (.iload_n 1, 1) := by decide +kernel
theorem dX6_leastWidth_22 : decode cX6_leastWidth 22 = .ok (.iconst 1, 1) := by decide +kernel
theorem dX6_leastWidth_23 : decode cX6_leastWidth 23 = .ok (.if_icmp .ne 11, 3) := by decide +kernel
theorem dX6_leastWidth_26 : decode cX6_leastWidth 26 = .ok (.iload_n 2, 1) := by decide +kernel
theorem dX6_leastWidth_27 : decode cX6_leastWidth 27 = .ok (.ifCond .ne 7, 3) := by decide +kernel
theorem dX6_leastWidth_30 : decode cX6_leastWidth 30 = .ok (.iconst 1, 1) := by decide +kernel
theorem dX6_leastWidth_31 : decode cX6_leastWidth 31 = .ok (.goto 4, 3) := by decide +kernel
theorem dX6_leastWidth_34 : decode cX6_leastWidth 34 = .ok (.iconst 0, 1) := by decide +kernel
theorem dX6_leastWidth_35 : decode cX6_leastWidth 35 = .ok (.istore 4, 2) := by decide +kernel
theorem dX6_leastWidth_37 : decode cX6_leastWidth 37 = .ok (.iload_n 3, 1) := by decide +kernel
theorem dX6_leastWidth_38 : decode cX6_leastWidth 38 = .ok (.ifCond .ne 12, 3) := by decide +kernel
theorem dX6_leastWidth_41 : decode cX6_leastWidth 41 = .ok (.iload 4, 2) := by decide +kernel
theorem dX6_leastWidth_43 : decode cX6_leastWidth 43 = .ok (.ifCond .ne 7, 3) := by decide +kernel
theorem dX6_leastWidth_46 : decode cX6_leastWidth 46 = .ok (.sipush (-1002), 3) := by decide +kernel
theorem dX6_leastWidth_49 : decode cX6_leastWidth 49 = .ok (.ireturn, 1) := by decide +kernel
theorem dX6_leastWidth_50 : decode cX6_leastWidth 50 = .ok (.aload_n 0, 1) := by decide +kernel
theorem dX6_leastWidth_51 : decode cX6_leastWidth 51 = .ok (.getfield 35, 3) := by decide +kernel
theorem dX6_leastWidth_54 : decode cX6_leastWidth 54 = .ok (.invokevirtual 156, 3) := by decide +kernel
theorem dX6_leastWidth_57 : decode cX6_leastWidth 57 = .ok (.bipush 20, 2) := by decide +kernel
theorem dX6_leastWidth_59 : decode cX6_leastWidth 59 = .ok (.istore 5, 2) := by decide +kernel
theorem dX6_leastWidth_61 : decode cX6_leastWidth 61 = .ok (.iload 5, 2) := by decide +kernel
theorem dX6_leastWidth_63 : decode cX6_leastWidth 63 = .ok (.sipush 999, 3) := by decide +kernel
theorem dX6_leastWidth_66 : decode cX6_leastWidth 66 = .ok (.if_icmp .gt 49, 3) := by decide +kernel
theorem dX6_leastWidth_69 : decode cX6_leastWidth 69 = .ok (.aload_n 0, 1) := by decide +kernel
theorem dX6_leastWidth_70 : decode cX6_leastWidth 70 = .ok (.getfield 57, 3) := by decide +kernel
theorem dX6_leastWidth_73 : decode cX6_leastWidth 73 = .ok (.iload 5, 2) := by decide +kernel
theorem dX6_leastWidth_75 : decode cX6_leastWidth 75 = .ok (.invokevirtual 159, 3) := by decide +kernel
theorem dX6_leastWidth_78 : decode cX6_leastWidth 78 = .ok (.iload_n 3, 1) := by decide +kernel
theorem dX6_leastWidth_79 : decode cX6_leastWidth 79 = .ok (.ifCond .eq 17, 3) := by decide +kernel
theorem dX6_leastWidth_82 : decode cX6_leastWidth 82 = .ok (.aload_n 0, 1) := by decide +kernel
theorem dX6_leastWidth_83 : decode cX6_leastWidth 83 = .ok (.getfield 57, 3) := by decide +kernel
theorem dX6_leastWidth_86 : decode cX6_leastWidth 86 = .ok (.getfield 147, 3) := by decide +kernel
theorem dX6_leastWidth_89 : decode cX6_leastWidth 89 = .ok (.iload_n 2, 1) := by decide +kernel
theorem dX6_leastWidth_90 : decode cX6_leastWidth 90 = .ok (.if_icmp .gt 19, 3) := by decide +kernel
theorem dX6_leastWidth_93 : decode cX6_leastWidth 93 = .ok (.goto 13, 3) := by decide +kernel
theorem dX6_leastWidth_96 : decode cX6_leastWidth 96 = .ok (.aload_n 0, 1) := by decide +kernel
theorem dX6_leastWidth_97 : decode cX6_leastWidth 97 = .ok (.getfield 57, 3) := by decide +kernel
theorem dX6_leastWidth_100 : decode cX6_leastWidth 100 = .ok (.invokevirtual 163, 3) := by decide +kernel
theorem dX6_leastWidth_103 : decode cX6_leastWidth 103 = .ok (.ifCond .eq 6, 3) := by decide +kernel
theorem dX6_leastWidth_106 : decode cX6_leastWidth 106 = .ok (.iload 5, 2) := by decide +kernel
theorem dX6_leastWidth_108 : decode cX6_leastWidth 108 = .ok (.ireturn, 1) := by decide +kernel
theorem dX6_leastWidth_109 : decode cX6_leastWidth 109 = .ok (.iinc 5 1, 3) := by decide +kernel
theorem dX6_leastWidth_112 : decode cX6_leastWidth 112 = .ok (.goto (-51), 3) := by decide +kernel
theorem dX6_leastWidth_115 : decode cX6_leastWidth 115 = .ok (.sipush (-1001), 3) := by decide +kernel
theorem dX6_leastWidth_118 : decode cX6_leastWidth 118 = .ok (.ireturn, 1) := by decide +kernel
theorem dX6_count_0 : decode cX6_count 0 = .ok (.iload_n 1, 1) := by decide +kernel
theorem dX6_count_1 : decode cX6_count 1 = .ok (.ifCond .lt 9, 3) := by decide +kernel
theorem dX6_count_4 : decode cX6_count 4 = .ok (.iload_n 1, 1) := by decide +kernel
theorem dX6_count_5 : decode cX6_count 5 = .ok (.bipush 13, 2) := by decide +kernel
theorem dX6_count_7 : decode cX6_count 7 = .ok (.if_icmp .le 7, 3) := by decide +kernel
theorem dX6_count_10 : decode cX6_count 10 = .ok (.sipush (-1002), 3) := by decide +kernel
theorem dX6_count_13 : decode cX6_count 13 = .ok (.ireturn, 1) := by decide +kernel
theorem dX6_count_14 : decode cX6_count 14 = .ok (.aload_n 0, 1) := by decide +kernel
theorem dX6_count_15 : decode cX6_count 15 = .ok (.invokevirtual 96, 3) := by decide +kernel
theorem dX6_count_18 : decode cX6_count 18 = .ok (.aload_n 0, 1) := by decide +kernel
theorem dX6_count_19 : decode cX6_count 19 = .ok (.iload_n 1, 1) := by decide +kernel
theorem dX6_count_20 : decode cX6_count 20 = .ok (.invokevirtual 167, 3) := by decide +kernel
theorem dX6_count_23 : decode cX6_count 23 = .ok (.ireturn, 1) := by decide +kernel
theorem dX6_digest_0 : decode cX6_digest 0 = .ok (.aload_n 0, 1) := by decide +kernel
theorem dX6_digest_1 : decode cX6_digest 1 = .ok (.invokevirtual 96, 3) := by decide +kernel
theorem dX6_digest_4 : decode cX6_digest 4 = .ok (.ldc2_w 170, 3) := by decide +kernel
theorem dX6_digest_7 : decode cX6_digest 7 = .ok (.lstore_n 1, 1) := by decide +kernel
theorem dX6_digest_8 : decode cX6_digest 8 = .ok (.iconst 0, 1) := by decide +kernel
theorem dX6_digest_9 : decode cX6_digest 9 = .ok (.istore_n 3, 1) := by decide +kernel
theorem dX6_digest_10 : decode cX6_digest 10 = .ok (.iload_n 3, 1) := by decide +kernel
theorem dX6_digest_11 : decode cX6_digest 11 = .ok (.bipush 13, 2) := by decide +kernel
theorem dX6_digest_13 : decode cX6_digest 13 = .ok (.if_icmp .gt 22, 3) := by decide +kernel
theorem dX6_digest_16 : decode cX6_digest 16 = .ok (.lload_n 1, 1) := by decide +kernel
theorem dX6_digest_17 : decode cX6_digest 17 = .ok (.ldc2_w 172, 3) := by decide +kernel
theorem dX6_digest_20 : decode cX6_digest 20 = .ok (.lmul, 1) := by decide +kernel
theorem dX6_digest_21 : decode cX6_digest 21 = .ok (.aload_n 0, 1) := by decide +kernel
theorem dX6_digest_22 : decode cX6_digest 22 = .ok (.iload_n 3, 1) := by decide +kernel
theorem dX6_digest_23 : decode cX6_digest 23 = .ok (.invokevirtual 167, 3) := by decide +kernel
theorem dX6_digest_26 : decode cX6_digest 26 = .ok (.i2l, 1) := by decide +kernel
theorem dX6_digest_27 : decode cX6_digest 27 = .ok (.ladd, 1) := by decide +kernel
theorem dX6_digest_28 : decode cX6_digest 28 = .ok (.lstore_n 1, 1) := by decide +kernel
theorem dX6_digest_29 : decode cX6_digest 29 = .ok (.iinc 3 1, 3) := by decide +kernel
theorem dX6_digest_32 : decode cX6_digest 32 = .ok (.goto (-22), 3) := by decide +kernel
theorem dX6_digest_35 : decode cX6_digest 35 = .ok (.iconst 0, 1) := by decide +kernel
theorem dX6_digest_36 : decode cX6_digest 36 = .ok (.istore_n 3, 1) := by decide +kernel
theorem dX6_digest_37 : decode cX6_digest 37 = .ok (.iload_n 3, 1) := by decide +kernel
theorem dX6_digest_38 : decode cX6_digest 38 = .ok (.aload_n 0, 1) := by decide +kernel
theorem dX6_digest_39 : decode cX6_digest 39 = .ok (.getfield 19, 3) := by decide +kernel
theorem dX6_digest_42 : decode cX6_digest 42 = .ok (.getfield 72, 3) := by decide +kernel
theorem dX6_digest_45 : decode cX6_digest 45 = .ok (.if_icmp .ge 16, 3) := by decide +kernel
theorem dX6_digest_48 : decode cX6_digest 48 = .ok (.aload_n 0, 1) := by decide +kernel
theorem dX6_digest_49 : decode cX6_digest 49 = .ok (.lload_n 1, 1) := by decide +kernel
theorem dX6_digest_50 : decode cX6_digest 50 = .ok (.iload_n 3, 1) := by decide +kernel
theorem dX6_digest_51 : decode cX6_digest 51 = .ok (.invokevirtual 174, 3) := by decide +kernel
theorem dX6_digest_54 : decode cX6_digest 54 = .ok (.lstore_n 1, 1) := by decide +kernel
theorem dX6_digest_55 : decode cX6_digest 55 = .ok (.iinc 3 1, 3) := by decide +kernel
theorem dX6_digest_58 : decode cX6_digest 58 = .ok (.goto (-21), 3) := by decide +kernel
theorem dX6_digest_61 : decode cX6_digest 61 = .ok (.iconst 0, 1) := by decide +kernel
theorem dX6_digest_62 : decode cX6_digest 62 = .ok (.istore_n 3, 1) := by decide +kernel
theorem dX6_digest_63 : decode cX6_digest 63 = .ok (.iload_n 3, 1) := by decide +kernel
theorem dX6_digest_64 : decode cX6_digest 64 = .ok (.aload_n 0, 1) := by decide +kernel
theorem dX6_digest_65 : decode cX6_digest 65 = .ok (.getfield 44, 3) := by decide +kernel
theorem dX6_digest_68 : decode cX6_digest 68 = .ok (.getfield 147, 3) := by decide +kernel
theorem dX6_digest_71 : decode cX6_digest 71 = .ok (.if_icmp .ge 40, 3) := by decide +kernel
theorem dX6_digest_74 : decode cX6_digest 74 = .ok (.iconst 0, 1) := by decide +kernel
theorem dX6_digest_75 : decode cX6_digest 75 = .ok (.istore 4, 2) := by decide +kernel
theorem dX6_digest_77 : decode cX6_digest 77 = .ok (.iload 4, 2) := by decide +kernel
theorem dX6_digest_79 : decode cX6_digest 79 = .ok (.bipush 7, 2) := by decide +kernel
theorem dX6_digest_81 : decode cX6_digest 81 = .ok (.if_icmp .gt 24, 3) := by decide +kernel
theorem dX6_digest_84 : decode cX6_digest 84 = .ok (.lload_n 1, 1) := by decide +kernel
theorem dX6_digest_85 : decode cX6_digest 85 = .ok (.ldc2_w 172, 3) := by decide +kernel
theorem dX6_digest_88 : decode cX6_digest 88 = .ok (.lmul, 1) := by decide +kernel
theorem dX6_digest_89 : decode cX6_digest 89 = .ok (.aload_n 0, 1) := by decide +kernel
theorem dX6_digest_90 : decode cX6_digest 90 = .ok (.iload_n 3, 1) := by decide +kernel
theorem dX6_digest_91 : decode cX6_digest 91 = .ok (.iload 4, 2) := by decide +kernel
theorem dX6_digest_93 : decode cX6_digest 93 = .ok (.invokevirtual 149, 3) := by decide +kernel
theorem dX6_digest_96 : decode cX6_digest 96 = .ok (.i2l, 1) := by decide +kernel
theorem dX6_digest_97 : decode cX6_digest 97 = .ok (.ladd, 1) := by decide +kernel
theorem dX6_digest_98 : decode cX6_digest 98 = .ok (.lstore_n 1, 1) := by decide +kernel
theorem dX6_digest_99 : decode cX6_digest 99 = .ok (.iinc 4 1, 3) := by decide +kernel
theorem dX6_digest_102 : decode cX6_digest 102 = .ok (.goto (-25), 3) := by decide +kernel
theorem dX6_digest_105 : decode cX6_digest 105 = .ok (.iinc 3 1, 3) := by decide +kernel
theorem dX6_digest_108 : decode cX6_digest 108 = .ok (.goto (-45), 3) := by decide +kernel
theorem dX6_digest_111 : decode cX6_digest 111 = .ok (.iconst 0, 1) := by decide +kernel
theorem dX6_digest_112 : decode cX6_digest 112 = .ok (.istore_n 3, 1) := by decide +kernel
theorem dX6_digest_113 : decode cX6_digest 113 = .ok (.iload_n 3, 1) := by decide +kernel
theorem dX6_digest_114 : decode cX6_digest 114 = .ok (.aload_n 0, 1) := by decide +kernel
theorem dX6_digest_115 : decode cX6_digest 115 = .ok (.getfield 35, 3) := by decide +kernel
theorem dX6_digest_118 : decode cX6_digest 118 = .ok (.getfield 141, 3) := by decide +kernel
theorem dX6_digest_121 : decode cX6_digest 121 = .ok (.if_icmp .ge 25, 3) := by decide +kernel
theorem dX6_digest_124 : decode cX6_digest 124 = .ok (.lload_n 1, 1) := by decide +kernel
theorem dX6_digest_125 : decode cX6_digest 125 = .ok (.ldc2_w 172, 3) := by decide +kernel
theorem dX6_digest_128 : decode cX6_digest 128 = .ok (.lmul, 1) := by decide +kernel
theorem dX6_digest_129 : decode cX6_digest 129 = .ok (.aload_n 0, 1) := by decide +kernel
theorem dX6_digest_130 : decode cX6_digest 130 = .ok (.getfield 35, 3) := by decide +kernel
theorem dX6_digest_133 : decode cX6_digest 133 = .ok (.iload_n 3, 1) := by decide +kernel
theorem dX6_digest_134 : decode cX6_digest 134 = .ok (.invokevirtual 144, 3) := by decide +kernel
theorem dX6_digest_137 : decode cX6_digest 137 = .ok (.i2l, 1) := by decide +kernel
theorem dX6_digest_138 : decode cX6_digest 138 = .ok (.ladd, 1) := by decide +kernel
theorem dX6_digest_139 : decode cX6_digest 139 = .ok (.lstore_n 1, 1) := by decide +kernel
theorem dX6_digest_140 : decode cX6_digest 140 = .ok (.iinc 3 1, 3) := by decide +kernel
theorem dX6_digest_143 : decode cX6_digest 143 = .ok (.goto (-30), 3) := by decide +kernel
theorem dX6_digest_146 : decode cX6_digest 146 = .ok (.iconst 0, 1) := by decide +kernel
theorem dX6_digest_147 : decode cX6_digest 147 = .ok (.istore_n 3, 1) := by decide +kernel
theorem dX6_digest_148 : decode cX6_digest 148 = .ok (.iload_n 3, 1) := by decide +kernel
theorem dX6_digest_149 : decode cX6_digest 149 = .ok (.aload_n 0, 1) := by decide +kernel
theorem dX6_digest_150 : decode cX6_digest 150 = .ok (.getfield 10, 3) := by decide +kernel
theorem dX6_digest_153 : decode cX6_digest 153 = .ok (.getfield 68, 3) := by decide +kernel
theorem dX6_digest_156 : decode cX6_digest 156 = .ok (.if_icmp .ge 25, 3) := by decide +kernel
theorem dX6_digest_159 : decode cX6_digest 159 = .ok (.lload_n 1, 1) := by decide +kernel
theorem dX6_digest_160 : decode cX6_digest 160 = .ok (.ldc2_w 172, 3) := by decide +kernel
theorem dX6_digest_163 : decode cX6_digest 163 = .ok (.lmul, 1) := by decide +kernel
theorem dX6_digest_164 : decode cX6_digest 164 = .ok (.aload_n 0, 1) := by decide +kernel
theorem dX6_digest_165 : decode cX6_digest 165 = .ok (.getfield 10, 3) := by decide +kernel
theorem dX6_digest_168 : decode cX6_digest 168 = .ok (.iload_n 3, 1) := by decide +kernel
theorem dX6_digest_169 : decode cX6_digest 169 = .ok (.invokevirtual 178, 3) := by decide +kernel
theorem dX6_digest_172 : decode cX6_digest 172 = .ok (.i2l, 1) := by decide +kernel
theorem dX6_digest_173 : decode cX6_digest 173 = .ok (.ladd, 1) := by decide +kernel
theorem dX6_digest_174 : decode cX6_digest 174 = .ok (.lstore_n 1, 1) := by decide +kernel
theorem dX6_digest_175 : decode cX6_digest 175 = .ok (.iinc 3 1, 3) := by decide +kernel
theorem dX6_digest_178 : decode cX6_digest 178 = .ok (.goto (-30), 3) := by decide +kernel
theorem dX6_digest_181 : decode cX6_digest 181 = .ok (.lload_n 1, 1) := by decide +kernel
theorem dX6_digest_182 : decode cX6_digest 182 = .ok (.lreturn, 1) := by decide +kernel
theorem dX6_beforeChange_0 : decode cX6_beforeChange 0 = .ok (.aload_n 0, 1) := by decide +kernel
theorem dX6_beforeChange_1 : decode cX6_beforeChange 1 = .ok (.getfield 26, 3) := by decide +kernel
theorem dX6_beforeChange_4 : decode cX6_beforeChange 4 = .ok (.aload_n 0, 1) := by decide +kernel
theorem dX6_beforeChange_5 : decode cX6_beforeChange 5 = .ok (.getfield 19, 3) := by decide +kernel
theorem dX6_beforeChange_8 : decode cX6_beforeChange 8 = .ok (.invokevirtual 181, 3) := by decide +kernel
theorem dX6_beforeChange_11 : decode cX6_beforeChange 11 = .ok (.aload_n 0, 1) := by decide +kernel
theorem dX6_beforeChange_12 : decode cX6_beforeChange 12 = .ok (.iconst 0, 1) := by decide +kernel
theorem dX6_beforeChange_13 : decode cX6_beforeChange 13 = .ok (.putfield 60, 3) := by decide +kernel
theorem dX6_beforeChange_16 : decode cX6_beforeChange 16 = .ok (.return_, 1) := by decide +kernel
theorem dX6_layOut_0 : decode cX6_layOut 0 = .ok (.aload_n 0, 1) := by decide +kernel
theorem dX6_layOut_1 : decode cX6_layOut 1 = .ok (.getfield 60, 3) := by decide +kernel
theorem dX6_layOut_4 : decode cX6_layOut 4 = .ok (.ifCond .eq 4, 3) := by decide +kernel
theorem dX6_layOut_7 : decode cX6_layOut 7 = .ok (.return_, 1) := by decide +kernel
theorem dX6_layOut_8 : decode cX6_layOut 8 = .ok (.aload_n 0, 1) := by decide +kernel
theorem dX6_layOut_9 : decode cX6_layOut 9 = .ok (.getfield 35, 3) := by decide +kernel
theorem dX6_layOut_12 : decode cX6_layOut 12 = .ok (.invokevirtual 156, 3) := by decide +kernel
theorem dX6_layOut_15 : decode cX6_layOut 15 = .ok (.aload_n 0, 1) := by decide +kernel
theorem dX6_layOut_16 : decode cX6_layOut 16 = .ok (.getfield 44, 3) := by decide +kernel
theorem dX6_layOut_19 : decode cX6_layOut 19 = .ok (.aload_n 0, 1) := by decide +kernel
theorem dX6_layOut_20 : decode cX6_layOut 20 = .ok (.getfield 19, 3) := by decide +kernel
theorem dX6_layOut_23 : decode cX6_layOut 23 = .ok (.iconst 0, 1) := by decide +kernel
theorem dX6_layOut_24 : decode cX6_layOut 24 = .ok (.invokevirtual 123, 3) := by decide +kernel
theorem dX6_layOut_27 : decode cX6_layOut 27 = .ok (.invokevirtual 159, 3) := by decide +kernel
theorem dX6_layOut_30 : decode cX6_layOut 30 = .ok (.aload_n 0, 1) := by decide +kernel
theorem dX6_layOut_31 : decode cX6_layOut 31 = .ok (.getfield 44, 3) := by decide +kernel
theorem dX6_layOut_34 : decode cX6_layOut 34 = .ok (.invokevirtual 184, 3) := by decide +kernel
theorem dX6_layOut_37 : decode cX6_layOut 37 = .ok (.aload_n 0, 1) := by decide +kernel
theorem dX6_layOut_38 : decode cX6_layOut 38 = .ok (.getfield 53, 3) := by decide +kernel
theorem dX6_layOut_41 : decode cX6_layOut 41 = .ok (.invokevirtual 187, 3) := by decide +kernel
theorem dX6_layOut_44 : decode cX6_layOut 44 = .ok (.aload_n 0, 1) := by decide +kernel
theorem dX6_layOut_45 : decode cX6_layOut 45 = .ok (.iconst 1, 1) := by decide +kernel
theorem dX6_layOut_46 : decode cX6_layOut 46 = .ok (.putfield 60, 3) := by decide +kernel
theorem dX6_layOut_49 : decode cX6_layOut 49 = .ok (.return_, 1) := by decide +kernel
theorem dX6_lieAt_0 : decode cX6_lieAt 0 = .ok (.iload_n 1, 1) := by decide +kernel
theorem dX6_lieAt_1 : decode cX6_lieAt 1 = .ok (.ifCond .lt 14, 3) := by decide +kernel
theorem dX6_lieAt_4 : decode cX6_lieAt 4 = .ok (.iload_n 1, 1) := by decide +kernel
theorem dX6_lieAt_5 : decode cX6_lieAt 5 = .ok (.aload_n 0, 1) := by decide +kernel
theorem dX6_lieAt_6 : decode cX6_lieAt 6 = .ok (.getfield 35, 3) := by decide +kernel
theorem dX6_lieAt_9 : decode cX6_lieAt 9 = .ok (.getfield 141, 3) := by decide +kernel
theorem dX6_lieAt_12 : decode cX6_lieAt 12 = .ok (.if_icmp .lt 7, 3) := by decide +kernel
theorem dX6_lieAt_15 : decode cX6_lieAt 15 = .ok (.sipush (-1001), 3) := by decide +kernel
theorem dX6_lieAt_18 : decode cX6_lieAt 18 = .ok (.ireturn, 1) := by decide +kernel
theorem dX6_lieAt_19 : decode cX6_lieAt 19 = .ok (.aload_n 0, 1) := by decide +kernel
theorem dX6_lieAt_20 : decode cX6_lieAt 20 = .ok (.getfield 35, 3) := by decide +kernel
theorem dX6_lieAt_23 : decode cX6_lieAt 23 = .ok (.getfield 190, 3) := by decide +kernel
theorem dX6_lieAt_26 : decode cX6_lieAt 26 = .ok (.iload_n 1, 1) := by decide +kernel
theorem dX6_lieAt_27 : decode cX6_lieAt 27 = .ok (.iaload, 1) := by decide +kernel
theorem dX6_lieAt_28 : decode cX6_lieAt 28 = .ok (.istore_n 3, 1) := by decide +kernel
theorem dX6_lieAt_29 : decode cX6_lieAt 29 = .ok (.iload_n 2, 1) := by decide +kernel
theorem dX6_lieAt_30 : decode cX6_lieAt 30 = .ok (.tableswitch 122 0 6 #[42, 51, 53, 63, 73, 83, 102], 42) := by decide +kernel
theorem dX6_lieAt_72 : decode cX6_lieAt 72 = .ok (.aload_n 0, 1) := by decide +kernel
theorem dX6_lieAt_73 : decode cX6_lieAt 73 = .ok (.getfield 44, 3) := by decide +kernel
theorem dX6_lieAt_76 : decode cX6_lieAt 76 = .ok (.iload_n 1, 1) := by decide +kernel
theorem dX6_lieAt_77 : decode cX6_lieAt 77 = .ok (.invokevirtual 192, 3) := by decide +kernel
theorem dX6_lieAt_80 : decode cX6_lieAt 80 = .ok (.ireturn, 1) := by decide +kernel
theorem dX6_lieAt_81 : decode cX6_lieAt 81 = .ok (.iload_n 1, 1) := by decide +kernel
theorem dX6_lieAt_82 : decode cX6_lieAt 82 = .ok (.ireturn, 1) := by decide +kernel
theorem dX6_lieAt_83 : decode cX6_lieAt 83 = .ok (.aload_n 0, 1) := by decide +kernel
theorem dX6_lieAt_84 : decode cX6_lieAt 84 = .ok (.getfield 53, 3) := by decide +kernel
theorem dX6_lieAt_87 : decode cX6_lieAt 87 = .ok (.getfield 195, 3) := by decide +kernel
theorem dX6_lieAt_90 : decode cX6_lieAt 90 = .ok (.iload_n 1, 1) := by decide +kernel
theorem dX6_lieAt_91 : decode cX6_lieAt 91 = .ok (.iaload, 1) := by decide +kernel
theorem dX6_lieAt_92 : decode cX6_lieAt 92 = .ok (.ireturn, 1) := by decide +kernel
theorem dX6_lieAt_93 : decode cX6_lieAt 93 = .ok (.aload_n 0, 1) := by decide +kernel
theorem dX6_lieAt_94 : decode cX6_lieAt 94 = .ok (.getfield 44, 3) := by decide +kernel
theorem dX6_lieAt_97 : decode cX6_lieAt 97 = .ok (.getfield 198, 3) := by decide +kernel
theorem dX6_lieAt_100 : decode cX6_lieAt 100 = .ok (.iload_n 1, 1) := by decide +kernel
theorem dX6_lieAt_101 : decode cX6_lieAt 101 = .ok (.iaload, 1) := by decide +kernel
theorem dX6_lieAt_102 : decode cX6_lieAt 102 = .ok (.ireturn, 1) := by decide +kernel
theorem dX6_lieAt_103 : decode cX6_lieAt 103 = .ok (.aload_n 0, 1) := by decide +kernel
theorem dX6_lieAt_104 : decode cX6_lieAt 104 = .ok (.getfield 53, 3) := by decide +kernel
theorem dX6_lieAt_107 : decode cX6_lieAt 107 = .ok (.getfield 201, 3) := by decide +kernel
theorem dX6_lieAt_110 : decode cX6_lieAt 110 = .ok (.iload_n 1, 1) := by decide +kernel
theorem dX6_lieAt_111 : decode cX6_lieAt 111 = .ok (.iaload, 1) := by decide +kernel
theorem dX6_lieAt_112 : decode cX6_lieAt 112 = .ok (.ireturn, 1) := by decide +kernel
theorem dX6_lieAt_113 : decode cX6_lieAt 113 = .ok (.aload_n 0, 1) := by decide +kernel
theorem dX6_lieAt_114 : decode cX6_lieAt 114 = .ok (.getfield 53, 3) := by decide +kernel
theorem dX6_lieAt_117 : decode cX6_lieAt 117 = .ok (.getfield 201, 3) := by decide +kernel
theorem dX6_lieAt_120 : decode cX6_lieAt 120 = .ok (.iload_n 1, 1) := by decide +kernel
theorem dX6_lieAt_121 : decode cX6_lieAt 121 = .ok (.iaload, 1) := by decide +kernel
theorem dX6_lieAt_122 : decode cX6_lieAt 122 = .ok (.aload_n 0, 1) := by decide +kernel
theorem dX6_lieAt_123 : decode cX6_lieAt 123 = .ok (.getfield 19, 3) := by decide +kernel
theorem dX6_lieAt_126 : decode cX6_lieAt 126 = .ok (.iload_n 3, 1) := by decide +kernel
theorem dX6_lieAt_127 : decode cX6_lieAt 127 = .ok (.invokevirtual 204, 3) := by decide +kernel
theorem dX6_lieAt_130 : decode cX6_lieAt 130 = .ok (.iadd, 1) := by decide +kernel
theorem dX6_lieAt_131 : decode cX6_lieAt 131 = .ok (.ireturn, 1) := by decide +kernel
theorem dX6_lieAt_132 : decode cX6_lieAt 132 = .ok (.aload_n 0, 1) := by decide +kernel
theorem dX6_lieAt_133 : decode cX6_lieAt 133 = .ok (.getfield 44, 3) := by decide +kernel
theorem dX6_lieAt_136 : decode cX6_lieAt 136 = .ok (.getfield 198, 3) := by decide +kernel
theorem dX6_lieAt_139 : decode cX6_lieAt 139 = .ok (.iload_n 1, 1) := by decide +kernel
theorem dX6_lieAt_140 : decode cX6_lieAt 140 = .ok (.iaload, 1) := by decide +kernel
theorem dX6_lieAt_141 : decode cX6_lieAt 141 = .ok (.aload_n 0, 1) := by decide +kernel
theorem dX6_lieAt_142 : decode cX6_lieAt 142 = .ok (.getfield 35, 3) := by decide +kernel
theorem dX6_lieAt_145 : decode cX6_lieAt 145 = .ok (.getfield 207, 3) := by decide +kernel
theorem dX6_lieAt_148 : decode cX6_lieAt 148 = .ok (.iload_n 1, 1) := by decide +kernel
theorem dX6_lieAt_149 : decode cX6_lieAt 149 = .ok (.iaload, 1) := by decide +kernel
theorem dX6_lieAt_150 : decode cX6_lieAt 150 = .ok (.isub, 1) := by decide +kernel
theorem dX6_lieAt_151 : decode cX6_lieAt 151 = .ok (.ireturn, 1) := by decide +kernel
theorem dX6_lieAt_152 : decode cX6_lieAt 152 = .ok (.aload_n 0, 1) := by decide +kernel
theorem dX6_lieAt_153 : decode cX6_lieAt 153 = .ok (.getfield 44, 3) := by decide +kernel
theorem dX6_lieAt_156 : decode cX6_lieAt 156 = .ok (.getfield 209, 3) := by decide +kernel
theorem dX6_lieAt_159 : decode cX6_lieAt 159 = .ok (.iload_n 1, 1) := by decide +kernel
theorem dX6_lieAt_160 : decode cX6_lieAt 160 = .ok (.iaload, 1) := by decide +kernel
theorem dX6_lieAt_161 : decode cX6_lieAt 161 = .ok (.ireturn, 1) := by decide +kernel
theorem dX6_lineTells_0 : decode cX6_lineTells 0 = .ok (.iload_n 1, 1) := by decide +kernel
theorem dX6_lineTells_1 : decode cX6_lineTells 1 = .ok (.ifCond .lt 20, 3) := by decide +kernel
theorem dX6_lineTells_4 : decode cX6_lineTells 4 = .ok (.iload_n 1, 1) := by decide +kernel
theorem dX6_lineTells_5 : decode cX6_lineTells 5 = .ok (.aload_n 0, 1) := by decide +kernel
theorem dX6_lineTells_6 : decode cX6_lineTells 6 = .ok (.getfield 44, 3) := by decide +kernel
theorem dX6_lineTells_9 : decode cX6_lineTells 9 = .ok (.getfield 147, 3) := by decide +kernel
theorem dX6_lineTells_12 : decode cX6_lineTells 12 = .ok (.if_icmp .ge 9, 3) := by decide +kernel
theorem dX6_lineTells_15 : decode cX6_lineTells 15 = .ok (.iload_n 1, 1) := by decide +kernel
theorem dX6_lineTells_16 : decode cX6_lineTells 16 = .ok (.bipush 16, 2) := by decide +kernel
theorem dX6_lineTells_18 : decode cX6_lineTells 18 = .ok (.if_icmp .lt 7, 3) := by decide +kernel
theorem dX6_lineTells_21 : decode cX6_lineTells 21 = .ok (.sipush (-1001), 3) := by decide +kernel
theorem dX6_lineTells_24 : decode cX6_lineTells 24 = .ok (.ireturn, 1) := by decide +kernel
theorem dX6_lineTells_25 : decode cX6_lineTells 25 = .ok (.iload_n 2, 1) := by decide +kernel
theorem dX6_lineTells_26 : decode cX6_lineTells 26 = .ok (.tableswitch 129 0 6 #[42, 61, 71, 81, 91, 101, 119], 42) := by decide +kernel
theorem dX6_lineTells_68 : decode cX6_lineTells 68 = .ok (.aload_n 0, 1) := by decide +kernel
theorem dX6_lineTells_69 : decode cX6_lineTells 69 = .ok (.getfield 44, 3) := by decide +kernel
theorem dX6_lineTells_72 : decode cX6_lineTells 72 = .ok (.iload_n 1, 1) := by decide +kernel
theorem dX6_lineTells_73 : decode cX6_lineTells 73 = .ok (.invokevirtual 212, 3) := by decide +kernel
theorem dX6_lineTells_76 : decode cX6_lineTells 76 = .ok (.aload_n 0, 1) := by decide +kernel
theorem dX6_lineTells_77 : decode cX6_lineTells 77 = .ok (.getfield 44, 3) := by decide +kernel
theorem dX6_lineTells_80 : decode cX6_lineTells 80 = .ok (.getfield 215, 3) := by decide +kernel
theorem dX6_lineTells_83 : decode cX6_lineTells 83 = .ok (.iload_n 1, 1) := by decide +kernel
theorem dX6_lineTells_84 : decode cX6_lineTells 84 = .ok (.iaload, 1) := by decide +kernel
theorem dX6_lineTells_85 : decode cX6_lineTells 85 = .ok (.isub, 1) := by decide +kernel
theorem dX6_lineTells_86 : decode cX6_lineTells 86 = .ok (.ireturn, 1) := by decide +kernel
theorem dX6_lineTells_87 : decode cX6_lineTells 87 = .ok (.aload_n 0, 1) := by decide +kernel
theorem dX6_lineTells_88 : decode cX6_lineTells 88 = .ok (.getfield 44, 3) := by decide +kernel
theorem dX6_lineTells_91 : decode cX6_lineTells 91 = .ok (.getfield 215, 3) := by decide +kernel
theorem dX6_lineTells_94 : decode cX6_lineTells 94 = .ok (.iload_n 1, 1) := by decide +kernel
theorem dX6_lineTells_95 : decode cX6_lineTells 95 = .ok (.iaload, 1) := by decide +kernel
theorem dX6_lineTells_96 : decode cX6_lineTells 96 = .ok (.ireturn, 1) := by decide +kernel
theorem dX6_lineTells_97 : decode cX6_lineTells 97 = .ok (.aload_n 0, 1) := by decide +kernel
theorem dX6_lineTells_98 : decode cX6_lineTells 98 = .ok (.getfield 53, 3) := by decide +kernel
theorem dX6_lineTells_101 : decode cX6_lineTells 101 = .ok (.getfield 218, 3) := by decide +kernel
theorem dX6_lineTells_104 : decode cX6_lineTells 104 = .ok (.iload_n 1, 1) := by decide +kernel
theorem dX6_lineTells_105 : decode cX6_lineTells 105 = .ok (.iaload, 1) := by decide +kernel
theorem dX6_lineTells_106 : decode cX6_lineTells 106 = .ok (.ireturn, 1) := by decide +kernel
theorem dX6_lineTells_107 : decode cX6_lineTells 107 = .ok (.aload_n 0, 1) := by decide +kernel
theorem dX6_lineTells_108 : decode cX6_lineTells 108 = .ok (.getfield 53, 3) := by decide +kernel
theorem dX6_lineTells_111 : decode cX6_lineTells 111 = .ok (.getfield 221, 3) := by decide +kernel
theorem dX6_lineTells_114 : decode cX6_lineTells 114 = .ok (.iload_n 1, 1) := by decide +kernel
theorem dX6_lineTells_115 : decode cX6_lineTells 115 = .ok (.iaload, 1) := by decide +kernel
theorem dX6_lineTells_116 : decode cX6_lineTells 116 = .ok (.ireturn, 1) := by decide +kernel
theorem dX6_lineTells_117 : decode cX6_lineTells 117 = .ok (.aload_n 0, 1) := by decide +kernel
theorem dX6_lineTells_118 : decode cX6_lineTells 118 = .ok (.getfield 44, 3) := by decide +kernel
theorem dX6_lineTells_121 : decode cX6_lineTells 121 = .ok (.getfield 224, 3) := by decide +kernel
theorem dX6_lineTells_124 : decode cX6_lineTells 124 = .ok (.iload_n 1, 1) := by decide +kernel
theorem dX6_lineTells_125 : decode cX6_lineTells 125 = .ok (.iaload, 1) := by decide +kernel
theorem dX6_lineTells_126 : decode cX6_lineTells 126 = .ok (.ireturn, 1) := by decide +kernel
theorem dX6_lineTells_127 : decode cX6_lineTells 127 = .ok (.aload_n 0, 1) := by decide +kernel
theorem dX6_lineTells_128 : decode cX6_lineTells 128 = .ok (.getfield 44, 3) := by decide +kernel
theorem dX6_lineTells_131 : decode cX6_lineTells 131 = .ok (.getfield 227, 3) := by decide +kernel
theorem dX6_lineTells_134 : decode cX6_lineTells 134 = .ok (.iload_n 1, 1) := by decide +kernel
theorem dX6_lineTells_135 : decode cX6_lineTells 135 = .ok (.baload, 1) := by decide +kernel
theorem dX6_lineTells_136 : decode cX6_lineTells 136 = .ok (.ifCond .eq 7, 3) := by decide +kernel
theorem dX6_lineTells_139 : decode cX6_lineTells 139 = .ok (.iconst 1, 1) := by decide +kernel
theorem dX6_lineTells_140 : decode cX6_lineTells 140 = .ok (.goto 4, 3) := by decide +kernel
theorem dX6_lineTells_143 : decode cX6_lineTells 143 = .ok (.iconst 0, 1) := by decide +kernel
theorem dX6_lineTells_144 : decode cX6_lineTells 144 = .ok (.ireturn, 1) := by decide +kernel
theorem dX6_lineTells_145 : decode cX6_lineTells 145 = .ok (.aload_n 0, 1) := by decide +kernel
theorem dX6_lineTells_146 : decode cX6_lineTells 146 = .ok (.getfield 44, 3) := by decide +kernel
theorem dX6_lineTells_149 : decode cX6_lineTells 149 = .ok (.getfield 231, 3) := by decide +kernel
theorem dX6_lineTells_152 : decode cX6_lineTells 152 = .ok (.iload_n 1, 1) := by decide +kernel
theorem dX6_lineTells_153 : decode cX6_lineTells 153 = .ok (.iaload, 1) := by decide +kernel
theorem dX6_lineTells_154 : decode cX6_lineTells 154 = .ok (.ireturn, 1) := by decide +kernel
theorem dX6_lineTells_155 : decode cX6_lineTells 155 = .ok (.aload_n 0, 1) := by decide +kernel
theorem dX6_lineTells_156 : decode cX6_lineTells 156 = .ok (.getfield 44, 3) := by decide +kernel
theorem dX6_lineTells_159 : decode cX6_lineTells 159 = .ok (.getfield 234, 3) := by decide +kernel
theorem dX6_lineTells_162 : decode cX6_lineTells 162 = .ok (.iload_n 1, 1) := by decide +kernel
theorem dX6_lineTells_163 : decode cX6_lineTells 163 = .ok (.iaload, 1) := by decide +kernel
theorem dX6_lineTells_164 : decode cX6_lineTells 164 = .ok (.ireturn, 1) := by decide +kernel
theorem dX6_counted_0 : decode cX6_counted 0 = .ok (.iload_n 1, 1) := by decide +kernel
theorem dX6_counted_1 : decode cX6_counted 1 = .ok (.tableswitch 104 0 6 #[43, 51, 67, 75, 83, 88, 96], 43) := by decide +kernel
theorem dX6_counted_44 : decode cX6_counted 44 = .ok (.aload_n 0, 1) := by decide +kernel
theorem dX6_counted_45 : decode cX6_counted 45 = .ok (.getfield 19, 3) := by decide +kernel
theorem dX6_counted_48 : decode cX6_counted 48 = .ok (.getfield 72, 3) := by decide +kernel
theorem dX6_counted_51 : decode cX6_counted 51 = .ok (.ireturn, 1) := by decide +kernel
theorem dX6_counted_52 : decode cX6_counted 52 = .ok (.aload_n 0, 1) := by decide +kernel
theorem dX6_counted_53 : decode cX6_counted 53 = .ok (.getfield 19, 3) := by decide +kernel
theorem dX6_counted_56 : decode cX6_counted 56 = .ok (.getfield 72, 3) := by decide +kernel
theorem dX6_counted_59 : decode cX6_counted 59 = .ok (.aload_n 0, 1) := by decide +kernel
theorem dX6_counted_60 : decode cX6_counted 60 = .ok (.getfield 35, 3) := by decide +kernel
theorem dX6_counted_63 : decode cX6_counted 63 = .ok (.getfield 141, 3) := by decide +kernel
theorem dX6_counted_66 : decode cX6_counted 66 = .ok (.isub, 1) := by decide +kernel
theorem dX6_counted_67 : decode cX6_counted 67 = .ok (.ireturn, 1) := by decide +kernel
theorem dX6_counted_68 : decode cX6_counted 68 = .ok (.aload_n 0, 1) := by decide +kernel
theorem dX6_counted_69 : decode cX6_counted 69 = .ok (.getfield 44, 3) := by decide +kernel
theorem dX6_counted_72 : decode cX6_counted 72 = .ok (.getfield 147, 3) := by decide +kernel
theorem dX6_counted_75 : decode cX6_counted 75 = .ok (.ireturn, 1) := by decide +kernel
theorem dX6_counted_76 : decode cX6_counted 76 = .ok (.aload_n 0, 1) := by decide +kernel
theorem dX6_counted_77 : decode cX6_counted 77 = .ok (.getfield 53, 3) := by decide +kernel
theorem dX6_counted_80 : decode cX6_counted 80 = .ok (.getfield 237, 3) := by decide +kernel
theorem dX6_counted_83 : decode cX6_counted 83 = .ok (.ireturn, 1) := by decide +kernel
theorem dX6_counted_84 : decode cX6_counted 84 = .ok (.aload_n 0, 1) := by decide +kernel
theorem dX6_counted_85 : decode cX6_counted 85 = .ok (.invokevirtual 240, 3) := by decide +kernel
theorem dX6_counted_88 : decode cX6_counted 88 = .ok (.ireturn, 1) := by decide +kernel
theorem dX6_counted_89 : decode cX6_counted 89 = .ok (.aload_n 0, 1) := by decide +kernel
theorem dX6_counted_90 : decode cX6_counted 90 = .ok (.getfield 26, 3) := by decide +kernel
theorem dX6_counted_93 : decode cX6_counted 93 = .ok (.getfield 129, 3) := by decide +kernel
theorem dX6_counted_96 : decode cX6_counted 96 = .ok (.ireturn, 1) := by decide +kernel
theorem dX6_counted_97 : decode cX6_counted 97 = .ok (.aload_n 0, 1) := by decide +kernel
theorem dX6_counted_98 : decode cX6_counted 98 = .ok (.getfield 10, 3) := by decide +kernel
theorem dX6_counted_101 : decode cX6_counted 101 = .ok (.getfield 68, 3) := by decide +kernel
theorem dX6_counted_104 : decode cX6_counted 104 = .ok (.ireturn, 1) := by decide +kernel
theorem dX6_counted_105 : decode cX6_counted 105 = .ok (.aload_n 0, 1) := by decide +kernel
theorem dX6_counted_106 : decode cX6_counted 106 = .ok (.getfield 19, 3) := by decide +kernel
theorem dX6_counted_109 : decode cX6_counted 109 = .ok (.iload_n 1, 1) := by decide +kernel
theorem dX6_counted_110 : decode cX6_counted 110 = .ok (.bipush 7, 2) := by decide +kernel
theorem dX6_counted_112 : decode cX6_counted 112 = .ok (.isub, 1) := by decide +kernel
theorem dX6_counted_113 : decode cX6_counted 113 = .ok (.invokevirtual 123, 3) := by decide +kernel
theorem dX6_counted_116 : decode cX6_counted 116 = .ok (.ireturn, 1) := by decide +kernel
theorem dX6_greatestEnd_0 : decode cX6_greatestEnd 0 = .ok (.aload_n 0, 1) := by decide +kernel
theorem dX6_greatestEnd_1 : decode cX6_greatestEnd 1 = .ok (.getfield 35, 3) := by decide +kernel
theorem dX6_greatestEnd_4 : decode cX6_greatestEnd 4 = .ok (.getfield 141, 3) := by decide +kernel
theorem dX6_greatestEnd_7 : decode cX6_greatestEnd 7 = .ok (.ifCond .ne 7, 3) := by decide +kernel
theorem dX6_greatestEnd_10 : decode cX6_greatestEnd 10 = .ok (.sipush (-1001), 3) := by decide +kernel
theorem dX6_greatestEnd_13 : decode cX6_greatestEnd 13 = .ok (.ireturn, 1) := by decide +kernel
theorem dX6_greatestEnd_14 : decode cX6_greatestEnd 14 = .ok (.aload_n 0, 1) := by decide +kernel
theorem dX6_greatestEnd_15 : decode cX6_greatestEnd 15 = .ok (.getfield 53, 3) := by decide +kernel
theorem dX6_greatestEnd_18 : decode cX6_greatestEnd 18 = .ok (.iconst 0, 1) := by decide +kernel
theorem dX6_greatestEnd_19 : decode cX6_greatestEnd 19 = .ok (.invokevirtual 243, 3) := by decide +kernel
theorem dX6_greatestEnd_22 : decode cX6_greatestEnd 22 = .ok (.istore_n 1, 1) := by decide +kernel
theorem dX6_greatestEnd_23 : decode cX6_greatestEnd 23 = .ok (.iconst 1, 1) := by decide +kernel
theorem dX6_greatestEnd_24 : decode cX6_greatestEnd 24 = .ok (.istore_n 2, 1) := by decide +kernel
theorem dX6_greatestEnd_25 : decode cX6_greatestEnd 25 = .ok (.iload_n 2, 1) := by decide +kernel
theorem dX6_greatestEnd_26 : decode cX6_greatestEnd 26 = .ok (.aload_n 0, 1) := by decide +kernel
theorem dX6_greatestEnd_27 : decode cX6_greatestEnd 27 = .ok (.getfield 35, 3) := by decide +kernel
theorem dX6_greatestEnd_30 : decode cX6_greatestEnd 30 = .ok (.getfield 141, 3) := by decide +kernel
theorem dX6_greatestEnd_33 : decode cX6_greatestEnd 33 = .ok (.if_icmp .ge 22, 3) := by decide +kernel
theorem dX6_greatestEnd_36 : decode cX6_greatestEnd 36 = .ok (.iload_n 1, 1) := by decide +kernel
theorem dX6_greatestEnd_37 : decode cX6_greatestEnd 37 = .ok (.aload_n 0, 1) := by decide +kernel
theorem dX6_greatestEnd_38 : decode cX6_greatestEnd 38 = .ok (.getfield 53, 3) := by decide +kernel
theorem dX6_greatestEnd_41 : decode cX6_greatestEnd 41 = .ok (.iload_n 2, 1) := by decide +kernel
theorem dX6_greatestEnd_42 : decode cX6_greatestEnd 42 = .ok (.invokevirtual 243, 3) := by decide +kernel
theorem dX6_greatestEnd_45 : decode cX6_greatestEnd 45 = .ok (.invokestatic 244, 3) := by decide +kernel
theorem dX6_greatestEnd_48 : decode cX6_greatestEnd 48 = .ok (.istore_n 1, 1) := by decide +kernel
theorem dX6_greatestEnd_49 : decode cX6_greatestEnd 49 = .ok (.iinc 2 1, 3) := by decide +kernel
theorem dX6_greatestEnd_52 : decode cX6_greatestEnd 52 = .ok (.goto (-27), 3) := by decide +kernel
theorem dX6_greatestEnd_55 : decode cX6_greatestEnd 55 = .ok (.iload_n 1, 1) := by decide +kernel
theorem dX6_greatestEnd_56 : decode cX6_greatestEnd 56 = .ok (.ireturn, 1) := by decide +kernel
theorem dX6_withItem_0 : decode cX6_withItem 0 = .ok (.iconst 0, 1) := by decide +kernel
theorem dX6_withItem_1 : decode cX6_withItem 1 = .ok (.istore 4, 2) := by decide +kernel
theorem dX6_withItem_3 : decode cX6_withItem 3 = .ok (.iload 4, 2) := by decide +kernel
theorem dX6_withItem_5 : decode cX6_withItem 5 = .ok (.bipush 10, 2) := by decide +kernel
theorem dX6_withItem_7 : decode cX6_withItem 7 = .ok (.if_icmp .gt 27, 3) := by decide +kernel
theorem dX6_withItem_10 : decode cX6_withItem 10 = .ok (.lload_n 1, 1) := by decide +kernel
theorem dX6_withItem_11 : decode cX6_withItem 11 = .ok (.ldc2_w 172, 3) := by decide +kernel
theorem dX6_withItem_14 : decode cX6_withItem 14 = .ok (.lmul, 1) := by decide +kernel
theorem dX6_withItem_15 : decode cX6_withItem 15 = .ok (.aload_n 0, 1) := by decide +kernel
theorem dX6_withItem_16 : decode cX6_withItem 16 = .ok (.getfield 19, 3) := by decide +kernel
theorem dX6_withItem_19 : decode cX6_withItem 19 = .ok (.iload_n 3, 1) := by decide +kernel
theorem dX6_withItem_20 : decode cX6_withItem 20 = .ok (.iload 4, 2) := by decide +kernel
theorem dX6_withItem_22 : decode cX6_withItem 22 = .ok (.invokevirtual 109, 3) := by decide +kernel
theorem dX6_withItem_25 : decode cX6_withItem 25 = .ok (.i2l, 1) := by decide +kernel
theorem dX6_withItem_26 : decode cX6_withItem 26 = .ok (.ladd, 1) := by decide +kernel
theorem dX6_withItem_27 : decode cX6_withItem 27 = .ok (.lstore_n 1, 1) := by decide +kernel
theorem dX6_withItem_28 : decode cX6_withItem 28 = .ok (.iinc 4 1, 3) := by decide +kernel
theorem dX6_withItem_31 : decode cX6_withItem 31 = .ok (.goto (-28), 3) := by decide +kernel
theorem dX6_withItem_34 : decode cX6_withItem 34 = .ok (.lload_n 1, 1) := by decide +kernel
theorem dX6_withItem_35 : decode cX6_withItem 35 = .ok (.ldc2_w 172, 3) := by decide +kernel
theorem dX6_withItem_38 : decode cX6_withItem 38 = .ok (.lmul, 1) := by decide +kernel
theorem dX6_withItem_39 : decode cX6_withItem 39 = .ok (.aload_n 0, 1) := by decide +kernel
theorem dX6_withItem_40 : decode cX6_withItem 40 = .ok (.getfield 19, 3) := by decide +kernel
theorem dX6_withItem_43 : decode cX6_withItem 43 = .ok (.iload_n 3, 1) := by decide +kernel
theorem dX6_withItem_44 : decode cX6_withItem 44 = .ok (.invokevirtual 135, 3) := by decide +kernel
theorem dX6_withItem_47 : decode cX6_withItem 47 = .ok (.i2l, 1) := by decide +kernel
theorem dX6_withItem_48 : decode cX6_withItem 48 = .ok (.ladd, 1) := by decide +kernel
theorem dX6_withItem_49 : decode cX6_withItem 49 = .ok (.lstore_n 1, 1) := by decide +kernel
theorem dX6_withItem_50 : decode cX6_withItem 50 = .ok (.aload_n 0, 1) := by decide +kernel
theorem dX6_withItem_51 : decode cX6_withItem 51 = .ok (.getfield 19, 3) := by decide +kernel
theorem dX6_withItem_54 : decode cX6_withItem 54 = .ok (.iload_n 3, 1) := by decide +kernel
theorem dX6_withItem_55 : decode cX6_withItem 55 = .ok (.bipush 10, 2) := by decide +kernel
theorem dX6_withItem_57 : decode cX6_withItem 57 = .ok (.invokevirtual 109, 3) := by decide +kernel
theorem dX6_withItem_60 : decode cX6_withItem 60 = .ok (.ifCond .ne 45, 3) := by decide +kernel
theorem dX6_withItem_63 : decode cX6_withItem 63 = .ok (.aload_n 0, 1) := by decide +kernel
theorem dX6_withItem_64 : decode cX6_withItem 64 = .ok (.getfield 35, 3) := by decide +kernel
theorem dX6_withItem_67 : decode cX6_withItem 67 = .ok (.iload_n 3, 1) := by decide +kernel
theorem dX6_withItem_68 : decode cX6_withItem 68 = .ok (.invokevirtual 99, 3) := by decide +kernel
theorem dX6_withItem_71 : decode cX6_withItem 71 = .ok (.istore 4, 2) := by decide +kernel
theorem dX6_withItem_73 : decode cX6_withItem 73 = .ok (.iconst 0, 1) := by decide +kernel
theorem dX6_withItem_74 : decode cX6_withItem 74 = .ok (.istore 5, 2) := by decide +kernel
theorem dX6_withItem_76 : decode cX6_withItem 76 = .ok (.iload 5, 2) := by decide +kernel
theorem dX6_withItem_78 : decode cX6_withItem 78 = .ok (.bipush 7, 2) := by decide +kernel
theorem dX6_withItem_80 : decode cX6_withItem 80 = .ok (.if_icmp .gt 25, 3) := by decide +kernel
theorem dX6_withItem_83 : decode cX6_withItem 83 = .ok (.lload_n 1, 1) := by decide +kernel
theorem dX6_withItem_84 : decode cX6_withItem 84 = .ok (.ldc2_w 172, 3) := by decide +kernel
theorem dX6_withItem_87 : decode cX6_withItem 87 = .ok (.lmul, 1) := by decide +kernel
theorem dX6_withItem_88 : decode cX6_withItem 88 = .ok (.aload_n 0, 1) := by decide +kernel
theorem dX6_withItem_89 : decode cX6_withItem 89 = .ok (.iload 4, 2) := by decide +kernel
theorem dX6_withItem_91 : decode cX6_withItem 91 = .ok (.iload 5, 2) := by decide +kernel
theorem dX6_withItem_93 : decode cX6_withItem 93 = .ok (.invokevirtual 138, 3) := by decide +kernel
theorem dX6_withItem_96 : decode cX6_withItem 96 = .ok (.i2l, 1) := by decide +kernel
theorem dX6_withItem_97 : decode cX6_withItem 97 = .ok (.ladd, 1) := by decide +kernel
theorem dX6_withItem_98 : decode cX6_withItem 98 = .ok (.lstore_n 1, 1) := by decide +kernel
theorem dX6_withItem_99 : decode cX6_withItem 99 = .ok (.iinc 5 1, 3) := by decide +kernel
theorem dX6_withItem_102 : decode cX6_withItem 102 = .ok (.goto (-26), 3) := by decide +kernel
theorem dX6_withItem_105 : decode cX6_withItem 105 = .ok (.lload_n 1, 1) := by decide +kernel
theorem dX6_withItem_106 : decode cX6_withItem 106 = .ok (.lreturn, 1) := by decide +kernel
theorem dX7_init_0 : decode cX7_init 0 = .ok (.aload_n 0, 1) := by decide +kernel
theorem dX7_init_1 : decode cX7_init 1 = .ok (.invokespecial 1, 3) := by decide +kernel
theorem dX7_init_4 : decode cX7_init 4 = .ok (.aload_n 0, 1) := by decide +kernel
theorem dX7_init_5 : decode cX7_init 5 = .ok (.sipush 184, 3) := by decide +kernel
theorem dX7_init_8 : decode cX7_init 8 = .ok (.newarray .int, 2) := by decide +kernel
theorem dX7_init_10 : decode cX7_init 10 = .ok (.putfield 7, 3) := by decide +kernel
theorem dX7_init_13 : decode cX7_init 13 = .ok (.aload_n 0, 1) := by decide +kernel
theorem dX7_init_14 : decode cX7_init 14 = .ok (.sipush 1472, 3) := by decide +kernel
theorem dX7_init_17 : decode cX7_init 17 = .ok (.newarray .int, 2) := by decide +kernel
theorem dX7_init_19 : decode cX7_init 19 = .ok (.putfield 13, 3) := by decide +kernel
theorem dX7_init_22 : decode cX7_init 22 = .ok (.aload_n 0, 1) := by decide +kernel
theorem dX7_init_23 : decode cX7_init 23 = .ok (.bipush 80, 2) := by decide +kernel
theorem dX7_init_25 : decode cX7_init 25 = .ok (.newarray .int, 2) := by decide +kernel
theorem dX7_init_27 : decode cX7_init 27 = .ok (.putfield 16, 3) := by decide +kernel
theorem dX7_init_30 : decode cX7_init 30 = .ok (.aload_n 0, 1) := by decide +kernel
theorem dX7_init_31 : decode cX7_init 31 = .ok (.bipush 11, 2) := by decide +kernel
theorem dX7_init_33 : decode cX7_init 33 = .ok (.newarray .int, 2) := by decide +kernel
theorem dX7_init_35 : decode cX7_init 35 = .ok (.putfield 19, 3) := by decide +kernel
theorem dX7_init_38 : decode cX7_init 38 = .ok (.aload_n 0, 1) := by decide +kernel
theorem dX7_init_39 : decode cX7_init 39 = .ok (.bipush 16, 2) := by decide +kernel
theorem dX7_init_41 : decode cX7_init 41 = .ok (.newarray .int, 2) := by decide +kernel
theorem dX7_init_43 : decode cX7_init 43 = .ok (.putfield 22, 3) := by decide +kernel
theorem dX7_init_46 : decode cX7_init 46 = .ok (.aload_n 0, 1) := by decide +kernel
theorem dX7_init_47 : decode cX7_init 47 = .ok (.bipush 16, 2) := by decide +kernel
theorem dX7_init_49 : decode cX7_init 49 = .ok (.newarray .int, 2) := by decide +kernel
theorem dX7_init_51 : decode cX7_init 51 = .ok (.putfield 25, 3) := by decide +kernel
theorem dX7_init_54 : decode cX7_init 54 = .ok (.aload_n 0, 1) := by decide +kernel
theorem dX7_init_55 : decode cX7_init 55 = .ok (.bipush 16, 2) := by decide +kernel
theorem dX7_init_57 : decode cX7_init 57 = .ok (.newarray .int, 2) := by decide +kernel
theorem dX7_init_59 : decode cX7_init 59 = .ok (.putfield 28, 3) := by decide +kernel
theorem dX7_init_62 : decode cX7_init 62 = .ok (.aload_n 0, 1) := by decide +kernel
theorem dX7_init_63 : decode cX7_init 63 = .ok (.bipush 16, 2) := by decide +kernel
theorem dX7_init_65 : decode cX7_init 65 = .ok (.newarray .int, 2) := by decide +kernel
theorem dX7_init_67 : decode cX7_init 67 = .ok (.putfield 31, 3) := by decide +kernel
theorem dX7_init_70 : decode cX7_init 70 = .ok (.aload_n 0, 1) := by decide +kernel
theorem dX7_init_71 : decode cX7_init 71 = .ok (.bipush 16, 2) := by decide +kernel
theorem dX7_init_73 : decode cX7_init 73 = .ok (.newarray .int, 2) := by decide +kernel
theorem dX7_init_75 : decode cX7_init 75 = .ok (.putfield 34, 3) := by decide +kernel
theorem dX7_init_78 : decode cX7_init 78 = .ok (.aload_n 0, 1) := by decide +kernel
theorem dX7_init_79 : decode cX7_init 79 = .ok (.bipush 16, 2) := by decide +kernel
theorem dX7_init_81 : decode cX7_init 81 = .ok (.newarray .int, 2) := by decide +kernel
theorem dX7_init_83 : decode cX7_init 83 = .ok (.putfield 37, 3) := by decide +kernel
theorem dX7_init_86 : decode cX7_init 86 = .ok (.aload_n 0, 1) := by decide +kernel
theorem dX7_init_87 : decode cX7_init 87 = .ok (.bipush 16, 2) := by decide +kernel
theorem dX7_init_89 : decode cX7_init 89 = .ok (.newarray .int, 2) := by decide +kernel
theorem dX7_init_91 : decode cX7_init 91 = .ok (.putfield 40, 3) := by decide +kernel
theorem dX7_init_94 : decode cX7_init 94 = .ok (.aload_n 0, 1) := by decide +kernel
theorem dX7_init_95 : decode cX7_init 95 = .ok (.bipush 16, 2) := by decide +kernel
theorem dX7_init_97 : decode cX7_init 97 = .ok (.newarray .boolean, 2) := by decide +kernel
theorem dX7_init_99 : decode cX7_init 99 = .ok (.putfield 43, 3) := by decide +kernel
theorem dX7_init_102 : decode cX7_init 102 = .ok (.aload_n 0, 1) := by decide +kernel
theorem dX7_init_103 : decode cX7_init 103 = .ok (.bipush 16, 2) := by decide +kernel
theorem dX7_init_105 : decode cX7_init 105 = .ok (.newarray .int, 2) := by decide +kernel
theorem dX7_init_107 : decode cX7_init 107 = .ok (.putfield 47, 3) := by decide +kernel
theorem dX7_init_110 : decode cX7_init 110 = .ok (.aload_n 0, 1) := by decide +kernel
theorem dX7_init_111 : decode cX7_init 111 = .ok (.bipush 16, 2) := by decide +kernel
theorem dX7_init_113 : decode cX7_init 113 = .ok (.newarray .int, 2) := by decide +kernel
theorem dX7_init_115 : decode cX7_init 115 = .ok (.putfield 50, 3) := by decide +kernel
theorem dX7_init_118 : decode cX7_init 118 = .ok (.aload_n 0, 1) := by decide +kernel
theorem dX7_init_119 : decode cX7_init 119 = .ok (.bipush 16, 2) := by decide +kernel
theorem dX7_init_121 : decode cX7_init 121 = .ok (.newarray .int, 2) := by decide +kernel
theorem dX7_init_123 : decode cX7_init 123 = .ok (.putfield 53, 3) := by decide +kernel
theorem dX7_init_126 : decode cX7_init 126 = .ok (.aload_n 0, 1) := by decide +kernel
theorem dX7_init_127 : decode cX7_init 127 = .ok (.bipush 16, 2) := by decide +kernel
theorem dX7_init_129 : decode cX7_init 129 = .ok (.newarray .boolean, 2) := by decide +kernel
theorem dX7_init_131 : decode cX7_init 131 = .ok (.putfield 56, 3) := by decide +kernel
theorem dX7_init_134 : decode cX7_init 134 = .ok (.aload_n 0, 1) := by decide +kernel
theorem dX7_init_135 : decode cX7_init 135 = .ok (.bipush 16, 2) := by decide +kernel
theorem dX7_init_137 : decode cX7_init 137 = .ok (.newarray .int, 2) := by decide +kernel
theorem dX7_init_139 : decode cX7_init 139 = .ok (.putfield 59, 3) := by decide +kernel
theorem dX7_init_142 : decode cX7_init 142 = .ok (.aload_n 0, 1) := by decide +kernel
theorem dX7_init_143 : decode cX7_init 143 = .ok (.bipush 16, 2) := by decide +kernel
theorem dX7_init_145 : decode cX7_init 145 = .ok (.newarray .int, 2) := by decide +kernel
theorem dX7_init_147 : decode cX7_init 147 = .ok (.putfield 62, 3) := by decide +kernel
theorem dX7_init_150 : decode cX7_init 150 = .ok (.aload_n 0, 1) := by decide +kernel
theorem dX7_init_151 : decode cX7_init 151 = .ok (.bipush 16, 2) := by decide +kernel
theorem dX7_init_153 : decode cX7_init 153 = .ok (.newarray .int, 2) := by decide +kernel
theorem dX7_init_155 : decode cX7_init 155 = .ok (.putfield 65, 3) := by decide +kernel
theorem dX7_init_158 : decode cX7_init 158 = .ok (.aload_n 0, 1) := by decide +kernel
theorem dX7_init_159 : decode cX7_init 159 = .ok (.bipush 16, 2) := by decide +kernel
theorem dX7_init_161 : decode cX7_init 161 = .ok (.newarray .int, 2) := by decide +kernel
theorem dX7_init_163 : decode cX7_init 163 = .ok (.putfield 68, 3) := by decide +kernel
theorem dX7_init_166 : decode cX7_init 166 = .ok (.aload_n 0, 1) := by decide +kernel
theorem dX7_init_167 : decode cX7_init 167 = .ok (.getfield 7, 3) := by decide +kernel
theorem dX7_init_170 : decode cX7_init 170 = .ok (.sipush 177, 3) := by decide +kernel
theorem dX7_init_173 : decode cX7_init 173 = .ok (.sipush 300, 3) := by decide +kernel
theorem dX7_init_176 : decode cX7_init 176 = .ok (.iastore, 1) := by decide +kernel
theorem dX7_init_177 : decode cX7_init 177 = .ok (.aload_n 0, 1) := by decide +kernel
theorem dX7_init_178 : decode cX7_init 178 = .ok (.getfield 7, 3) := by decide +kernel
theorem dX7_init_181 : decode cX7_init 181 = .ok (.sipush 180, 3) := by decide +kernel
theorem dX7_init_184 : decode cX7_init 184 = .ok (.iconst 1, 1) := by decide +kernel
theorem dX7_init_185 : decode cX7_init 185 = .ok (.iastore, 1) := by decide +kernel
theorem dX7_init_186 : decode cX7_init 186 = .ok (.return_, 1) := by decide +kernel
theorem dX7_in_0 : decode cX7_in 0 = .ok (.iload_n 0, 1) := by decide +kernel
theorem dX7_in_1 : decode cX7_in 1 = .ok (.iload_n 1, 1) := by decide +kernel
theorem dX7_in_2 : decode cX7_in 2 = .ok (.if_icmp .lt 12, 3) := by decide +kernel
theorem dX7_in_5 : decode cX7_in 5 = .ok (.iload_n 0, 1) := by decide +kernel
theorem dX7_in_6 : decode cX7_in 6 = .ok (.iload_n 2, 1) := by decide +kernel
theorem dX7_in_7 : decode cX7_in 7 = .ok (.if_icmp .gt 7, 3) := by decide +kernel
theorem dX7_in_10 : decode cX7_in 10 = .ok (.iconst 1, 1) := by decide +kernel
theorem dX7_in_11 : decode cX7_in 11 = .ok (.goto 4, 3) := by decide +kernel
theorem dX7_in_14 : decode cX7_in 14 = .ok (.iconst 0, 1) := by decide +kernel
theorem dX7_in_15 : decode cX7_in 15 = .ok (.ireturn, 1) := by decide +kernel
theorem dX7_greater_0 : decode cX7_greater 0 = .ok (.iload_n 0, 1) := by decide +kernel
theorem dX7_greater_1 : decode cX7_greater 1 = .ok (.iload_n 1, 1) := by decide +kernel
theorem dX7_greater_2 : decode cX7_greater 2 = .ok (.if_icmp .le 7, 3) := by decide +kernel
theorem dX7_greater_5 : decode cX7_greater 5 = .ok (.iload_n 0, 1) := by decide +kernel
theorem dX7_greater_6 : decode cX7_greater 6 = .ok (.goto 4, 3) := by decide +kernel
theorem dX7_greater_9 : decode cX7_greater 9 = .ok (.iload_n 1, 1) := by decide +kernel
theorem dX7_greater_10 : decode cX7_greater 10 = .ok (.ireturn, 1) := by decide +kernel
theorem dX7_lesser_0 : decode cX7_lesser 0 = .ok (.iload_n 0, 1) := by decide +kernel
theorem dX7_lesser_1 : decode cX7_lesser 1 = .ok (.iload_n 1, 1) := by decide +kernel
theorem dX7_lesser_2 : decode cX7_lesser 2 = .ok (.if_icmp .ge 7, 3) := by decide +kernel
theorem dX7_lesser_5 : decode cX7_lesser 5 = .ok (.iload_n 0, 1) := by decide +kernel
theorem dX7_lesser_6 : decode cX7_lesser 6 = .ok (.goto 4, 3) := by decide +kernel
theorem dX7_lesser_9 : decode cX7_lesser 9 = .ok (.iload_n 1, 1) := by decide +kernel
theorem dX7_lesser_10 : decode cX7_lesser 10 = .ok (.ireturn, 1) := by decide +kernel
theorem dX7_down_0 : decode cX7_down 0 = .ok (.iload_n 0, 1) := by decide +kernel
theorem dX7_down_1 : decode cX7_down 1 = .ok (.ifCond .lt 9, 3) := by decide +kernel
theorem dX7_down_4 : decode cX7_down 4 = .ok (.iload_n 0, 1) := by decide +kernel
theorem dX7_down_5 : decode cX7_down 5 = .ok (.iload_n 1, 1) := by decide +kernel
theorem dX7_down_6 : decode cX7_down 6 = .ok (.idiv, 1) := by decide +kernel
theorem dX7_down_7 : decode cX7_down 7 = .ok (.goto 11, 3) := by decide +kernel
theorem dX7_down_10 : decode cX7_down 10 = .ok (.iload_n 1, 1) := by decide +kernel
theorem dX7_down_11 : decode cX7_down 11 = .ok (.iconst 1, 1) := by decide +kernel
theorem dX7_down_12 : decode cX7_down 12 = .ok (.isub, 1) := by decide +kernel
theorem dX7_down_13 : decode cX7_down 13 = .ok (.iload_n 0, 1) := by decide +kernel
theorem dX7_down_14 : decode cX7_down 14 = .ok (.isub, 1) := by decide +kernel
theorem dX7_down_15 : decode cX7_down 15 = .ok (.iload_n 1, 1) := by decide +kernel
theorem dX7_down_16 : decode cX7_down 16 = .ok (.idiv, 1) := by decide +kernel
theorem dX7_down_17 : decode cX7_down 17 = .ok (.ineg, 1) := by decide +kernel
theorem dX7_down_18 : decode cX7_down 18 = .ok (.ireturn, 1) := by decide +kernel
theorem dX7_keeps_0 : decode cX7_keeps 0 = .ok (.aload_n 0, 1) := by decide +kernel
theorem dX7_keeps_1 : decode cX7_keeps 1 = .ok (.getfield 71, 3) := by decide +kernel
theorem dX7_keeps_4 : decode cX7_keeps 4 = .ok (.bipush 8, 2) := by decide +kernel
theorem dX7_keeps_6 : decode cX7_keeps 6 = .ok (.if_icmp .ne 44, 3) := by decide +kernel
theorem dX7_keeps_9 : decode cX7_keeps 9 = .ok (.iconst 0, 1) := by decide +kernel
theorem dX7_keeps_10 : decode cX7_keeps 10 = .ok (.istore_n 1, 1) := by decide +kernel
theorem dX7_keeps_11 : decode cX7_keeps 11 = .ok (.iload_n 1, 1) := by decide +kernel
theorem dX7_keeps_12 : decode cX7_keeps 12 = .ok (.sipush 1288, 3) := by decide +kernel
theorem dX7_keeps_15 : decode cX7_keeps 15 = .ok (.if_icmp .ge 25, 3) := by decide +kernel
theorem dX7_keeps_18 : decode cX7_keeps 18 = .ok (.aload_n 0, 1) := by decide +kernel
theorem dX7_keeps_19 : decode cX7_keeps 19 = .ok (.getfield 13, 3) := by decide +kernel
theorem dX7_keeps_22 : decode cX7_keeps 22 = .ok (.iload_n 1, 1) := by decide +kernel
theorem dX7_keeps_23 : decode cX7_keeps 23 = .ok (.aload_n 0, 1) := by decide +kernel
theorem dX7_keeps_24 : decode cX7_keeps 24 = .ok (.getfield 13, 3) := by decide +kernel
theorem dX7_keeps_27 : decode cX7_keeps 27 = .ok (.iload_n 1, 1) := by decide +kernel
theorem dX7_keeps_28 : decode cX7_keeps 28 = .ok (.sipush 184, 3) := by decide +kernel
theorem dX7_keeps_31 : decode cX7_keeps 31 = .ok (.iadd, 1) := by decide +kernel
theorem dX7_keeps_32 : decode cX7_keeps 32 = .ok (.iaload, 1) := by decide +kernel
theorem dX7_keeps_33 : decode cX7_keeps 33 = .ok (.iastore, 1) := by decide +kernel
theorem dX7_keeps_34 : decode cX7_keeps 34 = .ok (.iinc 1 1, 3) := by decide +kernel
theorem dX7_keeps_37 : decode cX7_keeps 37 = .ok (.goto (-26), 3) := by decide +kernel
theorem dX7_keeps_40 : decode cX7_keeps 40 = .ok (.aload_n 0, 1) := by decide +kernel
theorem dX7_keeps_41 : decode cX7_keeps 41 = .ok (.dup, 1) := by decide +kernel
theorem dX7_keeps_42 : decode cX7_keeps 42 = .ok (.getfield 71, 3) := by decide +kernel
theorem dX7_keeps_45 : decode cX7_keeps 45 = .ok (.iconst 1, 1) := by decide +kernel
theorem dX7_keeps_46 : decode cX7_keeps 46 = .ok (.isub, 1) := by decide +kernel
theorem dX7_keeps_47 : decode cX7_keeps 47 = .ok (.putfield 71, 3) := by decide +kernel
theorem dX7_keeps_50 : decode cX7_keeps 50 = .ok (.iconst 0, 1) := by decide +kernel
theorem dX7_keeps_51 : decode cX7_keeps 51 = .ok (.istore_n 1, 1) := by decide +kernel
theorem dX7_keeps_52 : decode cX7_keeps 52 = .ok (.iload_n 1, 1) := by decide +kernel
theorem dX7_keeps_53 : decode cX7_keeps 53 = .ok (.sipush 184, 3) := by decide +kernel
theorem dX7_keeps_56 : decode cX7_keeps 56 = .ok (.if_icmp .ge 30, 3) := by decide +kernel
theorem dX7_keeps_59 : decode cX7_keeps 59 = .ok (.aload_n 0, 1) := by decide +kernel
theorem dX7_keeps_60 : decode cX7_keeps 60 = .ok (.getfield 13, 3) := by decide +kernel
theorem dX7_keeps_63 : decode cX7_keeps 63 = .ok (.sipush 184, 3) := by decide +kernel
theorem dX7_keeps_66 : decode cX7_keeps 66 = .ok (.aload_n 0, 1) := by decide +kernel
theorem dX7_keeps_67 : decode cX7_keeps 67 = .ok (.getfield 71, 3) := by decide +kernel
theorem dX7_keeps_70 : decode cX7_keeps 70 = .ok (.imul, 1) := by decide +kernel
theorem dX7_keeps_71 : decode cX7_keeps 71 = .ok (.iload_n 1, 1) := by decide +kernel
theorem dX7_keeps_72 : decode cX7_keeps 72 = .ok (.iadd, 1) := by decide +kernel
theorem dX7_keeps_73 : decode cX7_keeps 73 = .ok (.aload_n 0, 1) := by decide +kernel
theorem dX7_keeps_74 : decode cX7_keeps 74 = .ok (.getfield 7, 3) := by decide +kernel
theorem dX7_keeps_77 : decode cX7_keeps 77 = .ok (.iload_n 1, 1) := by decide +kernel
theorem dX7_keeps_78 : decode cX7_keeps 78 = .ok (.iaload, 1) := by decide +kernel
theorem dX7_keeps_79 : decode cX7_keeps 79 = .ok (.iastore, 1) := by decide +kernel
theorem dX7_keeps_80 : decode cX7_keeps 80 = .ok (.iinc 1 1, 3) := by decide +kernel
theorem dX7_keeps_83 : decode cX7_keeps 83 = .ok (.goto (-31), 3) := by decide +kernel
theorem dX7_keeps_86 : decode cX7_keeps 86 = .ok (.aload_n 0, 1) := by decide +kernel
theorem dX7_keeps_87 : decode cX7_keeps 87 = .ok (.dup, 1) := by decide +kernel
theorem dX7_keeps_88 : decode cX7_keeps 88 = .ok (.getfield 71, 3) := by decide +kernel
theorem dX7_keeps_91 : decode cX7_keeps 91 = .ok (.iconst 1, 1) := by decide +kernel
theorem dX7_keeps_92 : decode cX7_keeps 92 = .ok (.iadd, 1) := by decide +kernel
theorem dX7_keeps_93 : decode cX7_keeps 93 = .ok (.putfield 71, 3) := by decide +kernel
theorem dX7_keeps_96 : decode cX7_keeps 96 = .ok (.return_, 1) := by decide +kernel
theorem dX7_undo_0 : decode cX7_undo 0 = .ok (.aload_n 0, 1) := by decide +kernel
theorem dX7_undo_1 : decode cX7_undo 1 = .ok (.getfield 71, 3) := by decide +kernel
theorem dX7_undo_4 : decode cX7_undo 4 = .ok (.ifCond .ne 7, 3) := by decide +kernel
theorem dX7_undo_7 : decode cX7_undo 7 = .ok (.sipush (-1003), 3) := by decide +kernel
theorem dX7_undo_10 : decode cX7_undo 10 = .ok (.ireturn, 1) := by decide +kernel
theorem dX7_undo_11 : decode cX7_undo 11 = .ok (.aload_n 0, 1) := by decide +kernel
theorem dX7_undo_12 : decode cX7_undo 12 = .ok (.dup, 1) := by decide +kernel
theorem dX7_undo_13 : decode cX7_undo 13 = .ok (.getfield 71, 3) := by decide +kernel
theorem dX7_undo_16 : decode cX7_undo 16 = .ok (.iconst 1, 1) := by decide +kernel
theorem dX7_undo_17 : decode cX7_undo 17 = .ok (.isub, 1) := by decide +kernel
theorem dX7_undo_18 : decode cX7_undo 18 = .ok (.putfield 71, 3) := by decide +kernel
theorem dX7_undo_21 : decode cX7_undo 21 = .ok (.iconst 0, 1) := by decide +kernel
theorem dX7_undo_22 : decode cX7_undo 22 = .ok (.istore_n 1, 1) := by decide +kernel
theorem dX7_undo_23 : decode cX7_undo 23 = .ok (.iload_n 1, 1) := by decide +kernel
theorem dX7_undo_24 : decode cX7_undo 24 = .ok (.sipush 184, 3) := by decide +kernel
theorem dX7_undo_27 : decode cX7_undo 27 = .ok (.if_icmp .ge 30, 3) := by decide +kernel
theorem dX7_undo_30 : decode cX7_undo 30 = .ok (.aload_n 0, 1) := by decide +kernel
theorem dX7_undo_31 : decode cX7_undo 31 = .ok (.getfield 7, 3) := by decide +kernel
theorem dX7_undo_34 : decode cX7_undo 34 = .ok (.iload_n 1, 1) := by decide +kernel
theorem dX7_undo_35 : decode cX7_undo 35 = .ok (.aload_n 0, 1) := by decide +kernel
theorem dX7_undo_36 : decode cX7_undo 36 = .ok (.getfield 13, 3) := by decide +kernel
theorem dX7_undo_39 : decode cX7_undo 39 = .ok (.sipush 184, 3) := by decide +kernel
theorem dX7_undo_42 : decode cX7_undo 42 = .ok (.aload_n 0, 1) := by decide +kernel
theorem dX7_undo_43 : decode cX7_undo 43 = .ok (.getfield 71, 3) := by decide +kernel
theorem dX7_undo_46 : decode cX7_undo 46 = .ok (.imul, 1) := by decide +kernel
theorem dX7_undo_47 : decode cX7_undo 47 = .ok (.iload_n 1, 1) := by decide +kernel
theorem dX7_undo_48 : decode cX7_undo 48 = .ok (.iadd, 1) := by decide +kernel
theorem dX7_undo_49 : decode cX7_undo 49 = .ok (.iaload, 1) := by decide +kernel
theorem dX7_undo_50 : decode cX7_undo 50 = .ok (.iastore, 1) := by decide +kernel
theorem dX7_undo_51 : decode cX7_undo 51 = .ok (.iinc 1 1, 3) := by decide +kernel
theorem dX7_undo_54 : decode cX7_undo 54 = .ok (.goto (-31), 3) := by decide +kernel
theorem dX7_undo_57 : decode cX7_undo 57 = .ok (.aload_n 0, 1) := by decide +kernel
theorem dX7_undo_58 : decode cX7_undo 58 = .ok (.getfield 71, 3) := by decide +kernel
theorem dX7_undo_61 : decode cX7_undo 61 = .ok (.ireturn, 1) := by decide +kernel
theorem dX7_leastOf_0 : decode cX7_leastOf 0 = .ok (.iload_n 0, 1) := by decide +kernel
theorem dX7_leastOf_1 : decode cX7_leastOf 1 = .ok (.bipush 6, 2) := by decide +kernel
theorem dX7_leastOf_3 : decode cX7_leastOf 3 = .ok (.if_icmp .ne 8, 3) := by decide +kernel
theorem dX7_leastOf_6 : decode cX7_leastOf 6 = .ok (.bipush (-9), 2) := by decide +kernel
theorem dX7_leastOf_8 : decode cX7_leastOf 8 = .ok (.goto 14, 3) := by decide +kernel
theorem dX7_leastOf_11 : decode cX7_leastOf 11 = .ok (.iload_n 0, 1) := by decide +kernel
theorem dX7_leastOf_12 : decode cX7_leastOf 12 = .ok (.bipush 7, 2) := by decide +kernel
theorem dX7_leastOf_14 : decode cX7_leastOf 14 = .ok (.if_icmp .ne 7, 3) := by decide +kernel
theorem dX7_leastOf_17 : decode cX7_leastOf 17 = .ok (.iconst 1, 1) := by decide +kernel
theorem dX7_leastOf_18 : decode cX7_leastOf 18 = .ok (.goto 4, 3) := by decide +kernel
theorem dX7_leastOf_21 : decode cX7_leastOf 21 = .ok (.iconst 0, 1) := by decide +kernel
theorem dX7_leastOf_22 : decode cX7_leastOf 22 = .ok (.ireturn, 1) := by decide +kernel
theorem dX7_mostOf_0 : decode cX7_mostOf 0 = .ok (.iload_n 0, 1) := by decide +kernel
theorem dX7_mostOf_1 : decode cX7_mostOf 1 = .ok (.tableswitch 70 0 9 #[55, 70, 70, 55, 55, 59, 70, 62, 65, 68], 55) := by decide +kernel
theorem dX7_mostOf_56 : decode cX7_mostOf 56 = .ok (.sipush 400, 3) := by decide +kernel
theorem dX7_mostOf_59 : decode cX7_mostOf 59 = .ok (.ireturn, 1) := by decide +kernel
theorem dX7_mostOf_60 : decode cX7_mostOf 60 = .ok (.bipush 20, 2) := by decide +kernel
theorem dX7_mostOf_62 : decode cX7_mostOf 62 = .ok (.ireturn, 1) := by decide +kernel
theorem dX7_mostOf_63 : decode cX7_mostOf 63 = .ok (.bipush 100, 2) := by decide +kernel
theorem dX7_mostOf_65 : decode cX7_mostOf 65 = .ok (.ireturn, 1) := by decide +kernel
theorem dX7_mostOf_66 : decode cX7_mostOf 66 = .ok (.bipush 50, 2) := by decide +kernel
theorem dX7_mostOf_68 : decode cX7_mostOf 68 = .ok (.ireturn, 1) := by decide +kernel
theorem dX7_mostOf_69 : decode cX7_mostOf 69 = .ok (.iconst 4, 1) := by decide +kernel
theorem dX7_mostOf_70 : decode cX7_mostOf 70 = .ok (.ireturn, 1) := by decide +kernel
theorem dX7_mostOf_71 : decode cX7_mostOf 71 = .ok (.bipush 9, 2) := by decide +kernel
theorem dX7_mostOf_73 : decode cX7_mostOf 73 = .ok (.ireturn, 1) := by decide +kernel
theorem dX7_type_0 : decode cX7_type 0 = .ok (.iload_n 1, 1) := by decide +kernel
theorem dX7_type_1 : decode cX7_type 1 = .ok (.iconst 0, 1) := by decide +kernel
theorem dX7_type_2 : decode cX7_type 2 = .ok (.bipush 127, 2) := by decide +kernel
theorem dX7_type_4 : decode cX7_type 4 = .ok (.invokestatic 75, 3) := by decide +kernel
theorem dX7_type_7 : decode cX7_type 7 = .ok (.ifCond .ne 7, 3) := by decide +kernel
theorem dX7_type_10 : decode cX7_type 10 = .ok (.sipush (-1002), 3) := by decide +kernel
theorem dX7_type_13 : decode cX7_type 13 = .ok (.ireturn, 1) := by decide +kernel
theorem dX7_type_14 : decode cX7_type 14 = .ok (.aload_n 0, 1) := by decide +kernel
theorem dX7_type_15 : decode cX7_type 15 = .ok (.getfield 79, 3) := by decide +kernel
theorem dX7_type_18 : decode cX7_type 18 = .ok (.bipush 80, 2) := by decide +kernel
theorem dX7_type_20 : decode cX7_type 20 = .ok (.if_icmp .ne 7, 3) := by decide +kernel
theorem dX7_type_23 : decode cX7_type 23 = .ok (.sipush (-1004), 3) := by decide +kernel
theorem dX7_type_26 : decode cX7_type 26 = .ok (.ireturn, 1) := by decide +kernel
theorem dX7_type_27 : decode cX7_type 27 = .ok (.aload_n 0, 1) := by decide +kernel
theorem dX7_type_28 : decode cX7_type 28 = .ok (.getfield 16, 3) := by decide +kernel
theorem dX7_type_31 : decode cX7_type 31 = .ok (.aload_n 0, 1) := by decide +kernel
theorem dX7_type_32 : decode cX7_type 32 = .ok (.getfield 79, 3) := by decide +kernel
theorem dX7_type_35 : decode cX7_type 35 = .ok (.iload_n 1, 1) := by decide +kernel
theorem dX7_type_36 : decode cX7_type 36 = .ok (.iastore, 1) := by decide +kernel
theorem dX7_type_37 : decode cX7_type 37 = .ok (.aload_n 0, 1) := by decide +kernel
theorem dX7_type_38 : decode cX7_type 38 = .ok (.dup, 1) := by decide +kernel
theorem dX7_type_39 : decode cX7_type 39 = .ok (.getfield 79, 3) := by decide +kernel
theorem dX7_type_42 : decode cX7_type 42 = .ok (.iconst 1, 1) := by decide +kernel
theorem dX7_type_43 : decode cX7_type 43 = .ok (.iadd, 1) := by decide +kernel
theorem dX7_type_44 : decode cX7_type 44 = .ok (.putfield 79, 3) := by decide +kernel
theorem dX7_type_47 : decode cX7_type 47 = .ok (.aload_n 0, 1) := by decide +kernel
theorem dX7_type_48 : decode cX7_type 48 = .ok (.getfield 79, 3) := by decide +kernel
theorem dX7_type_51 : decode cX7_type 51 = .ok (.ireturn, 1) := by decide +kernel
theorem dX7_clear_0 : decode cX7_clear 0 = .ok (.aload_n 0, 1) := by decide +kernel
theorem dX7_clear_1 : decode cX7_clear 1 = .ok (.getfield 79, 3) := by decide +kernel
theorem dX7_clear_4 : decode cX7_clear 4 = .ok (.istore_n 1, 1) := by decide +kernel
theorem dX7_clear_5 : decode cX7_clear 5 = .ok (.aload_n 0, 1) := by decide +kernel
theorem dX7_clear_6 : decode cX7_clear 6 = .ok (.iconst 0, 1) := by decide +kernel
theorem dX7_clear_7 : decode cX7_clear 7 = .ok (.putfield 79, 3) := by decide +kernel
theorem dX7_clear_10 : decode cX7_clear 10 = .ok (.iload_n 1, 1) := by decide +kernel
theorem dX7_clear_11 : decode cX7_clear 11 = .ok (.ireturn, 1) := by decide +kernel
theorem dX7_next_0 : decode cX7_next 0 = .ok (.aload_n 0, 1) := by decide +kernel
theorem dX7_next_1 : decode cX7_next 1 = .ok (.getfield 82, 3) := by decide +kernel
theorem dX7_next_4 : decode cX7_next 4 = .ok (.aload_n 0, 1) := by decide +kernel
theorem dX7_next_5 : decode cX7_next 5 = .ok (.getfield 79, 3) := by decide +kernel
theorem dX7_next_8 : decode cX7_next 8 = .ok (.if_icmp .ge 15, 3) := by decide +kernel
theorem dX7_next_11 : decode cX7_next 11 = .ok (.aload_n 0, 1) := by decide +kernel
theorem dX7_next_12 : decode cX7_next 12 = .ok (.getfield 16, 3) := by decide +kernel
theorem dX7_next_15 : decode cX7_next 15 = .ok (.aload_n 0, 1) := by decide +kernel
theorem dX7_next_16 : decode cX7_next 16 = .ok (.getfield 82, 3) := by decide +kernel
theorem dX7_next_19 : decode cX7_next 19 = .ok (.iaload, 1) := by decide +kernel
theorem dX7_next_20 : decode cX7_next 20 = .ok (.goto 4, 3) := by decide +kernel
theorem dX7_next_23 : decode cX7_next 23 = .ok (.iconst (-1), 1) := by decide +kernel
theorem dX7_next_24 : decode cX7_next 24 = .ok (.ireturn, 1) := by decide +kernel
theorem dX7_isDigit_0 : decode cX7_isDigit 0 = .ok (.aload_n 0, 1) := by decide +kernel
theorem dX7_isDigit_1 : decode cX7_isDigit 1 = .ok (.invokevirtual 85, 3) := by decide +kernel
theorem dX7_isDigit_4 : decode cX7_isDigit 4 = .ok (.bipush 48, 2) := by decide +kernel
theorem dX7_isDigit_6 : decode cX7_isDigit 6 = .ok (.bipush 57, 2) := by decide +kernel
theorem dX7_isDigit_8 : decode cX7_isDigit 8 = .ok (.invokestatic 75, 3) := by decide +kernel
theorem dX7_isDigit_11 : decode cX7_isDigit 11 = .ok (.ireturn, 1) := by decide +kernel
theorem dX7_skips_0 : decode cX7_skips 0 = .ok (.aload_n 0, 1) := by decide +kernel
theorem dX7_skips_1 : decode cX7_skips 1 = .ok (.invokevirtual 85, 3) := by decide +kernel
theorem dX7_skips_4 : decode cX7_skips 4 = .ok (.bipush 32, 2) := by decide +kernel
theorem dX7_skips_6 : decode cX7_skips 6 = .ok (.if_icmp .ne 16, 3) := by decide +kernel
theorem dX7_skips_9 : decode cX7_skips 9 = .ok (.aload_n 0, 1) := by decide +kernel
theorem dX7_skips_10 : decode cX7_skips 10 = .ok (.dup, 1) := by decide +kernel
theorem dX7_skips_11 : decode cX7_skips 11 = .ok (.getfield 82, 3) := by decide +kernel
theorem dX7_skips_14 : decode cX7_skips 14 = .ok (.iconst 1, 1) := by decide +kernel
theorem dX7_skips_15 : decode cX7_skips 15 = .ok (.iadd, 1) := by decide +kernel
theorem dX7_skips_16 : decode cX7_skips 16 = .ok (.putfield 82, 3) := by decide +kernel
theorem dX7_skips_19 : decode cX7_skips 19 = .ok (.goto (-19), 3) := by decide +kernel
theorem dX7_skips_22 : decode cX7_skips 22 = .ok (.return_, 1) := by decide +kernel
theorem dX7_fails_0 : decode cX7_fails 0 = .ok (.aload_n 0, 1) := by decide +kernel
theorem dX7_fails_1 : decode cX7_fails 1 = .ok (.aload_n 0, 1) := by decide +kernel
theorem dX7_fails_2 : decode cX7_fails 2 = .ok (.getfield 89, 3) := by decide +kernel
theorem dX7_fails_5 : decode cX7_fails 5 = .ok (.sipush (-1001), 3) := by decide +kernel
theorem dX7_fails_8 : decode cX7_fails 8 = .ok (.if_icmp .ne 7, 3) := by decide +kernel
theorem dX7_fails_11 : decode cX7_fails 11 = .ok (.iload_n 1, 1) := by decide +kernel
theorem dX7_fails_12 : decode cX7_fails 12 = .ok (.goto 7, 3) := by decide +kernel
