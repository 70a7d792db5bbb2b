theorem dL_changes_87 : decode cL_changes 87 = .ok (.isub, 1) := by decide +kernel
theorem dL_changes_88 : decode cL_changes 88 = .ok (.invokevirtual 69, 3) := by decide +kernel
theorem dL_changes_91 : decode cL_changes 91 = .ok (.sipush (-1002), 3) := by decide +kernel
theorem dL_changes_94 : decode cL_changes 94 = .ok (.if_icmp .ne 21, 3) := by decide +kernel
theorem dL_changes_97 : decode cL_changes 97 = .ok (.aload_n 0, 1) := by decide +kernel
theorem dL_changes_98 : decode cL_changes 98 = .ok (.iload_n 2, 1) := by decide +kernel
theorem dL_changes_99 : decode cL_changes 99 = .ok (.bipush 10, 2) := by decide +kernel
theorem dL_changes_101 : decode cL_changes 101 = .ok (.iconst 0, 1) := by decide +kernel
theorem dL_changes_102 : decode cL_changes 102 = .ok (.invokevirtual 69, 3) := by decide +kernel
theorem dL_changes_105 : decode cL_changes 105 = .ok (.sipush (-1002), 3) := by decide +kernel
theorem dL_changes_108 : decode cL_changes 108 = .ok (.if_icmp .ne 7, 3) := by decide +kernel
theorem dL_changes_111 : decode cL_changes 111 = .ok (.iconst 1, 1) := by decide +kernel
theorem dL_changes_112 : decode cL_changes 112 = .ok (.goto 4, 3) := by decide +kernel
theorem dL_changes_115 : decode cL_changes 115 = .ok (.iconst 0, 1) := by decide +kernel
theorem dL_changes_116 : decode cL_changes 116 = .ok (.ireturn, 1) := by decide +kernel
theorem dL_hides_0 : decode cL_hides 0 = .ok (.aload_n 1, 1) := by decide +kernel
theorem dL_hides_1 : decode cL_hides 1 = .ok (.bipush 12, 2) := by decide +kernel
theorem dL_hides_3 : decode cL_hides 3 = .ok (.iload_n 2, 1) := by decide +kernel
theorem dL_hides_4 : decode cL_hides 4 = .ok (.imul, 1) := by decide +kernel
theorem dL_hides_5 : decode cL_hides 5 = .ok (.bipush 10, 2) := by decide +kernel
theorem dL_hides_7 : decode cL_hides 7 = .ok (.iadd, 1) := by decide +kernel
theorem dL_hides_8 : decode cL_hides 8 = .ok (.iconst 1, 1) := by decide +kernel
theorem dL_hides_9 : decode cL_hides 9 = .ok (.aload_n 1, 1) := by decide +kernel
theorem dL_hides_10 : decode cL_hides 10 = .ok (.bipush 12, 2) := by decide +kernel
theorem dL_hides_12 : decode cL_hides 12 = .ok (.iload_n 2, 1) := by decide +kernel
theorem dL_hides_13 : decode cL_hides 13 = .ok (.imul, 1) := by decide +kernel
theorem dL_hides_14 : decode cL_hides 14 = .ok (.bipush 10, 2) := by decide +kernel
theorem dL_hides_16 : decode cL_hides 16 = .ok (.iadd, 1) := by decide +kernel
theorem dL_hides_17 : decode cL_hides 17 = .ok (.iaload, 1) := by decide +kernel
theorem dL_hides_18 : decode cL_hides 18 = .ok (.isub, 1) := by decide +kernel
theorem dL_hides_19 : decode cL_hides 19 = .ok (.iastore, 1) := by decide +kernel
theorem dL_hides_20 : decode cL_hides 20 = .ok (.aload_n 0, 1) := by decide +kernel
theorem dL_hides_21 : decode cL_hides 21 = .ok (.iload_n 2, 1) := by decide +kernel
theorem dL_hides_22 : decode cL_hides 22 = .ok (.invokevirtual 73, 3) := by decide +kernel
theorem dL_hides_25 : decode cL_hides 25 = .ok (.aload_n 1, 1) := by decide +kernel
theorem dL_hides_26 : decode cL_hides 26 = .ok (.bipush 12, 2) := by decide +kernel
theorem dL_hides_28 : decode cL_hides 28 = .ok (.iload_n 2, 1) := by decide +kernel
theorem dL_hides_29 : decode cL_hides 29 = .ok (.imul, 1) := by decide +kernel
theorem dL_hides_30 : decode cL_hides 30 = .ok (.bipush 10, 2) := by decide +kernel
theorem dL_hides_32 : decode cL_hides 32 = .ok (.iadd, 1) := by decide +kernel
theorem dL_hides_33 : decode cL_hides 33 = .ok (.iaload, 1) := by decide +kernel
theorem dL_hides_34 : decode cL_hides 34 = .ok (.if_icmp .ne 7, 3) := by decide +kernel
theorem dL_hides_37 : decode cL_hides 37 = .ok (.iconst 1, 1) := by decide +kernel
theorem dL_hides_38 : decode cL_hides 38 = .ok (.goto 4, 3) := by decide +kernel
theorem dL_hides_41 : decode cL_hides 41 = .ok (.iconst 0, 1) := by decide +kernel
theorem dL_hides_42 : decode cL_hides 42 = .ok (.ireturn, 1) := by decide +kernel
theorem dL_sets_0 : decode cL_sets 0 = .ok (.iload_n 2, 1) := by decide +kernel
theorem dL_sets_1 : decode cL_sets 1 = .ok (.bipush 7, 2) := by decide +kernel
theorem dL_sets_3 : decode cL_sets 3 = .ok (.invokestatic 35, 3) := by decide +kernel
theorem dL_sets_6 : decode cL_sets 6 = .ok (.istore_n 3, 1) := by decide +kernel
theorem dL_sets_7 : decode cL_sets 7 = .ok (.iload_n 3, 1) := by decide +kernel
theorem dL_sets_8 : decode cL_sets 8 = .ok (.ifCond .ne 9, 3) := by decide +kernel
theorem dL_sets_11 : decode cL_sets 11 = .ok (.sipush 999, 3) := by decide +kernel
theorem dL_sets_14 : decode cL_sets 14 = .ok (.goto 37, 3) := by decide +kernel
theorem dL_sets_17 : decode cL_sets 17 = .ok (.iload_n 3, 1) := by decide +kernel
theorem dL_sets_18 : decode cL_sets 18 = .ok (.iconst 1, 1) := by decide +kernel
theorem dL_sets_19 : decode cL_sets 19 = .ok (.if_icmp .eq 8, 3) := by decide +kernel
theorem dL_sets_22 : decode cL_sets 22 = .ok (.iload_n 3, 1) := by decide +kernel
theorem dL_sets_23 : decode cL_sets 23 = .ok (.iconst 2, 1) := by decide +kernel
theorem dL_sets_24 : decode cL_sets 24 = .ok (.if_icmp .ne 8, 3) := by decide +kernel
theorem dL_sets_27 : decode cL_sets 27 = .ok (.bipush 40, 2) := by decide +kernel
theorem dL_sets_29 : decode cL_sets 29 = .ok (.goto 22, 3) := by decide +kernel
theorem dL_sets_32 : decode cL_sets 32 = .ok (.iload_n 3, 1) := by decide +kernel
theorem dL_sets_33 : decode cL_sets 33 = .ok (.iconst 4, 1) := by decide +kernel
theorem dL_sets_34 : decode cL_sets 34 = .ok (.if_icmp .ne 7, 3) := by decide +kernel
theorem dL_sets_37 : decode cL_sets 37 = .ok (.iconst 5, 1) := by decide +kernel
theorem dL_sets_38 : decode cL_sets 38 = .ok (.goto 13, 3) := by decide +kernel
theorem dL_sets_41 : decode cL_sets 41 = .ok (.iload_n 3, 1) := by decide +kernel
theorem dL_sets_42 : decode cL_sets 42 = .ok (.iconst 5, 1) := by decide +kernel
theorem dL_sets_43 : decode cL_sets 43 = .ok (.if_icmp .ne 7, 3) := by decide +kernel
theorem dL_sets_46 : decode cL_sets 46 = .ok (.iconst 3, 1) := by decide +kernel
theorem dL_sets_47 : decode cL_sets 47 = .ok (.goto 4, 3) := by decide +kernel
theorem dL_sets_50 : decode cL_sets 50 = .ok (.iconst 1, 1) := by decide +kernel
theorem dL_sets_51 : decode cL_sets 51 = .ok (.istore 4, 2) := by decide +kernel
theorem dL_sets_53 : decode cL_sets 53 = .ok (.aload_n 1, 1) := by decide +kernel
theorem dL_sets_54 : decode cL_sets 54 = .ok (.iload_n 3, 1) := by decide +kernel
theorem dL_sets_55 : decode cL_sets 55 = .ok (.iaload, 1) := by decide +kernel
theorem dL_sets_56 : decode cL_sets 56 = .ok (.istore 5, 2) := by decide +kernel
theorem dL_sets_58 : decode cL_sets 58 = .ok (.aload_n 1, 1) := by decide +kernel
theorem dL_sets_59 : decode cL_sets 59 = .ok (.iload_n 3, 1) := by decide +kernel
theorem dL_sets_60 : decode cL_sets 60 = .ok (.iload_n 3, 1) := by decide +kernel
theorem dL_sets_61 : decode cL_sets 61 = .ok (.ifCond .ne 35, 3) := by decide +kernel
theorem dL_sets_64 : decode cL_sets 64 = .ok (.bipush 20, 2) := by decide +kernel
theorem dL_sets_66 : decode cL_sets 66 = .ok (.iload_n 2, 1) := by decide +kernel
theorem dL_sets_67 : decode cL_sets 67 = .ok (.iconst 3, 1) := by decide +kernel
theorem dL_sets_68 : decode cL_sets 68 = .ok (.ishr, 1) := by decide +kernel
theorem dL_sets_69 : decode cL_sets 69 = .ok (.iload_n 2, 1) := by decide +kernel
theorem dL_sets_70 : decode cL_sets 70 = .ok (.bipush 13, 2) := by decide +kernel
theorem dL_sets_72 : decode cL_sets 72 = .ok (.ishr, 1) := by decide +kernel
theorem dL_sets_73 : decode cL_sets 73 = .ok (.iconst 3, 1) := by decide +kernel
theorem dL_sets_74 : decode cL_sets 74 = .ok (.invokestatic 35, 3) := by decide +kernel
theorem dL_sets_77 : decode cL_sets 77 = .ok (.ifCond .ne 9, 3) := by decide +kernel
theorem dL_sets_80 : decode cL_sets 80 = .ok (.sipush 980, 3) := by decide +kernel
theorem dL_sets_83 : decode cL_sets 83 = .ok (.goto 6, 3) := by decide +kernel
theorem dL_sets_86 : decode cL_sets 86 = .ok (.sipush 300, 3) := by decide +kernel
theorem dL_sets_89 : decode cL_sets 89 = .ok (.invokestatic 35, 3) := by decide +kernel
theorem dL_sets_92 : decode cL_sets 92 = .ok (.iadd, 1) := by decide +kernel
theorem dL_sets_93 : decode cL_sets 93 = .ok (.goto 13, 3) := by decide +kernel
theorem dL_sets_96 : decode cL_sets 96 = .ok (.iload_n 2, 1) := by decide +kernel
theorem dL_sets_97 : decode cL_sets 97 = .ok (.iconst 3, 1) := by decide +kernel
theorem dL_sets_98 : decode cL_sets 98 = .ok (.ishr, 1) := by decide +kernel
theorem dL_sets_99 : decode cL_sets 99 = .ok (.iload 4, 2) := by decide +kernel
theorem dL_sets_101 : decode cL_sets 101 = .ok (.iconst 1, 1) := by decide +kernel
theorem dL_sets_102 : decode cL_sets 102 = .ok (.iadd, 1) := by decide +kernel
theorem dL_sets_103 : decode cL_sets 103 = .ok (.invokestatic 35, 3) := by decide +kernel
theorem dL_sets_106 : decode cL_sets 106 = .ok (.iastore, 1) := by decide +kernel
theorem dL_sets_107 : decode cL_sets 107 = .ok (.aload_n 0, 1) := by decide +kernel
theorem dL_sets_108 : decode cL_sets 108 = .ok (.iload_n 3, 1) := by decide +kernel
theorem dL_sets_109 : decode cL_sets 109 = .ok (.aload_n 1, 1) := by decide +kernel
theorem dL_sets_110 : decode cL_sets 110 = .ok (.iload_n 3, 1) := by decide +kernel
theorem dL_sets_111 : decode cL_sets 111 = .ok (.iaload, 1) := by decide +kernel
theorem dL_sets_112 : decode cL_sets 112 = .ok (.invokevirtual 76, 3) := by decide +kernel
theorem dL_sets_115 : decode cL_sets 115 = .ok (.iload 5, 2) := by decide +kernel
theorem dL_sets_117 : decode cL_sets 117 = .ok (.if_icmp .ne 56, 3) := by decide +kernel
theorem dL_sets_120 : decode cL_sets 120 = .ok (.aload_n 0, 1) := by decide +kernel
theorem dL_sets_121 : decode cL_sets 121 = .ok (.iload_n 3, 1) := by decide +kernel
theorem dL_sets_122 : decode cL_sets 122 = .ok (.iload 4, 2) := by decide +kernel
theorem dL_sets_124 : decode cL_sets 124 = .ok (.iconst 1, 1) := by decide +kernel
theorem dL_sets_125 : decode cL_sets 125 = .ok (.iadd, 1) := by decide +kernel
theorem dL_sets_126 : decode cL_sets 126 = .ok (.invokevirtual 76, 3) := by decide +kernel
theorem dL_sets_129 : decode cL_sets 129 = .ok (.sipush (-1002), 3) := by decide +kernel
theorem dL_sets_132 : decode cL_sets 132 = .ok (.if_icmp .ne 41, 3) := by decide +kernel
theorem dL_sets_135 : decode cL_sets 135 = .ok (.aload_n 0, 1) := by decide +kernel
theorem dL_sets_136 : decode cL_sets 136 = .ok (.iload_n 3, 1) := by decide +kernel
theorem dL_sets_137 : decode cL_sets 137 = .ok (.iload_n 3, 1) := by decide +kernel
theorem dL_sets_138 : decode cL_sets 138 = .ok (.ifCond .ne 8, 3) := by decide +kernel
theorem dL_sets_141 : decode cL_sets 141 = .ok (.bipush 19, 2) := by decide +kernel
theorem dL_sets_143 : decode cL_sets 143 = .ok (.goto 4, 3) := by decide +kernel
theorem dL_sets_146 : decode cL_sets 146 = .ok (.iconst (-1), 1) := by decide +kernel
theorem dL_sets_147 : decode cL_sets 147 = .ok (.invokevirtual 76, 3) := by decide +kernel
theorem dL_sets_150 : decode cL_sets 150 = .ok (.sipush (-1002), 3) := by decide +kernel
theorem dL_sets_153 : decode cL_sets 153 = .ok (.if_icmp .ne 20, 3) := by decide +kernel
theorem dL_sets_156 : decode cL_sets 156 = .ok (.aload_n 0, 1) := by decide +kernel
theorem dL_sets_157 : decode cL_sets 157 = .ok (.bipush 7, 2) := by decide +kernel
theorem dL_sets_159 : decode cL_sets 159 = .ok (.iconst 0, 1) := by decide +kernel
theorem dL_sets_160 : decode cL_sets 160 = .ok (.invokevirtual 76, 3) := by decide +kernel
theorem dL_sets_163 : decode cL_sets 163 = .ok (.sipush (-1002), 3) := by decide +kernel
theorem dL_sets_166 : decode cL_sets 166 = .ok (.if_icmp .ne 7, 3) := by decide +kernel
theorem dL_sets_169 : decode cL_sets 169 = .ok (.iconst 1, 1) := by decide +kernel
theorem dL_sets_170 : decode cL_sets 170 = .ok (.goto 4, 3) := by decide +kernel
theorem dL_sets_173 : decode cL_sets 173 = .ok (.iconst 0, 1) := by decide +kernel
theorem dL_sets_174 : decode cL_sets 174 = .ok (.ireturn, 1) := by decide +kernel
theorem dL_wish_0 : decode cL_wish 0 = .ok (.aload_n 0, 1) := by decide +kernel
theorem dL_wish_1 : decode cL_wish 1 = .ok (.bipush 12, 2) := by decide +kernel
theorem dL_wish_3 : decode cL_wish 3 = .ok (.iload_n 1, 1) := by decide +kernel
theorem dL_wish_4 : decode cL_wish 4 = .ok (.imul, 1) := by decide +kernel
theorem dL_wish_5 : decode cL_wish 5 = .ok (.iconst 4, 1) := by decide +kernel
theorem dL_wish_6 : decode cL_wish 6 = .ok (.iadd, 1) := by decide +kernel
theorem dL_wish_7 : decode cL_wish 7 = .ok (.iaload, 1) := by decide +kernel
theorem dL_wish_8 : decode cL_wish 8 = .ok (.aload_n 0, 1) := by decide +kernel
theorem dL_wish_9 : decode cL_wish 9 = .ok (.bipush 12, 2) := by decide +kernel
theorem dL_wish_11 : decode cL_wish 11 = .ok (.iload_n 1, 1) := by decide +kernel
theorem dL_wish_12 : decode cL_wish 12 = .ok (.imul, 1) := by decide +kernel
theorem dL_wish_13 : decode cL_wish 13 = .ok (.iconst 3, 1) := by decide +kernel
theorem dL_wish_14 : decode cL_wish 14 = .ok (.iadd, 1) := by decide +kernel
theorem dL_wish_15 : decode cL_wish 15 = .ok (.iaload, 1) := by decide +kernel
theorem dL_wish_16 : decode cL_wish 16 = .ok (.if_icmp .ge 14, 3) := by decide +kernel
theorem dL_wish_19 : decode cL_wish 19 = .ok (.aload_n 0, 1) := by decide +kernel
theorem dL_wish_20 : decode cL_wish 20 = .ok (.bipush 12, 2) := by decide +kernel
theorem dL_wish_22 : decode cL_wish 22 = .ok (.iload_n 1, 1) := by decide +kernel
theorem dL_wish_23 : decode cL_wish 23 = .ok (.imul, 1) := by decide +kernel
theorem dL_wish_24 : decode cL_wish 24 = .ok (.iconst 3, 1) := by decide +kernel
theorem dL_wish_25 : decode cL_wish 25 = .ok (.iadd, 1) := by decide +kernel
theorem dL_wish_26 : decode cL_wish 26 = .ok (.iaload, 1) := by decide +kernel
theorem dL_wish_27 : decode cL_wish 27 = .ok (.goto 11, 3) := by decide +kernel
theorem dL_wish_30 : decode cL_wish 30 = .ok (.aload_n 0, 1) := by decide +kernel
theorem dL_wish_31 : decode cL_wish 31 = .ok (.bipush 12, 2) := by decide +kernel
theorem dL_wish_33 : decode cL_wish 33 = .ok (.iload_n 1, 1) := by decide +kernel
theorem dL_wish_34 : decode cL_wish 34 = .ok (.imul, 1) := by decide +kernel
theorem dL_wish_35 : decode cL_wish 35 = .ok (.iconst 4, 1) := by decide +kernel
theorem dL_wish_36 : decode cL_wish 36 = .ok (.iadd, 1) := by decide +kernel
theorem dL_wish_37 : decode cL_wish 37 = .ok (.iaload, 1) := by decide +kernel
theorem dL_wish_38 : decode cL_wish 38 = .ok (.istore_n 2, 1) := by decide +kernel
theorem dL_wish_39 : decode cL_wish 39 = .ok (.aload_n 0, 1) := by decide +kernel
theorem dL_wish_40 : decode cL_wish 40 = .ok (.bipush 12, 2) := by decide +kernel
theorem dL_wish_42 : decode cL_wish 42 = .ok (.iload_n 1, 1) := by decide +kernel
theorem dL_wish_43 : decode cL_wish 43 = .ok (.imul, 1) := by decide +kernel
theorem dL_wish_44 : decode cL_wish 44 = .ok (.iaload, 1) := by decide +kernel
theorem dL_wish_45 : decode cL_wish 45 = .ok (.aload_n 0, 1) := by decide +kernel
theorem dL_wish_46 : decode cL_wish 46 = .ok (.bipush 12, 2) := by decide +kernel
theorem dL_wish_48 : decode cL_wish 48 = .ok (.iload_n 1, 1) := by decide +kernel
theorem dL_wish_49 : decode cL_wish 49 = .ok (.imul, 1) := by decide +kernel
theorem dL_wish_50 : decode cL_wish 50 = .ok (.iconst 3, 1) := by decide +kernel
theorem dL_wish_51 : decode cL_wish 51 = .ok (.iadd, 1) := by decide +kernel
theorem dL_wish_52 : decode cL_wish 52 = .ok (.iaload, 1) := by decide +kernel
theorem dL_wish_53 : decode cL_wish 53 = .ok (.if_icmp .ge 14, 3) := by decide +kernel
theorem dL_wish_56 : decode cL_wish 56 = .ok (.aload_n 0, 1) := by decide +kernel
theorem dL_wish_57 : decode cL_wish 57 = .ok (.bipush 12, 2) := by decide +kernel
theorem dL_wish_59 : decode cL_wish 59 = .ok (.iload_n 1, 1) := by decide +kernel
theorem dL_wish_60 : decode cL_wish 60 = .ok (.imul, 1) := by decide +kernel
theorem dL_wish_61 : decode cL_wish 61 = .ok (.iconst 3, 1) := by decide +kernel
theorem dL_wish_62 : decode cL_wish 62 = .ok (.iadd, 1) := by decide +kernel
theorem dL_wish_63 : decode cL_wish 63 = .ok (.iaload, 1) := by decide +kernel
theorem dL_wish_64 : decode cL_wish 64 = .ok (.goto 23, 3) := by decide +kernel
theorem dL_wish_67 : decode cL_wish 67 = .ok (.aload_n 0, 1) := by decide +kernel
theorem dL_wish_68 : decode cL_wish 68 = .ok (.bipush 12, 2) := by decide +kernel
theorem dL_wish_70 : decode cL_wish 70 = .ok (.iload_n 1, 1) := by decide +kernel
theorem dL_wish_71 : decode cL_wish 71 = .ok (.imul, 1) := by decide +kernel
theorem dL_wish_72 : decode cL_wish 72 = .ok (.iaload, 1) := by decide +kernel
theorem dL_wish_73 : decode cL_wish 73 = .ok (.iload_n 2, 1) := by decide +kernel
theorem dL_wish_74 : decode cL_wish 74 = .ok (.if_icmp .le 7, 3) := by decide +kernel
theorem dL_wish_77 : decode cL_wish 77 = .ok (.iload_n 2, 1) := by decide +kernel
theorem dL_wish_78 : decode cL_wish 78 = .ok (.goto 9, 3) := by decide +kernel
theorem dL_wish_81 : decode cL_wish 81 = .ok (.aload_n 0, 1) := by decide +kernel
theorem dL_wish_82 : decode cL_wish 82 = .ok (.bipush 12, 2) := by decide +kernel
theorem dL_wish_84 : decode cL_wish 84 = .ok (.iload_n 1, 1) := by decide +kernel
theorem dL_wish_85 : decode cL_wish 85 = .ok (.imul, 1) := by decide +kernel
theorem dL_wish_86 : decode cL_wish 86 = .ok (.iaload, 1) := by decide +kernel
theorem dL_wish_87 : decode cL_wish 87 = .ok (.ireturn, 1) := by decide +kernel
theorem dL_orders_0 : decode cL_orders 0 = .ok (.iconst 0, 1) := by decide +kernel
theorem dL_orders_1 : decode cL_orders 1 = .ok (.istore_n 3, 1) := by decide +kernel
theorem dL_orders_2 : decode cL_orders 2 = .ok (.bipush (-9), 2) := by decide +kernel
theorem dL_orders_4 : decode cL_orders 4 = .ok (.istore 4, 2) := by decide +kernel
theorem dL_orders_6 : decode cL_orders 6 = .ok (.iload 4, 2) := by decide +kernel
theorem dL_orders_8 : decode cL_orders 8 = .ok (.bipush 10, 2) := by decide +kernel
theorem dL_orders_10 : decode cL_orders 10 = .ok (.if_icmp .ge 63, 3) := by decide +kernel
theorem dL_orders_13 : decode cL_orders 13 = .ok (.iconst 0, 1) := by decide +kernel
theorem dL_orders_14 : decode cL_orders 14 = .ok (.istore 5, 2) := by decide +kernel
theorem dL_orders_16 : decode cL_orders 16 = .ok (.iload 5, 2) := by decide +kernel
theorem dL_orders_18 : decode cL_orders 18 = .ok (.aload_n 0, 1) := by decide +kernel
theorem dL_orders_19 : decode cL_orders 19 = .ok (.bipush 60, 2) := by decide +kernel
theorem dL_orders_21 : decode cL_orders 21 = .ok (.iaload, 1) := by decide +kernel
theorem dL_orders_22 : decode cL_orders 22 = .ok (.if_icmp .ge 45, 3) := by decide +kernel
theorem dL_orders_25 : decode cL_orders 25 = .ok (.aload_n 0, 1) := by decide +kernel
theorem dL_orders_26 : decode cL_orders 26 = .ok (.bipush 12, 2) := by decide +kernel
theorem dL_orders_28 : decode cL_orders 28 = .ok (.iload 5, 2) := by decide +kernel
theorem dL_orders_30 : decode cL_orders 30 = .ok (.imul, 1) := by decide +kernel
theorem dL_orders_31 : decode cL_orders 31 = .ok (.bipush 6, 2) := by decide +kernel
theorem dL_orders_33 : decode cL_orders 33 = .ok (.iadd, 1) := by decide +kernel
theorem dL_orders_34 : decode cL_orders 34 = .ok (.iaload, 1) := by decide +kernel
theorem dL_orders_35 : decode cL_orders 35 = .ok (.iload 4, 2) := by decide +kernel
theorem dL_orders_37 : decode cL_orders 37 = .ok (.if_icmp .ne 24, 3) := by decide +kernel
theorem dL_orders_40 : decode cL_orders 40 = .ok (.aload_n 0, 1) := by decide +kernel
theorem dL_orders_41 : decode cL_orders 41 = .ok (.bipush 12, 2) := by decide +kernel
theorem dL_orders_43 : decode cL_orders 43 = .ok (.iload 5, 2) := by decide +kernel
theorem dL_orders_45 : decode cL_orders 45 = .ok (.imul, 1) := by decide +kernel
theorem dL_orders_46 : decode cL_orders 46 = .ok (.bipush 10, 2) := by decide +kernel
theorem dL_orders_48 : decode cL_orders 48 = .ok (.iadd, 1) := by decide +kernel
theorem dL_orders_49 : decode cL_orders 49 = .ok (.iaload, 1) := by decide +kernel
theorem dL_orders_50 : decode cL_orders 50 = .ok (.ifCond .ne 11, 3) := by decide +kernel
theorem dL_orders_53 : decode cL_orders 53 = .ok (.aload_n 2, 1) := by decide +kernel
theorem dL_orders_54 : decode cL_orders 54 = .ok (.iload_n 3, 1) := by decide +kernel
theorem dL_orders_55 : decode cL_orders 55 = .ok (.iload 5, 2) := by decide +kernel
theorem dL_orders_57 : decode cL_orders 57 = .ok (.iastore, 1) := by decide +kernel
theorem dL_orders_58 : decode cL_orders 58 = .ok (.iinc 3 1, 3) := by decide +kernel
theorem dL_orders_61 : decode cL_orders 61 = .ok (.iinc 5 1, 3) := by decide +kernel
theorem dL_orders_64 : decode cL_orders 64 = .ok (.goto (-48), 3) := by decide +kernel
theorem dL_orders_67 : decode cL_orders 67 = .ok (.iinc 4 1, 3) := by decide +kernel
theorem dL_orders_70 : decode cL_orders 70 = .ok (.goto (-64), 3) := by decide +kernel
theorem dL_orders_73 : decode cL_orders 73 = .ok (.iconst (-1), 1) := by decide +kernel
theorem dL_orders_74 : decode cL_orders 74 = .ok (.istore 4, 2) := by decide +kernel
theorem dL_orders_76 : decode cL_orders 76 = .ok (.iconst 0, 1) := by decide +kernel
theorem dL_orders_77 : decode cL_orders 77 = .ok (.istore 5, 2) := by decide +kernel
theorem dL_orders_79 : decode cL_orders 79 = .ok (.iconst 0, 1) := by decide +kernel
theorem dL_orders_80 : decode cL_orders 80 = .ok (.istore 6, 2) := by decide +kernel
theorem dL_orders_82 : decode cL_orders 82 = .ok (.iload 6, 2) := by decide +kernel
theorem dL_orders_84 : decode cL_orders 84 = .ok (.iload_n 3, 1) := by decide +kernel
theorem dL_orders_85 : decode cL_orders 85 = .ok (.if_icmp .ge 90, 3) := by decide +kernel
theorem dL_orders_88 : decode cL_orders 88 = .ok (.aload_n 0, 1) := by decide +kernel
theorem dL_orders_89 : decode cL_orders 89 = .ok (.aload_n 2, 1) := by decide +kernel
theorem dL_orders_90 : decode cL_orders 90 = .ok (.iload 6, 2) := by decide +kernel
theorem dL_orders_92 : decode cL_orders 92 = .ok (.iaload, 1) := by decide +kernel
theorem dL_orders_93 : decode cL_orders 93 = .ok (.invokestatic 79, 3) := by decide +kernel
theorem dL_orders_96 : decode cL_orders 96 = .ok (.iconst 2, 1) := by decide +kernel
theorem dL_orders_97 : decode cL_orders 97 = .ok (.aload_n 0, 1) := by decide +kernel
theorem dL_orders_98 : decode cL_orders 98 = .ok (.bipush 12, 2) := by decide +kernel
theorem dL_orders_100 : decode cL_orders 100 = .ok (.aload_n 2, 1) := by decide +kernel
theorem dL_orders_101 : decode cL_orders 101 = .ok (.iload 6, 2) := by decide +kernel
theorem dL_orders_103 : decode cL_orders 103 = .ok (.iaload, 1) := by decide +kernel
theorem dL_orders_104 : decode cL_orders 104 = .ok (.imul, 1) := by decide +kernel
theorem dL_orders_105 : decode cL_orders 105 = .ok (.iconst 5, 1) := by decide +kernel
theorem dL_orders_106 : decode cL_orders 106 = .ok (.iadd, 1) := by decide +kernel
theorem dL_orders_107 : decode cL_orders 107 = .ok (.iaload, 1) := by decide +kernel
theorem dL_orders_108 : decode cL_orders 108 = .ok (.imul, 1) := by decide +kernel
theorem dL_orders_109 : decode cL_orders 109 = .ok (.iadd, 1) := by decide +kernel
theorem dL_orders_110 : decode cL_orders 110 = .ok (.istore 7, 2) := by decide +kernel
theorem dL_orders_112 : decode cL_orders 112 = .ok (.iload 4, 2) := by decide +kernel
theorem dL_orders_114 : decode cL_orders 114 = .ok (.ifCond .lt 25, 3) := by decide +kernel
theorem dL_orders_117 : decode cL_orders 117 = .ok (.aload_n 1, 1) := by decide +kernel
theorem dL_orders_118 : decode cL_orders 118 = .ok (.iconst 3, 1) := by decide +kernel
theorem dL_orders_119 : decode cL_orders 119 = .ok (.iaload, 1) := by decide +kernel
theorem dL_orders_120 : decode cL_orders 120 = .ok (.iconst 1, 1) := by decide +kernel
theorem dL_orders_121 : decode cL_orders 121 = .ok (.if_icmp .ne 28, 3) := by decide +kernel
theorem dL_orders_124 : decode cL_orders 124 = .ok (.iload 5, 2) := by decide +kernel
theorem dL_orders_126 : decode cL_orders 126 = .ok (.aload_n 1, 1) := by decide +kernel
theorem dL_orders_127 : decode cL_orders 127 = .ok (.iconst 1, 1) := by decide +kernel
theorem dL_orders_128 : decode cL_orders 128 = .ok (.iaload, 1) := by decide +kernel
theorem dL_orders_129 : decode cL_orders 129 = .ok (.iadd, 1) := by decide +kernel
theorem dL_orders_130 : decode cL_orders 130 = .ok (.iload 7, 2) := by decide +kernel
theorem dL_orders_132 : decode cL_orders 132 = .ok (.iadd, 1) := by decide +kernel
theorem dL_orders_133 : decode cL_orders 133 = .ok (.aload_n 1, 1) := by decide +kernel
theorem dL_orders_134 : decode cL_orders 134 = .ok (.iconst 0, 1) := by decide +kernel
theorem dL_orders_135 : decode cL_orders 135 = .ok (.iaload, 1) := by decide +kernel
theorem dL_orders_136 : decode cL_orders 136 = .ok (.if_icmp .le 13, 3) := by decide +kernel
theorem dL_orders_139 : decode cL_orders 139 = .ok (.iinc 4 1, 3) := by decide +kernel
theorem dL_orders_142 : decode cL_orders 142 = .ok (.iload 7, 2) := by decide +kernel
theorem dL_orders_144 : decode cL_orders 144 = .ok (.istore 5, 2) := by decide +kernel
theorem dL_orders_146 : decode cL_orders 146 = .ok (.goto 14, 3) := by decide +kernel
theorem dL_orders_149 : decode cL_orders 149 = .ok (.iload 5, 2) := by decide +kernel
theorem dL_orders_151 : decode cL_orders 151 = .ok (.aload_n 1, 1) := by decide +kernel
theorem dL_orders_152 : decode cL_orders 152 = .ok (.iconst 1, 1) := by decide +kernel
theorem dL_orders_153 : decode cL_orders 153 = .ok (.iaload, 1) := by decide +kernel
theorem dL_orders_154 : decode cL_orders 154 = .ok (.iload 7, 2) := by decide +kernel
theorem dL_orders_156 : decode cL_orders 156 = .ok (.iadd, 1) := by decide +kernel
theorem dL_orders_157 : decode cL_orders 157 = .ok (.iadd, 1) := by decide +kernel
theorem dL_orders_158 : decode cL_orders 158 = .ok (.istore 5, 2) := by decide +kernel
theorem dL_orders_160 : decode cL_orders 160 = .ok (.aload_n 2, 1) := by decide +kernel
theorem dL_orders_161 : decode cL_orders 161 = .ok (.bipush 8, 2) := by decide +kernel
theorem dL_orders_163 : decode cL_orders 163 = .ok (.iload 6, 2) := by decide +kernel
theorem dL_orders_165 : decode cL_orders 165 = .ok (.iadd, 1) := by decide +kernel
theorem dL_orders_166 : decode cL_orders 166 = .ok (.iload 4, 2) := by decide +kernel
theorem dL_orders_168 : decode cL_orders 168 = .ok (.iastore, 1) := by decide +kernel
theorem dL_orders_169 : decode cL_orders 169 = .ok (.iinc 6 1, 3) := by decide +kernel
theorem dL_orders_172 : decode cL_orders 172 = .ok (.goto (-90), 3) := by decide +kernel
theorem dL_orders_175 : decode cL_orders 175 = .ok (.aload_n 2, 1) := by decide +kernel
theorem dL_orders_176 : decode cL_orders 176 = .ok (.bipush 16, 2) := by decide +kernel
theorem dL_orders_178 : decode cL_orders 178 = .ok (.iload_n 3, 1) := by decide +kernel
theorem dL_orders_179 : decode cL_orders 179 = .ok (.iastore, 1) := by decide +kernel
theorem dL_orders_180 : decode cL_orders 180 = .ok (.aload_n 2, 1) := by decide +kernel
theorem dL_orders_181 : decode cL_orders 181 = .ok (.bipush 17, 2) := by decide +kernel
theorem dL_orders_183 : decode cL_orders 183 = .ok (.iload 4, 2) := by decide +kernel
theorem dL_orders_185 : decode cL_orders 185 = .ok (.iconst 1, 1) := by decide +kernel
theorem dL_orders_186 : decode cL_orders 186 = .ok (.iadd, 1) := by decide +kernel
theorem dL_orders_187 : decode cL_orders 187 = .ok (.iastore, 1) := by decide +kernel
theorem dL_orders_188 : decode cL_orders 188 = .ok (.return_, 1) := by decide +kernel
theorem dL_shares_0 : decode cL_shares 0 = .ok (.iconst 0, 1) := by decide +kernel
theorem dL_shares_1 : decode cL_shares 1 = .ok (.istore 5, 2) := by decide +kernel
theorem dL_shares_3 : decode cL_shares 3 = .ok (.iconst 0, 1) := by decide +kernel
theorem dL_shares_4 : decode cL_shares 4 = .ok (.istore 6, 2) := by decide +kernel
theorem dL_shares_6 : decode cL_shares 6 = .ok (.iconst 0, 1) := by decide +kernel
theorem dL_shares_7 : decode cL_shares 7 = .ok (.istore 7, 2) := by decide +kernel
theorem dL_shares_9 : decode cL_shares 9 = .ok (.bipush 16, 2) := by decide +kernel
theorem dL_shares_11 : decode cL_shares 11 = .ok (.newarray .int, 2) := by decide +kernel
theorem dL_shares_13 : decode cL_shares 13 = .ok (.astore 8, 2) := by decide +kernel
theorem dL_shares_15 : decode cL_shares 15 = .ok (.iconst 0, 1) := by decide +kernel
theorem dL_shares_16 : decode cL_shares 16 = .ok (.istore 9, 2) := by decide +kernel
theorem dL_shares_18 : decode cL_shares 18 = .ok (.iload 9, 2) := by decide +kernel
theorem dL_shares_20 : decode cL_shares 20 = .ok (.aload_n 2, 1) := by decide +kernel
theorem dL_shares_21 : decode cL_shares 21 = .ok (.bipush 16, 2) := by decide +kernel
theorem dL_shares_23 : decode cL_shares 23 = .ok (.iaload, 1) := by decide +kernel
theorem dL_shares_24 : decode cL_shares 24 = .ok (.if_icmp .ge 62, 3) := by decide +kernel
theorem dL_shares_27 : decode cL_shares 27 = .ok (.aload_n 2, 1) := by decide +kernel
theorem dL_shares_28 : decode cL_shares 28 = .ok (.bipush 8, 2) := by decide +kernel
theorem dL_shares_30 : decode cL_shares 30 = .ok (.iload 9, 2) := by decide +kernel
theorem dL_shares_32 : decode cL_shares 32 = .ok (.iadd, 1) := by decide +kernel
theorem dL_shares_33 : decode cL_shares 33 = .ok (.iaload, 1) := by decide +kernel
theorem dL_shares_34 : decode cL_shares 34 = .ok (.iload 4, 2) := by decide +kernel
theorem dL_shares_36 : decode cL_shares 36 = .ok (.if_icmp .ne 44, 3) := by decide +kernel
theorem dL_shares_39 : decode cL_shares 39 = .ok (.aload 8, 2) := by decide +kernel
theorem dL_shares_41 : decode cL_shares 41 = .ok (.iload 5, 2) := by decide +kernel
theorem dL_shares_43 : decode cL_shares 43 = .ok (.aload_n 2, 1) := by decide +kernel
theorem dL_shares_44 : decode cL_shares 44 = .ok (.iload 9, 2) := by decide +kernel
theorem dL_shares_46 : decode cL_shares 46 = .ok (.iaload, 1) := by decide +kernel
theorem dL_shares_47 : decode cL_shares 47 = .ok (.iastore, 1) := by decide +kernel
theorem dL_shares_48 : decode cL_shares 48 = .ok (.iload 6, 2) := by decide +kernel
theorem dL_shares_50 : decode cL_shares 50 = .ok (.aload_n 0, 1) := by decide +kernel
theorem dL_shares_51 : decode cL_shares 51 = .ok (.aload_n 2, 1) := by decide +kernel
theorem dL_shares_52 : decode cL_shares 52 = .ok (.iload 9, 2) := by decide +kernel
theorem dL_shares_54 : decode cL_shares 54 = .ok (.iaload, 1) := by decide +kernel
theorem dL_shares_55 : decode cL_shares 55 = .ok (.invokestatic 79, 3) := by decide +kernel
theorem dL_shares_58 : decode cL_shares 58 = .ok (.iadd, 1) := by decide +kernel
theorem dL_shares_59 : decode cL_shares 59 = .ok (.istore 6, 2) := by decide +kernel
theorem dL_shares_61 : decode cL_shares 61 = .ok (.iload 7, 2) := by decide +kernel
theorem dL_shares_63 : decode cL_shares 63 = .ok (.aload_n 0, 1) := by decide +kernel
theorem dL_shares_64 : decode cL_shares 64 = .ok (.bipush 12, 2) := by decide +kernel
theorem dL_shares_66 : decode cL_shares 66 = .ok (.aload_n 2, 1) := by decide +kernel
theorem dL_shares_67 : decode cL_shares 67 = .ok (.iload 9, 2) := by decide +kernel
theorem dL_shares_69 : decode cL_shares 69 = .ok (.iaload, 1) := by decide +kernel
theorem dL_shares_70 : decode cL_shares 70 = .ok (.imul, 1) := by decide +kernel
theorem dL_shares_71 : decode cL_shares 71 = .ok (.iconst 5, 1) := by decide +kernel
theorem dL_shares_72 : decode cL_shares 72 = .ok (.iadd, 1) := by decide +kernel
theorem dL_shares_73 : decode cL_shares 73 = .ok (.iaload, 1) := by decide +kernel
theorem dL_shares_74 : decode cL_shares 74 = .ok (.iadd, 1) := by decide +kernel
theorem dL_shares_75 : decode cL_shares 75 = .ok (.istore 7, 2) := by decide +kernel
theorem dL_shares_77 : decode cL_shares 77 = .ok (.iinc 5 1, 3) := by decide +kernel
theorem dL_shares_80 : decode cL_shares 80 = .ok (.iinc 9 1, 3) := by decide +kernel
theorem dL_shares_83 : decode cL_shares 83 = .ok (.goto (-65), 3) := by decide +kernel
theorem dL_shares_86 : decode cL_shares 86 = .ok (.aload_n 1, 1) := by decide +kernel
theorem dL_shares_87 : decode cL_shares 87 = .ok (.iconst 0, 1) := by decide +kernel
theorem dL_shares_88 : decode cL_shares 88 = .ok (.iaload, 1) := by decide +kernel
theorem dL_shares_89 : decode cL_shares 89 = .ok (.aload_n 1, 1) := by decide +kernel
theorem dL_shares_90 : decode cL_shares 90 = .ok (.iconst 1, 1) := by decide +kernel
theorem dL_shares_91 : decode cL_shares 91 = .ok (.iaload, 1) := by decide +kernel
theorem dL_shares_92 : decode cL_shares 92 = .ok (.iload 5, 2) := by decide +kernel
theorem dL_shares_94 : decode cL_shares 94 = .ok (.iconst 1, 1) := by decide +kernel
theorem dL_shares_95 : decode cL_shares 95 = .ok (.isub, 1) := by decide +kernel
theorem dL_shares_96 : decode cL_shares 96 = .ok (.imul, 1) := by decide +kernel
theorem dL_shares_97 : decode cL_shares 97 = .ok (.isub, 1) := by decide +kernel
theorem dL_shares_98 : decode cL_shares 98 = .ok (.iconst 2, 1) := by decide +kernel
theorem dL_shares_99 : decode cL_shares 99 = .ok (.iload 7, 2) := by decide +kernel
theorem dL_shares_101 : decode cL_shares 101 = .ok (.imul, 1) := by decide +kernel
theorem dL_shares_102 : decode cL_shares 102 = .ok (.isub, 1) := by decide +kernel
theorem dL_shares_103 : decode cL_shares 103 = .ok (.istore 9, 2) := by decide +kernel
theorem dL_shares_105 : decode cL_shares 105 = .ok (.iload 6, 2) := by decide +kernel
theorem dL_shares_107 : decode cL_shares 107 = .ok (.iload 9, 2) := by decide +kernel
theorem dL_shares_109 : decode cL_shares 109 = .ok (.if_icmp .ge 7, 3) := by decide +kernel
theorem dL_shares_112 : decode cL_shares 112 = .ok (.iconst 1, 1) := by decide +kernel
theorem dL_shares_113 : decode cL_shares 113 = .ok (.goto 4, 3) := by decide +kernel
theorem dL_shares_116 : decode cL_shares 116 = .ok (.iconst 0, 1) := by decide +kernel
theorem dL_shares_117 : decode cL_shares 117 = .ok (.istore 10, 2) := by decide +kernel
theorem dL_shares_119 : decode cL_shares 119 = .ok (.iconst 0, 1) := by decide +kernel
theorem dL_shares_120 : decode cL_shares 120 = .ok (.istore 11, 2) := by decide +kernel
theorem dL_shares_122 : decode cL_shares 122 = .ok (.iconst 0, 1) := by decide +kernel
theorem dL_shares_123 : decode cL_shares 123 = .ok (.istore 12, 2) := by decide +kernel
theorem dL_shares_125 : decode cL_shares 125 = .ok (.iload 12, 2) := by decide +kernel
theorem dL_shares_127 : decode cL_shares 127 = .ok (.iload 5, 2) := by decide +kernel
theorem dL_shares_129 : decode cL_shares 129 = .ok (.if_icmp .ge 131, 3) := by decide +kernel
theorem dL_shares_132 : decode cL_shares 132 = .ok (.aload 8, 2) := by decide +kernel
theorem dL_shares_134 : decode cL_shares 134 = .ok (.iload 12, 2) := by decide +kernel
theorem dL_shares_136 : decode cL_shares 136 = .ok (.iaload, 1) := by decide +kernel
theorem dL_shares_137 : decode cL_shares 137 = .ok (.istore 13, 2) := by decide +kernel
theorem dL_shares_139 : decode cL_shares 139 = .ok (.iload 10, 2) := by decide +kernel
theorem dL_shares_141 : decode cL_shares 141 = .ok (.ifCond .eq 31, 3) := by decide +kernel
theorem dL_shares_144 : decode cL_shares 144 = .ok (.aload_n 0, 1) := by decide +kernel
theorem dL_shares_145 : decode cL_shares 145 = .ok (.bipush 12, 2) := by decide +kernel
theorem dL_shares_147 : decode cL_shares 147 = .ok (.iload 13, 2) := by decide +kernel
theorem dL_shares_149 : decode cL_shares 149 = .ok (.imul, 1) := by decide +kernel
theorem dL_shares_150 : decode cL_shares 150 = .ok (.iconst 1, 1) := by decide +kernel
theorem dL_shares_151 : decode cL_shares 151 = .ok (.iadd, 1) := by decide +kernel
theorem dL_shares_152 : decode cL_shares 152 = .ok (.iaload, 1) := by decide +kernel
theorem dL_shares_153 : decode cL_shares 153 = .ok (.ifCond .eq 52, 3) := by decide +kernel
theorem dL_shares_156 : decode cL_shares 156 = .ok (.aload_n 0, 1) := by decide +kernel
theorem dL_shares_157 : decode cL_shares 157 = .ok (.bipush 12, 2) := by decide +kernel
theorem dL_shares_159 : decode cL_shares 159 = .ok (.iload 13, 2) := by decide +kernel
theorem dL_shares_161 : decode cL_shares 161 = .ok (.imul, 1) := by decide +kernel
theorem dL_shares_162 : decode cL_shares 162 = .ok (.iaload, 1) := by decide +kernel
theorem dL_shares_163 : decode cL_shares 163 = .ok (.aload_n 0, 1) := by decide +kernel
theorem dL_shares_164 : decode cL_shares 164 = .ok (.iload 13, 2) := by decide +kernel
theorem dL_shares_166 : decode cL_shares 166 = .ok (.invokestatic 79, 3) := by decide +kernel
theorem dL_shares_169 : decode cL_shares 169 = .ok (.if_icmp .gt 36, 3) := by decide +kernel
theorem dL_shares_172 : decode cL_shares 172 = .ok (.iload 10, 2) := by decide +kernel
theorem dL_shares_174 : decode cL_shares 174 = .ok (.ifCond .ne 35, 3) := by decide +kernel
theorem dL_shares_177 : decode cL_shares 177 = .ok (.aload_n 0, 1) := by decide +kernel
theorem dL_shares_178 : decode cL_shares 178 = .ok (.bipush 12, 2) := by decide +kernel
theorem dL_shares_180 : decode cL_shares 180 = .ok (.iload 13, 2) := by decide +kernel
theorem dL_shares_182 : decode cL_shares 182 = .ok (.imul, 1) := by decide +kernel
theorem dL_shares_183 : decode cL_shares 183 = .ok (.iconst 2, 1) := by decide +kernel
theorem dL_shares_184 : decode cL_shares 184 = .ok (.iadd, 1) := by decide +kernel
theorem dL_shares_185 : decode cL_shares 185 = .ok (.iaload, 1) := by decide +kernel
theorem dL_shares_186 : decode cL_shares 186 = .ok (.ifCond .eq 19, 3) := by decide +kernel
theorem dL_shares_189 : decode cL_shares 189 = .ok (.aload_n 0, 1) := by decide +kernel
theorem dL_shares_190 : decode cL_shares 190 = .ok (.bipush 12, 2) := by decide +kernel
theorem dL_shares_192 : decode cL_shares 192 = .ok (.iload 13, 2) := by decide +kernel
theorem dL_shares_194 : decode cL_shares 194 = .ok (.imul, 1) := by decide +kernel
theorem dL_shares_195 : decode cL_shares 195 = .ok (.iaload, 1) := by decide +kernel
theorem dL_shares_196 : decode cL_shares 196 = .ok (.aload_n 0, 1) := by decide +kernel
theorem dL_shares_197 : decode cL_shares 197 = .ok (.iload 13, 2) := by decide +kernel
theorem dL_shares_199 : decode cL_shares 199 = .ok (.invokestatic 79, 3) := by decide +kernel
theorem dL_shares_202 : decode cL_shares 202 = .ok (.if_icmp .ge 7, 3) := by decide +kernel
theorem dL_shares_205 : decode cL_shares 205 = .ok (.iconst 1, 1) := by decide +kernel
theorem dL_shares_206 : decode cL_shares 206 = .ok (.goto 4, 3) := by decide +kernel
theorem dL_shares_209 : decode cL_shares 209 = .ok (.iconst 0, 1) := by decide +kernel
theorem dL_shares_210 : decode cL_shares 210 = .ok (.istore 14, 2) := by decide +kernel
theorem dL_shares_212 : decode cL_shares 212 = .ok (.aload_n 3, 1) := by decide +kernel
theorem dL_shares_213 : decode cL_shares 213 = .ok (.iload 13, 2) := by decide +kernel
theorem dL_shares_215 : decode cL_shares 215 = .ok (.aload_n 0, 1) := by decide +kernel
theorem dL_shares_216 : decode cL_shares 216 = .ok (.iload 13, 2) := by decide +kernel
theorem dL_shares_218 : decode cL_shares 218 = .ok (.invokestatic 79, 3) := by decide +kernel
theorem dL_shares_221 : decode cL_shares 221 = .ok (.iastore, 1) := by decide +kernel
theorem dL_shares_222 : decode cL_shares 222 = .ok (.aload_n 3, 1) := by decide +kernel
theorem dL_shares_223 : decode cL_shares 223 = .ok (.bipush 8, 2) := by decide +kernel
theorem dL_shares_225 : decode cL_shares 225 = .ok (.iload 13, 2) := by decide +kernel
theorem dL_shares_227 : decode cL_shares 227 = .ok (.iadd, 1) := by decide +kernel
theorem dL_shares_228 : decode cL_shares 228 = .ok (.iload 14, 2) := by decide +kernel
theorem dL_shares_230 : decode cL_shares 230 = .ok (.ifCond .eq 7, 3) := by decide +kernel
theorem dL_shares_233 : decode cL_shares 233 = .ok (.iconst 0, 1) := by decide +kernel
theorem dL_shares_234 : decode cL_shares 234 = .ok (.goto 4, 3) := by decide +kernel
theorem dL_shares_237 : decode cL_shares 237 = .ok (.iconst (-1), 1) := by decide +kernel
theorem dL_shares_238 : decode cL_shares 238 = .ok (.iastore, 1) := by decide +kernel
theorem dL_shares_239 : decode cL_shares 239 = .ok (.iload 11, 2) := by decide +kernel
theorem dL_shares_241 : decode cL_shares 241 = .ok (.iload 14, 2) := by decide +kernel
theorem dL_shares_243 : decode cL_shares 243 = .ok (.ifCond .eq 7, 3) := by decide +kernel
theorem dL_shares_246 : decode cL_shares 246 = .ok (.iconst 0, 1) := by decide +kernel
theorem dL_shares_247 : decode cL_shares 247 = .ok (.goto 4, 3) := by decide +kernel
theorem dL_shares_250 : decode cL_shares 250 = .ok (.iconst 1, 1) := by decide +kernel
theorem dL_shares_251 : decode cL_shares 251 = .ok (.iadd, 1) := by decide +kernel
theorem dL_shares_252 : decode cL_shares 252 = .ok (.istore 11, 2) := by decide +kernel
theorem dL_shares_254 : decode cL_shares 254 = .ok (.iinc 12 1, 3) := by decide +kernel
theorem dL_shares_257 : decode cL_shares 257 = .ok (.goto (-132), 3) := by decide +kernel
theorem dL_shares_260 : decode cL_shares 260 = .ok (.iconst 0, 1) := by decide +kernel
theorem dL_shares_261 : decode cL_shares 261 = .ok (.istore 12, 2) := by decide +kernel
theorem dL_shares_263 : decode cL_shares 263 = .ok (.iload 11, 2) := by decide +kernel
theorem dL_shares_265 : decode cL_shares 265 = .ok (.ifCond .le 490, 3) := by decide +kernel
theorem dL_shares_268 : decode cL_shares 268 = .ok (.iinc 12 1, 3) := by decide +kernel
theorem dL_shares_271 : decode cL_shares 271 = .ok (.iload 9, 2) := by decide +kernel
theorem dL_shares_273 : decode cL_shares 273 = .ok (.istore 13, 2) := by decide +kernel
theorem dL_shares_275 : decode cL_shares 275 = .ok (.iconst 0, 1) := by decide +kernel
theorem dL_shares_276 : decode cL_shares 276 = .ok (.istore 14, 2) := by decide +kernel
theorem dL_shares_278 : decode cL_shares 278 = .ok (.iconst 0, 1) := by decide +kernel
theorem dL_shares_279 : decode cL_shares 279 = .ok (.istore 15, 2) := by decide +kernel
theorem dL_shares_281 : decode cL_shares 281 = .ok (.iload 15, 2) := by decide +kernel
theorem dL_shares_283 : decode cL_shares 283 = .ok (.iload 5, 2) := by decide +kernel
theorem dL_shares_285 : decode cL_shares 285 = .ok (.if_icmp .ge 98, 3) := by decide +kernel
theorem dL_shares_288 : decode cL_shares 288 = .ok (.aload 8, 2) := by decide +kernel
theorem dL_shares_290 : decode cL_shares 290 = .ok (.iload 15, 2) := by decide +kernel
theorem dL_shares_292 : decode cL_shares 292 = .ok (.iaload, 1) := by decide +kernel
theorem dL_shares_293 : decode cL_shares 293 = .ok (.istore 16, 2) := by decide +kernel
theorem dL_shares_295 : decode cL_shares 295 = .ok (.iload 13, 2) := by decide +kernel
theorem dL_shares_297 : decode cL_shares 297 = .ok (.aload_n 3, 1) := by decide +kernel
theorem dL_shares_298 : decode cL_shares 298 = .ok (.bipush 8, 2) := by decide +kernel
theorem dL_shares_300 : decode cL_shares 300 = .ok (.iload 16, 2) := by decide +kernel
theorem dL_shares_302 : decode cL_shares 302 = .ok (.iadd, 1) := by decide +kernel
theorem dL_shares_303 : decode cL_shares 303 = .ok (.iaload, 1) := by decide +kernel
theorem dL_shares_304 : decode cL_shares 304 = .ok (.ifCond .ge 13, 3) := by decide +kernel
theorem dL_shares_307 : decode cL_shares 307 = .ok (.aload_n 0, 1) := by decide +kernel
theorem dL_shares_308 : decode cL_shares 308 = .ok (.bipush 12, 2) := by decide +kernel
theorem dL_shares_310 : decode cL_shares 310 = .ok (.iload 16, 2) := by decide +kernel
theorem dL_shares_312 : decode cL_shares 312 = .ok (.imul, 1) := by decide +kernel
theorem dL_shares_313 : decode cL_shares 313 = .ok (.iaload, 1) := by decide +kernel
theorem dL_shares_314 : decode cL_shares 314 = .ok (.goto 7, 3) := by decide +kernel
theorem dL_shares_317 : decode cL_shares 317 = .ok (.aload_n 3, 1) := by decide +kernel
theorem dL_shares_318 : decode cL_shares 318 = .ok (.iload 16, 2) := by decide +kernel
theorem dL_shares_320 : decode cL_shares 320 = .ok (.iaload, 1) := by decide +kernel
theorem dL_shares_321 : decode cL_shares 321 = .ok (.isub, 1) := by decide +kernel
theorem dL_shares_322 : decode cL_shares 322 = .ok (.istore 13, 2) := by decide +kernel
theorem dL_shares_324 : decode cL_shares 324 = .ok (.iload 14, 2) := by decide +kernel
theorem dL_shares_326 : decode cL_shares 326 = .ok (.aload_n 3, 1) := by decide +kernel
theorem dL_shares_327 : decode cL_shares 327 = .ok (.bipush 8, 2) := by decide +kernel
theorem dL_shares_329 : decode cL_shares 329 = .ok (.iload 16, 2) := by decide +kernel
theorem dL_shares_331 : decode cL_shares 331 = .ok (.iadd, 1) := by decide +kernel
theorem dL_shares_332 : decode cL_shares 332 = .ok (.iaload, 1) := by decide +kernel
theorem dL_shares_333 : decode cL_shares 333 = .ok (.ifCond .lt 7, 3) := by decide +kernel
theorem dL_shares_336 : decode cL_shares 336 = .ok (.iconst 0, 1) := by decide +kernel
theorem dL_shares_337 : decode cL_shares 337 = .ok (.goto 37, 3) := by decide +kernel
theorem dL_shares_340 : decode cL_shares 340 = .ok (.iload 10, 2) := by decide +kernel
theorem dL_shares_342 : decode cL_shares 342 = .ok (.ifCond .eq 15, 3) := by decide +kernel
theorem dL_shares_345 : decode cL_shares 345 = .ok (.aload_n 0, 1) := by decide +kernel
theorem dL_shares_346 : decode cL_shares 346 = .ok (.bipush 12, 2) := by decide +kernel
theorem dL_shares_348 : decode cL_shares 348 = .ok (.iload 16, 2) := by decide +kernel
theorem dL_shares_350 : decode cL_shares 350 = .ok (.imul, 1) := by decide +kernel
theorem dL_shares_351 : decode cL_shares 351 = .ok (.iconst 1, 1) := by decide +kernel
theorem dL_shares_352 : decode cL_shares 352 = .ok (.iadd, 1) := by decide +kernel
theorem dL_shares_353 : decode cL_shares 353 = .ok (.iaload, 1) := by decide +kernel
theorem dL_shares_354 : decode cL_shares 354 = .ok (.goto 20, 3) := by decide +kernel
theorem dL_shares_357 : decode cL_shares 357 = .ok (.aload_n 0, 1) := by decide +kernel
theorem dL_shares_358 : decode cL_shares 358 = .ok (.bipush 12, 2) := by decide +kernel
theorem dL_shares_360 : decode cL_shares 360 = .ok (.iload 16, 2) := by decide +kernel
theorem dL_shares_362 : decode cL_shares 362 = .ok (.imul, 1) := by decide +kernel
theorem dL_shares_363 : decode cL_shares 363 = .ok (.iconst 2, 1) := by decide +kernel
theorem dL_shares_364 : decode cL_shares 364 = .ok (.iadd, 1) := by decide +kernel
theorem dL_shares_365 : decode cL_shares 365 = .ok (.iaload, 1) := by decide +kernel
theorem dL_shares_366 : decode cL_shares 366 = .ok (.aload_n 0, 1) := by decide +kernel
theorem dL_shares_367 : decode cL_shares 367 = .ok (.bipush 12, 2) := by decide +kernel
theorem dL_shares_369 : decode cL_shares 369 = .ok (.iload 16, 2) := by decide +kernel
theorem dL_shares_371 : decode cL_shares 371 = .ok (.imul, 1) := by decide +kernel
theorem dL_shares_372 : decode cL_shares 372 = .ok (.iaload, 1) := by decide +kernel
theorem dL_shares_373 : decode cL_shares 373 = .ok (.imul, 1) := by decide +kernel
theorem dL_shares_374 : decode cL_shares 374 = .ok (.iadd, 1) := by decide +kernel
theorem dL_shares_375 : decode cL_shares 375 = .ok (.istore 14, 2) := by decide +kernel
theorem dL_shares_377 : decode cL_shares 377 = .ok (.iinc 15 1, 3) := by decide +kernel
theorem dL_shares_380 : decode cL_shares 380 = .ok (.goto (-99), 3) := by decide +kernel
theorem dL_shares_383 : decode cL_shares 383 = .ok (.iload 10, 2) := by decide +kernel
theorem dL_shares_385 : decode cL_shares 385 = .ok (.ifCond .eq 8, 3) := by decide +kernel
theorem dL_shares_388 : decode cL_shares 388 = .ok (.iload 13, 2) := by decide +kernel
theorem dL_shares_390 : decode cL_shares 390 = .ok (.goto 6, 3) := by decide +kernel
theorem dL_shares_393 : decode cL_shares 393 = .ok (.iload 13, 2) := by decide +kernel
theorem dL_shares_395 : decode cL_shares 395 = .ok (.ineg, 1) := by decide +kernel
theorem dL_shares_396 : decode cL_shares 396 = .ok (.istore 15, 2) := by decide +kernel
theorem dL_shares_398 : decode cL_shares 398 = .ok (.iload 15, 2) := by decide +kernel
theorem dL_shares_400 : decode cL_shares 400 = .ok (.ifCond .ge 7, 3) := by decide +kernel
theorem dL_shares_403 : decode cL_shares 403 = .ok (.iconst 0, 1) := by decide +kernel
theorem dL_shares_404 : decode cL_shares 404 = .ok (.goto 5, 3) := by decide +kernel
theorem dL_shares_407 : decode cL_shares 407 = .ok (.iload 15, 2) := by decide +kernel
theorem dL_shares_409 : decode cL_shares 409 = .ok (.istore 15, 2) := by decide +kernel
theorem dL_shares_411 : decode cL_shares 411 = .ok (.iconst 0, 1) := by decide +kernel
theorem dL_shares_412 : decode cL_shares 412 = .ok (.istore 16, 2) := by decide +kernel
theorem dL_shares_414 : decode cL_shares 414 = .ok (.iconst 0, 1) := by decide +kernel
theorem dL_shares_415 : decode cL_shares 415 = .ok (.istore 17, 2) := by decide +kernel
theorem dL_shares_417 : decode cL_shares 417 = .ok (.iconst 0, 1) := by decide +kernel
theorem dL_shares_418 : decode cL_shares 418 = .ok (.istore 18, 2) := by decide +kernel
theorem dL_shares_420 : decode cL_shares 420 = .ok (.iload 18, 2) := by decide +kernel
theorem dL_shares_422 : decode cL_shares 422 = .ok (.iload 5, 2) := by decide +kernel
theorem dL_shares_424 : decode cL_shares 424 = .ok (.if_icmp .ge 246, 3) := by decide +kernel
theorem dL_shares_427 : decode cL_shares 427 = .ok (.aload 8, 2) := by decide +kernel
theorem dL_shares_429 : decode cL_shares 429 = .ok (.iload 18, 2) := by decide +kernel
theorem dL_shares_431 : decode cL_shares 431 = .ok (.iaload, 1) := by decide +kernel
theorem dL_shares_432 : decode cL_shares 432 = .ok (.istore 19, 2) := by decide +kernel
theorem dL_shares_434 : decode cL_shares 434 = .ok (.aload_n 3, 1) := by decide +kernel
theorem dL_shares_435 : decode cL_shares 435 = .ok (.bipush 8, 2) := by decide +kernel
theorem dL_shares_437 : decode cL_shares 437 = .ok (.iload 19, 2) := by decide +kernel
theorem dL_shares_439 : decode cL_shares 439 = .ok (.iadd, 1) := by decide +kernel
theorem dL_shares_440 : decode cL_shares 440 = .ok (.iaload, 1) := by decide +kernel
theorem dL_shares_441 : decode cL_shares 441 = .ok (.ifCond .ge 223, 3) := by decide +kernel
theorem dL_shares_444 : decode cL_shares 444 = .ok (.iload 10, 2) := by decide +kernel
theorem dL_shares_446 : decode cL_shares 446 = .ok (.ifCond .eq 15, 3) := by decide +kernel
theorem dL_shares_449 : decode cL_shares 449 = .ok (.aload_n 0, 1) := by decide +kernel
theorem dL_shares_450 : decode cL_shares 450 = .ok (.bipush 12, 2) := by decide +kernel
theorem dL_shares_452 : decode cL_shares 452 = .ok (.iload 19, 2) := by decide +kernel
theorem dL_shares_454 : decode cL_shares 454 = .ok (.imul, 1) := by decide +kernel
theorem dL_shares_455 : decode cL_shares 455 = .ok (.iconst 1, 1) := by decide +kernel
theorem dL_shares_456 : decode cL_shares 456 = .ok (.iadd, 1) := by decide +kernel
theorem dL_shares_457 : decode cL_shares 457 = .ok (.iaload, 1) := by decide +kernel
theorem dL_shares_458 : decode cL_shares 458 = .ok (.goto 20, 3) := by decide +kernel
theorem dL_shares_461 : decode cL_shares 461 = .ok (.aload_n 0, 1) := by decide +kernel
theorem dL_shares_462 : decode cL_shares 462 = .ok (.bipush 12, 2) := by decide +kernel
theorem dL_shares_464 : decode cL_shares 464 = .ok (.iload 19, 2) := by decide +kernel
theorem dL_shares_466 : decode cL_shares 466 = .ok (.imul, 1) := by decide +kernel
theorem dL_shares_467 : decode cL_shares 467 = .ok (.iconst 2, 1) := by decide +kernel
theorem dL_shares_468 : decode cL_shares 468 = .ok (.iadd, 1) := by decide +kernel
theorem dL_shares_469 : decode cL_shares 469 = .ok (.iaload, 1) := by decide +kernel
theorem dL_shares_470 : decode cL_shares 470 = .ok (.aload_n 0, 1) := by decide +kernel
theorem dL_shares_471 : decode cL_shares 471 = .ok (.bipush 12, 2) := by decide +kernel
theorem dL_shares_473 : decode cL_shares 473 = .ok (.iload 19, 2) := by decide +kernel
theorem dL_shares_475 : decode cL_shares 475 = .ok (.imul, 1) := by decide +kernel
theorem dL_shares_476 : decode cL_shares 476 = .ok (.iaload, 1) := by decide +kernel
theorem dL_shares_477 : decode cL_shares 477 = .ok (.imul, 1) := by decide +kernel
theorem dL_shares_478 : decode cL_shares 478 = .ok (.istore 20, 2) := by decide +kernel
theorem dL_shares_480 : decode cL_shares 480 = .ok (.iload 14, 2) := by decide +kernel
theorem dL_shares_482 : decode cL_shares 482 = .ok (.ifCond .ne 7, 3) := by decide +kernel
theorem dL_shares_485 : decode cL_shares 485 = .ok (.iconst 0, 1) := by decide +kernel
theorem dL_shares_486 : decode cL_shares 486 = .ok (.goto 23, 3) := by decide +kernel
theorem dL_shares_489 : decode cL_shares 489 = .ok (.iload 15, 2) := by decide +kernel
theorem dL_shares_491 : decode cL_shares 491 = .ok (.iload 16, 2) := by decide +kernel
theorem dL_shares_493 : decode cL_shares 493 = .ok (.iload 20, 2) := by decide +kernel
theorem dL_shares_495 : decode cL_shares 495 = .ok (.iadd, 1) := by decide +kernel
theorem dL_shares_496 : decode cL_shares 496 = .ok (.imul, 1) := by decide +kernel
theorem dL_shares_497 : decode cL_shares 497 = .ok (.iload 14, 2) := by decide +kernel
theorem dL_shares_499 : decode cL_shares 499 = .ok (.idiv, 1) := by decide +kernel
theorem dL_shares_500 : decode cL_shares 500 = .ok (.iload 15, 2) := by decide +kernel
theorem dL_shares_502 : decode cL_shares 502 = .ok (.iload 16, 2) := by decide +kernel
theorem dL_shares_504 : decode cL_shares 504 = .ok (.imul, 1) := by decide +kernel
theorem dL_shares_505 : decode cL_shares 505 = .ok (.iload 14, 2) := by decide +kernel
theorem dL_shares_507 : decode cL_shares 507 = .ok (.idiv, 1) := by decide +kernel
theorem dL_shares_508 : decode cL_shares 508 = .ok (.isub, 1) := by decide +kernel
theorem dL_shares_509 : decode cL_shares 509 = .ok (.istore 21, 2) := by decide +kernel
theorem dL_shares_511 : decode cL_shares 511 = .ok (.iload 16, 2) := by decide +kernel
theorem dL_shares_513 : decode cL_shares 513 = .ok (.iload 20, 2) := by decide +kernel
theorem dL_shares_515 : decode cL_shares 515 = .ok (.iadd, 1) := by decide +kernel
theorem dL_shares_516 : decode cL_shares 516 = .ok (.istore 16, 2) := by decide +kernel
theorem dL_shares_518 : decode cL_shares 518 = .ok (.iload 10, 2) := by decide +kernel
theorem dL_shares_520 : decode cL_shares 520 = .ok (.ifCond .eq 16, 3) := by decide +kernel
theorem dL_shares_523 : decode cL_shares 523 = .ok (.aload_n 0, 1) := by decide +kernel
theorem dL_shares_524 : decode cL_shares 524 = .ok (.bipush 12, 2) := by decide +kernel
theorem dL_shares_526 : decode cL_shares 526 = .ok (.iload 19, 2) := by decide +kernel
theorem dL_shares_528 : decode cL_shares 528 = .ok (.imul, 1) := by decide +kernel
theorem dL_shares_529 : decode cL_shares 529 = .ok (.iaload, 1) := by decide +kernel
theorem dL_shares_530 : decode cL_shares 530 = .ok (.iload 21, 2) := by decide +kernel
theorem dL_shares_532 : decode cL_shares 532 = .ok (.iadd, 1) := by decide +kernel
theorem dL_shares_533 : decode cL_shares 533 = .ok (.goto 13, 3) := by decide +kernel
theorem dL_shares_536 : decode cL_shares 536 = .ok (.aload_n 0, 1) := by decide +kernel
theorem dL_shares_537 : decode cL_shares 537 = .ok (.bipush 12, 2) := by decide +kernel
theorem dL_shares_539 : decode cL_shares 539 = .ok (.iload 19, 2) := by decide +kernel
theorem dL_shares_541 : decode cL_shares 541 = .ok (.imul, 1) := by decide +kernel
theorem dL_shares_542 : decode cL_shares 542 = .ok (.iaload, 1) := by decide +kernel
theorem dL_shares_543 : decode cL_shares 543 = .ok (.iload 21, 2) := by decide +kernel
theorem dL_shares_545 : decode cL_shares 545 = .ok (.isub, 1) := by decide +kernel
theorem dL_shares_546 : decode cL_shares 546 = .ok (.istore 22, 2) := by decide +kernel
theorem dL_shares_548 : decode cL_shares 548 = .ok (.aload_n 0, 1) := by decide +kernel
theorem dL_shares_549 : decode cL_shares 549 = .ok (.bipush 12, 2) := by decide +kernel
theorem dL_shares_551 : decode cL_shares 551 = .ok (.iload 19, 2) := by decide +kernel
theorem dL_shares_553 : decode cL_shares 553 = .ok (.imul, 1) := by decide +kernel
theorem dL_shares_554 : decode cL_shares 554 = .ok (.iconst 4, 1) := by decide +kernel
theorem dL_shares_555 : decode cL_shares 555 = .ok (.iadd, 1) := by decide +kernel
theorem dL_shares_556 : decode cL_shares 556 = .ok (.iaload, 1) := by decide +kernel
theorem dL_shares_557 : decode cL_shares 557 = .ok (.aload_n 0, 1) := by decide +kernel
theorem dL_shares_558 : decode cL_shares 558 = .ok (.bipush 12, 2) := by decide +kernel
theorem dL_shares_560 : decode cL_shares 560 = .ok (.iload 19, 2) := by decide +kernel
theorem dL_shares_562 : decode cL_shares 562 = .ok (.imul, 1) := by decide +kernel
theorem dL_shares_563 : decode cL_shares 563 = .ok (.iconst 3, 1) := by decide +kernel
theorem dL_shares_564 : decode cL_shares 564 = .ok (.iadd, 1) := by decide +kernel
theorem dL_shares_565 : decode cL_shares 565 = .ok (.iaload, 1) := by decide +kernel
theorem dL_shares_566 : decode cL_shares 566 = .ok (.if_icmp .ge 15, 3) := by decide +kernel
theorem dL_shares_569 : decode cL_shares 569 = .ok (.aload_n 0, 1) := by decide +kernel
theorem dL_shares_570 : decode cL_shares 570 = .ok (.bipush 12, 2) := by decide +kernel
theorem dL_shares_572 : decode cL_shares 572 = .ok (.iload 19, 2) := by decide +kernel
theorem dL_shares_574 : decode cL_shares 574 = .ok (.imul, 1) := by decide +kernel
theorem dL_shares_575 : decode cL_shares 575 = .ok (.iconst 3, 1) := by decide +kernel
theorem dL_shares_576 : decode cL_shares 576 = .ok (.iadd, 1) := by decide +kernel
theorem dL_shares_577 : decode cL_shares 577 = .ok (.iaload, 1) := by decide +kernel
theorem dL_shares_578 : decode cL_shares 578 = .ok (.goto 12, 3) := by decide +kernel
theorem dL_shares_581 : decode cL_shares 581 = .ok (.aload_n 0, 1) := by decide +kernel
theorem dL_shares_582 : decode cL_shares 582 = .ok (.bipush 12, 2) := by decide +kernel
theorem dL_shares_584 : decode cL_shares 584 = .ok (.iload 19, 2) := by decide +kernel
theorem dL_shares_586 : decode cL_shares 586 = .ok (.imul, 1) := by decide +kernel
theorem dL_shares_587 : decode cL_shares 587 = .ok (.iconst 4, 1) := by decide +kernel
theorem dL_shares_588 : decode cL_shares 588 = .ok (.iadd, 1) := by decide +kernel
theorem dL_shares_589 : decode cL_shares 589 = .ok (.iaload, 1) := by decide +kernel
theorem dL_shares_590 : decode cL_shares 590 = .ok (.istore 23, 2) := by decide +kernel
theorem dL_shares_592 : decode cL_shares 592 = .ok (.aload_n 3, 1) := by decide +kernel
theorem dL_shares_593 : decode cL_shares 593 = .ok (.iload 19, 2) := by decide +kernel
theorem dL_shares_595 : decode cL_shares 595 = .ok (.iload 22, 2) := by decide +kernel
theorem dL_shares_597 : decode cL_shares 597 = .ok (.aload_n 0, 1) := by decide +kernel
theorem dL_shares_598 : decode cL_shares 598 = .ok (.bipush 12, 2) := by decide +kernel
theorem dL_shares_600 : decode cL_shares 600 = .ok (.iload 19, 2) := by decide +kernel
theorem dL_shares_602 : decode cL_shares 602 = .ok (.imul, 1) := by decide +kernel
theorem dL_shares_603 : decode cL_shares 603 = .ok (.iconst 3, 1) := by decide +kernel
theorem dL_shares_604 : decode cL_shares 604 = .ok (.iadd, 1) := by decide +kernel
theorem dL_shares_605 : decode cL_shares 605 = .ok (.iaload, 1) := by decide +kernel
theorem dL_shares_606 : decode cL_shares 606 = .ok (.if_icmp .ge 15, 3) := by decide +kernel
theorem dL_shares_609 : decode cL_shares 609 = .ok (.aload_n 0, 1) := by decide +kernel
theorem dL_shares_610 : decode cL_shares 610 = .ok (.bipush 12, 2) := by decide +kernel
theorem dL_shares_612 : decode cL_shares 612 = .ok (.iload 19, 2) := by decide +kernel
theorem dL_shares_614 : decode cL_shares 614 = .ok (.imul, 1) := by decide +kernel
theorem dL_shares_615 : decode cL_shares 615 = .ok (.iconst 3, 1) := by decide +kernel
theorem dL_shares_616 : decode cL_shares 616 = .ok (.iadd, 1) := by decide +kernel
theorem dL_shares_617 : decode cL_shares 617 = .ok (.iaload, 1) := by decide +kernel
theorem dL_shares_618 : decode cL_shares 618 = .ok (.goto 17, 3) := by decide +kernel
theorem dL_shares_621 : decode cL_shares 621 = .ok (.iload 22, 2) := by decide +kernel
theorem dL_shares_623 : decode cL_shares 623 = .ok (.iload 23, 2) := by decide +kernel
theorem dL_shares_625 : decode cL_shares 625 = .ok (.if_icmp .le 8, 3) := by decide +kernel
theorem dL_shares_628 : decode cL_shares 628 = .ok (.iload 23, 2) := by decide +kernel
theorem dL_shares_630 : decode cL_shares 630 = .ok (.goto 5, 3) := by decide +kernel
theorem dL_shares_633 : decode cL_shares 633 = .ok (.iload 22, 2) := by decide +kernel
theorem dL_shares_635 : decode cL_shares 635 = .ok (.iastore, 1) := by decide +kernel
theorem dL_shares_636 : decode cL_shares 636 = .ok (.aload 8, 2) := by decide +kernel
theorem dL_shares_638 : decode cL_shares 638 = .ok (.bipush 8, 2) := by decide +kernel
theorem dL_shares_640 : decode cL_shares 640 = .ok (.iload 18, 2) := by decide +kernel
theorem dL_shares_642 : decode cL_shares 642 = .ok (.iadd, 1) := by decide +kernel
theorem dL_shares_643 : decode cL_shares 643 = .ok (.aload_n 3, 1) := by decide +kernel
theorem dL_shares_644 : decode cL_shares 644 = .ok (.iload 19, 2) := by decide +kernel
theorem dL_shares_646 : decode cL_shares 646 = .ok (.iaload, 1) := by decide +kernel
theorem dL_shares_647 : decode cL_shares 647 = .ok (.iload 22, 2) := by decide +kernel
theorem dL_shares_649 : decode cL_shares 649 = .ok (.isub, 1) := by decide +kernel
theorem dL_shares_650 : decode cL_shares 650 = .ok (.iastore, 1) := by decide +kernel
theorem dL_shares_651 : decode cL_shares 651 = .ok (.iload 17, 2) := by decide +kernel
theorem dL_shares_653 : decode cL_shares 653 = .ok (.aload 8, 2) := by decide +kernel
theorem dL_shares_655 : decode cL_shares 655 = .ok (.bipush 8, 2) := by decide +kernel
theorem dL_shares_657 : decode cL_shares 657 = .ok (.iload 18, 2) := by decide +kernel
theorem dL_shares_659 : decode cL_shares 659 = .ok (.iadd, 1) := by decide +kernel
theorem dL_shares_660 : decode cL_shares 660 = .ok (.iaload, 1) := by decide +kernel
theorem dL_shares_661 : decode cL_shares 661 = .ok (.iadd, 1) := by decide +kernel
theorem dL_shares_662 : decode cL_shares 662 = .ok (.istore 17, 2) := by decide +kernel
theorem dL_shares_664 : decode cL_shares 664 = .ok (.iinc 18 1, 3) := by decide +kernel
theorem dL_shares_667 : decode cL_shares 667 = .ok (.goto (-247), 3) := by decide +kernel
theorem dL_shares_670 : decode cL_shares 670 = .ok (.iconst 0, 1) := by decide +kernel
theorem dL_shares_671 : decode cL_shares 671 = .ok (.istore 18, 2) := by decide +kernel
theorem dL_shares_673 : decode cL_shares 673 = .ok (.iload 18, 2) := by decide +kernel
theorem dL_shares_675 : decode cL_shares 675 = .ok (.iload 5, 2) := by decide +kernel
theorem dL_shares_677 : decode cL_shares 677 = .ok (.if_icmp .ge 75, 3) := by decide +kernel
theorem dL_shares_680 : decode cL_shares 680 = .ok (.aload 8, 2) := by decide +kernel
theorem dL_shares_682 : decode cL_shares 682 = .ok (.iload 18, 2) := by decide +kernel
theorem dL_shares_684 : decode cL_shares 684 = .ok (.iaload, 1) := by decide +kernel
theorem dL_shares_685 : decode cL_shares 685 = .ok (.istore 19, 2) := by decide +kernel
theorem dL_shares_687 : decode cL_shares 687 = .ok (.aload_n 3, 1) := by decide +kernel
theorem dL_shares_688 : decode cL_shares 688 = .ok (.bipush 8, 2) := by decide +kernel
theorem dL_shares_690 : decode cL_shares 690 = .ok (.iload 19, 2) := by decide +kernel
theorem dL_shares_692 : decode cL_shares 692 = .ok (.iadd, 1) := by decide +kernel
theorem dL_shares_693 : decode cL_shares 693 = .ok (.iaload, 1) := by decide +kernel
theorem dL_shares_694 : decode cL_shares 694 = .ok (.ifCond .ge 52, 3) := by decide +kernel
theorem dL_shares_697 : decode cL_shares 697 = .ok (.iload 17, 2) := by decide +kernel
theorem dL_shares_699 : decode cL_shares 699 = .ok (.ifCond .eq 35, 3) := by decide +kernel
theorem dL_shares_702 : decode cL_shares 702 = .ok (.iload 17, 2) := by decide +kernel
theorem dL_shares_704 : decode cL_shares 704 = .ok (.ifCond .le 14, 3) := by decide +kernel
theorem dL_shares_707 : decode cL_shares 707 = .ok (.aload 8, 2) := by decide +kernel
theorem dL_shares_709 : decode cL_shares 709 = .ok (.bipush 8, 2) := by decide +kernel
theorem dL_shares_711 : decode cL_shares 711 = .ok (.iload 18, 2) := by decide +kernel
theorem dL_shares_713 : decode cL_shares 713 = .ok (.iadd, 1) := by decide +kernel
theorem dL_shares_714 : decode cL_shares 714 = .ok (.iaload, 1) := by decide +kernel
theorem dL_shares_715 : decode cL_shares 715 = .ok (.ifCond .gt 19, 3) := by decide +kernel
theorem dL_shares_718 : decode cL_shares 718 = .ok (.iload 17, 2) := by decide +kernel
theorem dL_shares_720 : decode cL_shares 720 = .ok (.ifCond .ge 26, 3) := by decide +kernel
theorem dL_shares_723 : decode cL_shares 723 = .ok (.aload 8, 2) := by decide +kernel
theorem dL_shares_725 : decode cL_shares 725 = .ok (.bipush 8, 2) := by decide +kernel
theorem dL_shares_727 : decode cL_shares 727 = .ok (.iload 18, 2) := by decide +kernel
theorem dL_shares_729 : decode cL_shares 729 = .ok (.iadd, 1) := by decide +kernel
theorem dL_shares_730 : decode cL_shares 730 = .ok (.iaload, 1) := by decide +kernel
theorem dL_shares_731 : decode cL_shares 731 = .ok (.ifCond .ge 15, 3) := by decide +kernel
theorem dL_shares_734 : decode cL_shares 734 = .ok (.aload_n 3, 1) := by decide +kernel
theorem dL_shares_735 : decode cL_shares 735 = .ok (.bipush 8, 2) := by decide +kernel
theorem dL_shares_737 : decode cL_shares 737 = .ok (.iload 19, 2) := by decide +kernel
theorem dL_shares_739 : decode cL_shares 739 = .ok (.iadd, 1) := by decide +kernel
theorem dL_shares_740 : decode cL_shares 740 = .ok (.iload 12, 2) := by decide +kernel
theorem dL_shares_742 : decode cL_shares 742 = .ok (.iastore, 1) := by decide +kernel
theorem dL_shares_743 : decode cL_shares 743 = .ok (.iinc 11 (-1), 3) := by decide +kernel
theorem dL_shares_746 : decode cL_shares 746 = .ok (.iinc 18 1, 3) := by decide +kernel
theorem dL_shares_749 : decode cL_shares 749 = .ok (.goto (-76), 3) := by decide +kernel
theorem dL_shares_752 : decode cL_shares 752 = .ok (.goto (-489), 3) := by decide +kernel
theorem dL_shares_755 : decode cL_shares 755 = .ok (.aload_n 3, 1) := by decide +kernel
theorem dL_shares_756 : decode cL_shares 756 = .ok (.bipush 16, 2) := by decide +kernel
theorem dL_shares_758 : decode cL_shares 758 = .ok (.iload 4, 2) := by decide +kernel
theorem dL_shares_760 : decode cL_shares 760 = .ok (.iadd, 1) := by decide +kernel
theorem dL_shares_761 : decode cL_shares 761 = .ok (.iload 9, 2) := by decide +kernel
theorem dL_shares_763 : decode cL_shares 763 = .ok (.iastore, 1) := by decide +kernel
theorem dL_shares_764 : decode cL_shares 764 = .ok (.aload_n 3, 1) := by decide +kernel
theorem dL_shares_765 : decode cL_shares 765 = .ok (.bipush 24, 2) := by decide +kernel
theorem dL_shares_767 : decode cL_shares 767 = .ok (.iload 4, 2) := by decide +kernel
theorem dL_shares_769 : decode cL_shares 769 = .ok (.iadd, 1) := by decide +kernel
theorem dL_shares_770 : decode cL_shares 770 = .ok (.iload 9, 2) := by decide +kernel
theorem dL_shares_772 : decode cL_shares 772 = .ok (.iastore, 1) := by decide +kernel
theorem dL_shares_773 : decode cL_shares 773 = .ok (.iconst 0, 1) := by decide +kernel
theorem dL_shares_774 : decode cL_shares 774 = .ok (.istore 13, 2) := by decide +kernel
theorem dL_shares_776 : decode cL_shares 776 = .ok (.iload 13, 2) := by decide +kernel
theorem dL_shares_778 : decode cL_shares 778 = .ok (.iload 5, 2) := by decide +kernel
theorem dL_shares_780 : decode cL_shares 780 = .ok (.if_icmp .ge 26, 3) := by decide +kernel
theorem dL_shares_783 : decode cL_shares 783 = .ok (.aload_n 3, 1) := by decide +kernel
theorem dL_shares_784 : decode cL_shares 784 = .ok (.bipush 24, 2) := by decide +kernel
theorem dL_shares_786 : decode cL_shares 786 = .ok (.iload 4, 2) := by decide +kernel
theorem dL_shares_788 : decode cL_shares 788 = .ok (.iadd, 1) := by decide +kernel
theorem dL_shares_789 : decode cL_shares 789 = .ok (.dup2, 1) := by decide +kernel
theorem dL_shares_790 : decode cL_shares 790 = .ok (.iaload, 1) := by decide +kernel
theorem dL_shares_791 : decode cL_shares 791 = .ok (.aload_n 3, 1) := by decide +kernel
theorem dL_shares_792 : decode cL_shares 792 = .ok (.aload 8, 2) := by decide +kernel
theorem dL_shares_794 : decode cL_shares 794 = .ok (.iload 13, 2) := by decide +kernel
theorem dL_shares_796 : decode cL_shares 796 = .ok (.iaload, 1) := by decide +kernel
theorem dL_shares_797 : decode cL_shares 797 = .ok (.iaload, 1) := by decide +kernel
theorem dL_shares_798 : decode cL_shares 798 = .ok (.isub, 1) := by decide +kernel
theorem dL_shares_799 : decode cL_shares 799 = .ok (.iastore, 1) := by decide +kernel
theorem dL_shares_800 : decode cL_shares 800 = .ok (.iinc 13 1, 3) := by decide +kernel
theorem dL_shares_803 : decode cL_shares 803 = .ok (.goto (-27), 3) := by decide +kernel
theorem dL_shares_806 : decode cL_shares 806 = .ok (.aload_n 3, 1) := by decide +kernel
theorem dL_shares_807 : decode cL_shares 807 = .ok (.bipush 32, 2) := by decide +kernel
theorem dL_shares_809 : decode cL_shares 809 = .ok (.iload 4, 2) := by decide +kernel
theorem dL_shares_811 : decode cL_shares 811 = .ok (.iadd, 1) := by decide +kernel
theorem dL_shares_812 : decode cL_shares 812 = .ok (.iload 10, 2) := by decide +kernel
theorem dL_shares_814 : decode cL_shares 814 = .ok (.ifCond .eq 7, 3) := by decide +kernel
theorem dL_shares_817 : decode cL_shares 817 = .ok (.iconst 1, 1) := by decide +kernel
theorem dL_shares_818 : decode cL_shares 818 = .ok (.goto 4, 3) := by decide +kernel
theorem dL_shares_821 : decode cL_shares 821 = .ok (.iconst 0, 1) := by decide +kernel
theorem dL_shares_822 : decode cL_shares 822 = .ok (.iastore, 1) := by decide +kernel
theorem dL_shares_823 : decode cL_shares 823 = .ok (.aload_n 3, 1) := by decide +kernel
theorem dL_shares_824 : decode cL_shares 824 = .ok (.bipush 40, 2) := by decide +kernel
theorem dL_shares_826 : decode cL_shares 826 = .ok (.iload 4, 2) := by decide +kernel
theorem dL_shares_828 : decode cL_shares 828 = .ok (.iadd, 1) := by decide +kernel
theorem dL_shares_829 : decode cL_shares 829 = .ok (.iload 12, 2) := by decide +kernel
theorem dL_shares_831 : decode cL_shares 831 = .ok (.iastore, 1) := by decide +kernel
theorem dL_shares_832 : decode cL_shares 832 = .ok (.return_, 1) := by decide +kernel
theorem dL_areItems_0 : decode cL_areItems 0 = .ok (.iconst 0, 1) := by decide +kernel
theorem dL_areItems_1 : decode cL_areItems 1 = .ok (.istore 4, 2) := by decide +kernel
theorem dL_areItems_3 : decode cL_areItems 3 = .ok (.iconst 0, 1) := by decide +kernel
theorem dL_areItems_4 : decode cL_areItems 4 = .ok (.istore 5, 2) := by decide +kernel
theorem dL_areItems_6 : decode cL_areItems 6 = .ok (.iload 5, 2) := by decide +kernel
theorem dL_areItems_8 : decode cL_areItems 8 = .ok (.aload_n 1, 1) := by decide +kernel
theorem dL_areItems_9 : decode cL_areItems 9 = .ok (.bipush 60, 2) := by decide +kernel
theorem dL_areItems_11 : decode cL_areItems 11 = .ok (.iaload, 1) := by decide +kernel
theorem dL_areItems_12 : decode cL_areItems 12 = .ok (.if_icmp .ge 109, 3) := by decide +kernel
theorem dL_areItems_15 : decode cL_areItems 15 = .ok (.iconst 0, 1) := by decide +kernel
theorem dL_areItems_16 : decode cL_areItems 16 = .ok (.istore 6, 2) := by decide +kernel
theorem dL_areItems_18 : decode cL_areItems 18 = .ok (.iload 6, 2) := by decide +kernel
theorem dL_areItems_20 : decode cL_areItems 20 = .ok (.bipush 11, 2) := by decide +kernel
theorem dL_areItems_22 : decode cL_areItems 22 = .ok (.if_icmp .ge 32, 3) := by decide +kernel
theorem dL_areItems_25 : decode cL_areItems 25 = .ok (.aload_n 0, 1) := by decide +kernel
theorem dL_areItems_26 : decode cL_areItems 26 = .ok (.iload 5, 2) := by decide +kernel
theorem dL_areItems_28 : decode cL_areItems 28 = .ok (.iload 6, 2) := by decide +kernel
theorem dL_areItems_30 : decode cL_areItems 30 = .ok (.invokevirtual 83, 3) := by decide +kernel
theorem dL_areItems_33 : decode cL_areItems 33 = .ok (.aload_n 1, 1) := by decide +kernel
theorem dL_areItems_34 : decode cL_areItems 34 = .ok (.bipush 12, 2) := by decide +kernel
theorem dL_areItems_36 : decode cL_areItems 36 = .ok (.iload 5, 2) := by decide +kernel
theorem dL_areItems_38 : decode cL_areItems 38 = .ok (.imul, 1) := by decide +kernel
theorem dL_areItems_39 : decode cL_areItems 39 = .ok (.iload 6, 2) := by decide +kernel
theorem dL_areItems_41 : decode cL_areItems 41 = .ok (.iadd, 1) := by decide +kernel
theorem dL_areItems_42 : decode cL_areItems 42 = .ok (.iaload, 1) := by decide +kernel
theorem dL_areItems_43 : decode cL_areItems 43 = .ok (.if_icmp .eq 5, 3) := by decide +kernel
theorem dL_areItems_46 : decode cL_areItems 46 = .ok (.iconst 0, 1) := by decide +kernel
theorem dL_areItems_47 : decode cL_areItems 47 = .ok (.ireturn, 1) := by decide +kernel
theorem dL_areItems_48 : decode cL_areItems 48 = .ok (.iinc 6 1, 3) := by decide +kernel
theorem dL_areItems_51 : decode cL_areItems 51 = .ok (.goto (-33), 3) := by decide +kernel
theorem dL_areItems_54 : decode cL_areItems 54 = .ok (.aload_n 0, 1) := by decide +kernel
theorem dL_areItems_55 : decode cL_areItems 55 = .ok (.iload 5, 2) := by decide +kernel
theorem dL_areItems_57 : decode cL_areItems 57 = .ok (.bipush 11, 2) := by decide +kernel
theorem dL_areItems_59 : decode cL_areItems 59 = .ok (.invokevirtual 83, 3) := by decide +kernel
theorem dL_areItems_62 : decode cL_areItems 62 = .ok (.aload_n 1, 1) := by decide +kernel
theorem dL_areItems_63 : decode cL_areItems 63 = .ok (.iload 5, 2) := by decide +kernel
theorem dL_areItems_65 : decode cL_areItems 65 = .ok (.invokestatic 79, 3) := by decide +kernel
theorem dL_areItems_68 : decode cL_areItems 68 = .ok (.if_icmp .ne 30, 3) := by decide +kernel
theorem dL_areItems_71 : decode cL_areItems 71 = .ok (.aload_n 1, 1) := by decide +kernel
theorem dL_areItems_72 : decode cL_areItems 72 = .ok (.bipush 12, 2) := by decide +kernel
theorem dL_areItems_74 : decode cL_areItems 74 = .ok (.iload 5, 2) := by decide +kernel
theorem dL_areItems_76 : decode cL_areItems 76 = .ok (.imul, 1) := by decide +kernel
theorem dL_areItems_77 : decode cL_areItems 77 = .ok (.bipush 10, 2) := by decide +kernel
theorem dL_areItems_79 : decode cL_areItems 79 = .ok (.iadd, 1) := by decide +kernel
theorem dL_areItems_80 : decode cL_areItems 80 = .ok (.iaload, 1) := by decide +kernel
theorem dL_areItems_81 : decode cL_areItems 81 = .ok (.iconst 1, 1) := by decide +kernel
theorem dL_areItems_82 : decode cL_areItems 82 = .ok (.if_icmp .ne 18, 3) := by decide +kernel
theorem dL_areItems_85 : decode cL_areItems 85 = .ok (.aload_n 0, 1) := by decide +kernel
theorem dL_areItems_86 : decode cL_areItems 86 = .ok (.iload 5, 2) := by decide +kernel
theorem dL_areItems_88 : decode cL_areItems 88 = .ok (.iconst 0, 1) := by decide +kernel
theorem dL_areItems_89 : decode cL_areItems 89 = .ok (.invokevirtual 86, 3) := by decide +kernel
theorem dL_areItems_92 : decode cL_areItems 92 = .ok (.sipush (-1003), 3) := by decide +kernel
theorem dL_areItems_95 : decode cL_areItems 95 = .ok (.if_icmp .eq 5, 3) := by decide +kernel
theorem dL_areItems_98 : decode cL_areItems 98 = .ok (.iconst 0, 1) := by decide +kernel
theorem dL_areItems_99 : decode cL_areItems 99 = .ok (.ireturn, 1) := by decide +kernel
theorem dL_areItems_100 : decode cL_areItems 100 = .ok (.iload 4, 2) := by decide +kernel
theorem dL_areItems_102 : decode cL_areItems 102 = .ok (.aload_n 1, 1) := by decide +kernel
theorem dL_areItems_103 : decode cL_areItems 103 = .ok (.bipush 12, 2) := by decide +kernel
theorem dL_areItems_105 : decode cL_areItems 105 = .ok (.iload 5, 2) := by decide +kernel
theorem dL_areItems_107 : decode cL_areItems 107 = .ok (.imul, 1) := by decide +kernel
theorem dL_areItems_108 : decode cL_areItems 108 = .ok (.bipush 10, 2) := by decide +kernel
theorem dL_areItems_110 : decode cL_areItems 110 = .ok (.iadd, 1) := by decide +kernel
theorem dL_areItems_111 : decode cL_areItems 111 = .ok (.iaload, 1) := by decide +kernel
theorem dL_areItems_112 : decode cL_areItems 112 = .ok (.iadd, 1) := by decide +kernel
theorem dL_areItems_113 : decode cL_areItems 113 = .ok (.istore 4, 2) := by decide +kernel
theorem dL_areItems_115 : decode cL_areItems 115 = .ok (.iinc 5 1, 3) := by decide +kernel
theorem dL_areItems_118 : decode cL_areItems 118 = .ok (.goto (-112), 3) := by decide +kernel
theorem dL_areItems_121 : decode cL_areItems 121 = .ok (.iconst 0, 1) := by decide +kernel
theorem dL_areItems_122 : decode cL_areItems 122 = .ok (.istore 5, 2) := by decide +kernel
theorem dL_areItems_124 : decode cL_areItems 124 = .ok (.iload 5, 2) := by decide +kernel
theorem dL_areItems_126 : decode cL_areItems 126 = .ok (.aload_n 3, 1) := by decide +kernel
theorem dL_areItems_127 : decode cL_areItems 127 = .ok (.bipush 16, 2) := by decide +kernel
theorem dL_areItems_129 : decode cL_areItems 129 = .ok (.iaload, 1) := by decide +kernel
theorem dL_areItems_130 : decode cL_areItems 130 = .ok (.if_icmp .ge 57, 3) := by decide +kernel
theorem dL_areItems_133 : decode cL_areItems 133 = .ok (.aload_n 0, 1) := by decide +kernel
theorem dL_areItems_134 : decode cL_areItems 134 = .ok (.iload 5, 2) := by decide +kernel
theorem dL_areItems_136 : decode cL_areItems 136 = .ok (.invokevirtual 89, 3) := by decide +kernel
theorem dL_areItems_139 : decode cL_areItems 139 = .ok (.aload_n 3, 1) := by decide +kernel
theorem dL_areItems_140 : decode cL_areItems 140 = .ok (.iload 5, 2) := by decide +kernel
theorem dL_areItems_142 : decode cL_areItems 142 = .ok (.iaload, 1) := by decide +kernel
theorem dL_areItems_143 : decode cL_areItems 143 = .ok (.if_icmp .ne 36, 3) := by decide +kernel
theorem dL_areItems_146 : decode cL_areItems 146 = .ok (.aload_n 0, 1) := by decide +kernel
theorem dL_areItems_147 : decode cL_areItems 147 = .ok (.aload_n 3, 1) := by decide +kernel
theorem dL_areItems_148 : decode cL_areItems 148 = .ok (.iload 5, 2) := by decide +kernel
theorem dL_areItems_150 : decode cL_areItems 150 = .ok (.iaload, 1) := by decide +kernel
theorem dL_areItems_151 : decode cL_areItems 151 = .ok (.iconst 1, 1) := by decide +kernel
theorem dL_areItems_152 : decode cL_areItems 152 = .ok (.invokevirtual 86, 3) := by decide +kernel
theorem dL_areItems_155 : decode cL_areItems 155 = .ok (.iload 5, 2) := by decide +kernel
theorem dL_areItems_157 : decode cL_areItems 157 = .ok (.if_icmp .ne 22, 3) := by decide +kernel
theorem dL_areItems_160 : decode cL_areItems 160 = .ok (.aload_n 0, 1) := by decide +kernel
theorem dL_areItems_161 : decode cL_areItems 161 = .ok (.aload_n 3, 1) := by decide +kernel
theorem dL_areItems_162 : decode cL_areItems 162 = .ok (.iload 5, 2) := by decide +kernel
theorem dL_areItems_164 : decode cL_areItems 164 = .ok (.iaload, 1) := by decide +kernel
theorem dL_areItems_165 : decode cL_areItems 165 = .ok (.iconst 0, 1) := by decide +kernel
theorem dL_areItems_166 : decode cL_areItems 166 = .ok (.invokevirtual 86, 3) := by decide +kernel
theorem dL_areItems_169 : decode cL_areItems 169 = .ok (.aload_n 3, 1) := by decide +kernel
theorem dL_areItems_170 : decode cL_areItems 170 = .ok (.bipush 8, 2) := by decide +kernel
theorem dL_areItems_172 : decode cL_areItems 172 = .ok (.iload 5, 2) := by decide +kernel
theorem dL_areItems_174 : decode cL_areItems 174 = .ok (.iadd, 1) := by decide +kernel
theorem dL_areItems_175 : decode cL_areItems 175 = .ok (.iaload, 1) := by decide +kernel
theorem dL_areItems_176 : decode cL_areItems 176 = .ok (.if_icmp .eq 5, 3) := by decide +kernel
theorem dL_areItems_179 : decode cL_areItems 179 = .ok (.iconst 0, 1) := by decide +kernel
theorem dL_areItems_180 : decode cL_areItems 180 = .ok (.ireturn, 1) := by decide +kernel
theorem dL_areItems_181 : decode cL_areItems 181 = .ok (.iinc 5 1, 3) := by decide +kernel
theorem dL_areItems_184 : decode cL_areItems 184 = .ok (.goto (-60), 3) := by decide +kernel
theorem dL_areItems_187 : decode cL_areItems 187 = .ok (.iconst 0, 1) := by decide +kernel
theorem dL_areItems_188 : decode cL_areItems 188 = .ok (.istore 5, 2) := by decide +kernel
theorem dL_areItems_190 : decode cL_areItems 190 = .ok (.iload 5, 2) := by decide +kernel
theorem dL_areItems_192 : decode cL_areItems 192 = .ok (.bipush 7, 2) := by decide +kernel
theorem dL_areItems_194 : decode cL_areItems 194 = .ok (.if_icmp .ge 27, 3) := by decide +kernel
theorem dL_areItems_197 : decode cL_areItems 197 = .ok (.aload_n 0, 1) := by decide +kernel
theorem dL_areItems_198 : decode cL_areItems 198 = .ok (.bipush 7, 2) := by decide +kernel
theorem dL_areItems_200 : decode cL_areItems 200 = .ok (.iload 5, 2) := by decide +kernel
theorem dL_areItems_202 : decode cL_areItems 202 = .ok (.iadd, 1) := by decide +kernel
theorem dL_areItems_203 : decode cL_areItems 203 = .ok (.invokevirtual 92, 3) := by decide +kernel
theorem dL_areItems_206 : decode cL_areItems 206 = .ok (.aload_n 2, 1) := by decide +kernel
theorem dL_areItems_207 : decode cL_areItems 207 = .ok (.iload 5, 2) := by decide +kernel
theorem dL_areItems_209 : decode cL_areItems 209 = .ok (.iaload, 1) := by decide +kernel
theorem dL_areItems_210 : decode cL_areItems 210 = .ok (.if_icmp .eq 5, 3) := by decide +kernel
theorem dL_areItems_213 : decode cL_areItems 213 = .ok (.iconst 0, 1) := by decide +kernel
theorem dL_areItems_214 : decode cL_areItems 214 = .ok (.ireturn, 1) := by decide +kernel
theorem dL_areItems_215 : decode cL_areItems 215 = .ok (.iinc 5 1, 3) := by decide +kernel
theorem dL_areItems_218 : decode cL_areItems 218 = .ok (.goto (-28), 3) := by decide +kernel
theorem dL_areItems_221 : decode cL_areItems 221 = .ok (.aload_n 0, 1) := by decide +kernel
theorem dL_areItems_222 : decode cL_areItems 222 = .ok (.iconst 0, 1) := by decide +kernel
theorem dL_areItems_223 : decode cL_areItems 223 = .ok (.invokevirtual 92, 3) := by decide +kernel
theorem dL_areItems_226 : decode cL_areItems 226 = .ok (.aload_n 1, 1) := by decide +kernel
theorem dL_areItems_227 : decode cL_areItems 227 = .ok (.bipush 60, 2) := by decide +kernel
theorem dL_areItems_229 : decode cL_areItems 229 = .ok (.iaload, 1) := by decide +kernel
theorem dL_areItems_230 : decode cL_areItems 230 = .ok (.if_icmp .ne 82, 3) := by decide +kernel
theorem dL_areItems_233 : decode cL_areItems 233 = .ok (.aload_n 0, 1) := by decide +kernel
theorem dL_areItems_234 : decode cL_areItems 234 = .ok (.iconst 1, 1) := by decide +kernel
theorem dL_areItems_235 : decode cL_areItems 235 = .ok (.invokevirtual 92, 3) := by decide +kernel
theorem dL_areItems_238 : decode cL_areItems 238 = .ok (.iload 4, 2) := by decide +kernel
theorem dL_areItems_240 : decode cL_areItems 240 = .ok (.if_icmp .ne 72, 3) := by decide +kernel
theorem dL_areItems_243 : decode cL_areItems 243 = .ok (.aload_n 0, 1) := by decide +kernel
theorem dL_areItems_244 : decode cL_areItems 244 = .ok (.iconst 2, 1) := by decide +kernel
theorem dL_areItems_245 : decode cL_areItems 245 = .ok (.invokevirtual 92, 3) := by decide +kernel
theorem dL_areItems_248 : decode cL_areItems 248 = .ok (.aload_n 3, 1) := by decide +kernel
theorem dL_areItems_249 : decode cL_areItems 249 = .ok (.bipush 17, 2) := by decide +kernel
theorem dL_areItems_251 : decode cL_areItems 251 = .ok (.iaload, 1) := by decide +kernel
theorem dL_areItems_252 : decode cL_areItems 252 = .ok (.if_icmp .ne 60, 3) := by decide +kernel
theorem dL_areItems_255 : decode cL_areItems 255 = .ok (.aload_n 0, 1) := by decide +kernel
theorem dL_areItems_256 : decode cL_areItems 256 = .ok (.aload_n 3, 1) := by decide +kernel
theorem dL_areItems_257 : decode cL_areItems 257 = .ok (.bipush 16, 2) := by decide +kernel
theorem dL_areItems_259 : decode cL_areItems 259 = .ok (.iaload, 1) := by decide +kernel
theorem dL_areItems_260 : decode cL_areItems 260 = .ok (.invokevirtual 89, 3) := by decide +kernel
theorem dL_areItems_263 : decode cL_areItems 263 = .ok (.sipush (-1001), 3) := by decide +kernel
theorem dL_areItems_266 : decode cL_areItems 266 = .ok (.if_icmp .ne 46, 3) := by decide +kernel
theorem dL_areItems_269 : decode cL_areItems 269 = .ok (.aload_n 0, 1) := by decide +kernel
theorem dL_areItems_270 : decode cL_areItems 270 = .ok (.iconst (-1), 1) := by decide +kernel
theorem dL_areItems_271 : decode cL_areItems 271 = .ok (.invokevirtual 89, 3) := by decide +kernel
theorem dL_areItems_274 : decode cL_areItems 274 = .ok (.sipush (-1002), 3) := by decide +kernel
theorem dL_areItems_277 : decode cL_areItems 277 = .ok (.if_icmp .ne 35, 3) := by decide +kernel
theorem dL_areItems_280 : decode cL_areItems 280 = .ok (.aload_n 0, 1) := by decide +kernel
theorem dL_areItems_281 : decode cL_areItems 281 = .ok (.aload_n 1, 1) := by decide +kernel
theorem dL_areItems_282 : decode cL_areItems 282 = .ok (.bipush 60, 2) := by decide +kernel
theorem dL_areItems_284 : decode cL_areItems 284 = .ok (.iaload, 1) := by decide +kernel
theorem dL_areItems_285 : decode cL_areItems 285 = .ok (.iconst 0, 1) := by decide +kernel
theorem dL_areItems_286 : decode cL_areItems 286 = .ok (.invokevirtual 83, 3) := by decide +kernel
theorem dL_areItems_289 : decode cL_areItems 289 = .ok (.sipush (-1002), 3) := by decide +kernel
theorem dL_areItems_292 : decode cL_areItems 292 = .ok (.if_icmp .ne 20, 3) := by decide +kernel
theorem dL_areItems_295 : decode cL_areItems 295 = .ok (.aload_n 0, 1) := by decide +kernel
theorem dL_areItems_296 : decode cL_areItems 296 = .ok (.iconst 0, 1) := by decide +kernel
theorem dL_areItems_297 : decode cL_areItems 297 = .ok (.bipush 12, 2) := by decide +kernel
theorem dL_areItems_299 : decode cL_areItems 299 = .ok (.invokevirtual 83, 3) := by decide +kernel
theorem dL_areItems_302 : decode cL_areItems 302 = .ok (.sipush (-1002), 3) := by decide +kernel
theorem dL_areItems_305 : decode cL_areItems 305 = .ok (.if_icmp .ne 7, 3) := by decide +kernel
theorem dL_areItems_308 : decode cL_areItems 308 = .ok (.iconst 1, 1) := by decide +kernel
theorem dL_areItems_309 : decode cL_areItems 309 = .ok (.goto 4, 3) := by decide +kernel
theorem dL_areItems_312 : decode cL_areItems 312 = .ok (.iconst 0, 1) := by decide +kernel
theorem dL_areItems_313 : decode cL_areItems 313 = .ok (.ireturn, 1) := by decide +kernel
theorem dL_areSizes_0 : decode cL_areSizes 0 = .ok (.bipush 48, 2) := by decide +kernel
theorem dL_areSizes_2 : decode cL_areSizes 2 = .ok (.newarray .int, 2) := by decide +kernel
theorem dL_areSizes_4 : decode cL_areSizes 4 = .ok (.astore 4, 2) := by decide +kernel
theorem dL_areSizes_6 : decode cL_areSizes 6 = .ok (.iconst 0, 1) := by decide +kernel
theorem dL_areSizes_7 : decode cL_areSizes 7 = .ok (.istore 5, 2) := by decide +kernel
theorem dL_areSizes_9 : decode cL_areSizes 9 = .ok (.iload 5, 2) := by decide +kernel
theorem dL_areSizes_11 : decode cL_areSizes 11 = .ok (.aload_n 3, 1) := by decide +kernel
theorem dL_areSizes_12 : decode cL_areSizes 12 = .ok (.bipush 17, 2) := by decide +kernel
theorem dL_areSizes_14 : decode cL_areSizes 14 = .ok (.iaload, 1) := by decide +kernel
theorem dL_areSizes_15 : decode cL_areSizes 15 = .ok (.if_icmp .ge 282, 3) := by decide +kernel
theorem dL_areSizes_18 : decode cL_areSizes 18 = .ok (.aload_n 1, 1) := by decide +kernel
theorem dL_areSizes_19 : decode cL_areSizes 19 = .ok (.aload_n 2, 1) := by decide +kernel
theorem dL_areSizes_20 : decode cL_areSizes 20 = .ok (.aload_n 3, 1) := by decide +kernel
theorem dL_areSizes_21 : decode cL_areSizes 21 = .ok (.aload 4, 2) := by decide +kernel
theorem dL_areSizes_23 : decode cL_areSizes 23 = .ok (.iload 5, 2) := by decide +kernel
theorem dL_areSizes_25 : decode cL_areSizes 25 = .ok (.invokestatic 95, 3) := by decide +kernel
theorem dL_areSizes_28 : decode cL_areSizes 28 = .ok (.iconst 0, 1) := by decide +kernel
theorem dL_areSizes_29 : decode cL_areSizes 29 = .ok (.istore 6, 2) := by decide +kernel
theorem dL_areSizes_31 : decode cL_areSizes 31 = .ok (.iconst (-1), 1) := by decide +kernel
theorem dL_areSizes_32 : decode cL_areSizes 32 = .ok (.istore 7, 2) := by decide +kernel
theorem dL_areSizes_34 : decode cL_areSizes 34 = .ok (.iconst 0, 1) := by decide +kernel
theorem dL_areSizes_35 : decode cL_areSizes 35 = .ok (.istore 8, 2) := by decide +kernel
theorem dL_areSizes_37 : decode cL_areSizes 37 = .ok (.iconst 0, 1) := by decide +kernel
theorem dL_areSizes_38 : decode cL_areSizes 38 = .ok (.istore 9, 2) := by decide +kernel
theorem dL_areSizes_40 : decode cL_areSizes 40 = .ok (.iload 9, 2) := by decide +kernel
theorem dL_areSizes_42 : decode cL_areSizes 42 = .ok (.aload_n 3, 1) := by decide +kernel
theorem dL_areSizes_43 : decode cL_areSizes 43 = .ok (.bipush 16, 2) := by decide +kernel
theorem dL_areSizes_45 : decode cL_areSizes 45 = .ok (.iaload, 1) := by decide +kernel
theorem dL_areSizes_46 : decode cL_areSizes 46 = .ok (.if_icmp .ge 151, 3) := by decide +kernel
theorem dL_areSizes_49 : decode cL_areSizes 49 = .ok (.aload_n 3, 1) := by decide +kernel
theorem dL_areSizes_50 : decode cL_areSizes 50 = .ok (.bipush 8, 2) := by decide +kernel
theorem dL_areSizes_52 : decode cL_areSizes 52 = .ok (.iload 9, 2) := by decide +kernel
theorem dL_areSizes_54 : decode cL_areSizes 54 = .ok (.iadd, 1) := by decide +kernel
theorem dL_areSizes_55 : decode cL_areSizes 55 = .ok (.iaload, 1) := by decide +kernel
theorem dL_areSizes_56 : decode cL_areSizes 56 = .ok (.iload 5, 2) := by decide +kernel
theorem dL_areSizes_58 : decode cL_areSizes 58 = .ok (.if_icmp .ne 133, 3) := by decide +kernel
theorem dL_areSizes_61 : decode cL_areSizes 61 = .ok (.iload 7, 2) := by decide +kernel
theorem dL_areSizes_63 : decode cL_areSizes 63 = .ok (.ifCond .ge 8, 3) := by decide +kernel
theorem dL_areSizes_66 : decode cL_areSizes 66 = .ok (.iload 9, 2) := by decide +kernel
theorem dL_areSizes_68 : decode cL_areSizes 68 = .ok (.goto 5, 3) := by decide +kernel
theorem dL_areSizes_71 : decode cL_areSizes 71 = .ok (.iload 7, 2) := by decide +kernel
theorem dL_areSizes_73 : decode cL_areSizes 73 = .ok (.istore 7, 2) := by decide +kernel
theorem dL_areSizes_75 : decode cL_areSizes 75 = .ok (.iload 8, 2) := by decide +kernel
theorem dL_areSizes_77 : decode cL_areSizes 77 = .ok (.iload 6, 2) := by decide +kernel
theorem dL_areSizes_79 : decode cL_areSizes 79 = .ok (.ifCond .le 9, 3) := by decide +kernel
theorem dL_areSizes_82 : decode cL_areSizes 82 = .ok (.aload_n 2, 1) := by decide +kernel
theorem dL_areSizes_83 : decode cL_areSizes 83 = .ok (.iconst 1, 1) := by decide +kernel
theorem dL_areSizes_84 : decode cL_areSizes 84 = .ok (.iaload, 1) := by decide +kernel
theorem dL_areSizes_85 : decode cL_areSizes 85 = .ok (.goto 4, 3) := by decide +kernel
theorem dL_areSizes_88 : decode cL_areSizes 88 = .ok (.iconst 0, 1) := by decide +kernel
theorem dL_areSizes_89 : decode cL_areSizes 89 = .ok (.aload_n 1, 1) := by decide +kernel
theorem dL_areSizes_90 : decode cL_areSizes 90 = .ok (.aload_n 3, 1) := by decide +kernel
theorem dL_areSizes_91 : decode cL_areSizes 91 = .ok (.iload 9, 2) := by decide +kernel
theorem dL_areSizes_93 : decode cL_areSizes 93 = .ok (.iaload, 1) := by decide +kernel
theorem dL_areSizes_94 : decode cL_areSizes 94 = .ok (.invokestatic 79, 3) := by decide +kernel
theorem dL_areSizes_97 : decode cL_areSizes 97 = .ok (.iadd, 1) := by decide +kernel
theorem dL_areSizes_98 : decode cL_areSizes 98 = .ok (.iconst 2, 1) := by decide +kernel
theorem dL_areSizes_99 : decode cL_areSizes 99 = .ok (.aload_n 1, 1) := by decide +kernel
theorem dL_areSizes_100 : decode cL_areSizes 100 = .ok (.bipush 12, 2) := by decide +kernel
theorem dL_areSizes_102 : decode cL_areSizes 102 = .ok (.aload_n 3, 1) := by decide +kernel
theorem dL_areSizes_103 : decode cL_areSizes 103 = .ok (.iload 9, 2) := by decide +kernel
theorem dL_areSizes_105 : decode cL_areSizes 105 = .ok (.iaload, 1) := by decide +kernel
theorem dL_areSizes_106 : decode cL_areSizes 106 = .ok (.imul, 1) := by decide +kernel
theorem dL_areSizes_107 : decode cL_areSizes 107 = .ok (.iconst 5, 1) := by decide +kernel
theorem dL_areSizes_108 : decode cL_areSizes 108 = .ok (.iadd, 1) := by decide +kernel
theorem dL_areSizes_109 : decode cL_areSizes 109 = .ok (.iaload, 1) := by decide +kernel
theorem dL_areSizes_110 : decode cL_areSizes 110 = .ok (.imul, 1) := by decide +kernel
theorem dL_areSizes_111 : decode cL_areSizes 111 = .ok (.iadd, 1) := by decide +kernel
theorem dL_areSizes_112 : decode cL_areSizes 112 = .ok (.iadd, 1) := by decide +kernel
theorem dL_areSizes_113 : decode cL_areSizes 113 = .ok (.istore 8, 2) := by decide +kernel
theorem dL_areSizes_115 : decode cL_areSizes 115 = .ok (.iinc 6 1, 3) := by decide +kernel
theorem dL_areSizes_118 : decode cL_areSizes 118 = .ok (.aload_n 0, 1) := by decide +kernel
theorem dL_areSizes_119 : decode cL_areSizes 119 = .ok (.aload_n 3, 1) := by decide +kernel
theorem dL_areSizes_120 : decode cL_areSizes 120 = .ok (.iload 9, 2) := by decide +kernel
theorem dL_areSizes_122 : decode cL_areSizes 122 = .ok (.iaload, 1) := by decide +kernel
theorem dL_areSizes_123 : decode cL_areSizes 123 = .ok (.iconst 3, 1) := by decide +kernel
theorem dL_areSizes_124 : decode cL_areSizes 124 = .ok (.invokevirtual 86, 3) := by decide +kernel
theorem dL_areSizes_127 : decode cL_areSizes 127 = .ok (.aload 4, 2) := by decide +kernel
theorem dL_areSizes_129 : decode cL_areSizes 129 = .ok (.aload_n 3, 1) := by decide +kernel
theorem dL_areSizes_130 : decode cL_areSizes 130 = .ok (.iload 9, 2) := by decide +kernel
theorem dL_areSizes_132 : decode cL_areSizes 132 = .ok (.iaload, 1) := by decide +kernel
theorem dL_areSizes_133 : decode cL_areSizes 133 = .ok (.iaload, 1) := by decide +kernel
theorem dL_areSizes_134 : decode cL_areSizes 134 = .ok (.if_icmp .ne 55, 3) := by decide +kernel
theorem dL_areSizes_137 : decode cL_areSizes 137 = .ok (.aload_n 0, 1) := by decide +kernel
theorem dL_areSizes_138 : decode cL_areSizes 138 = .ok (.aload_n 3, 1) := by decide +kernel
theorem dL_areSizes_139 : decode cL_areSizes 139 = .ok (.iload 9, 2) := by decide +kernel
theorem dL_areSizes_141 : decode cL_areSizes 141 = .ok (.iaload, 1) := by decide +kernel
theorem dL_areSizes_142 : decode cL_areSizes 142 = .ok (.bipush 6, 2) := by decide +kernel
theorem dL_areSizes_144 : decode cL_areSizes 144 = .ok (.invokevirtual 86, 3) := by decide +kernel
theorem dL_areSizes_147 : decode cL_areSizes 147 = .ok (.aload 4, 2) := by decide +kernel
theorem dL_areSizes_149 : decode cL_areSizes 149 = .ok (.aload_n 3, 1) := by decide +kernel
theorem dL_areSizes_150 : decode cL_areSizes 150 = .ok (.iload 9, 2) := by decide +kernel
theorem dL_areSizes_152 : decode cL_areSizes 152 = .ok (.iaload, 1) := by decide +kernel
theorem dL_areSizes_153 : decode cL_areSizes 153 = .ok (.iaload, 1) := by decide +kernel
theorem dL_areSizes_154 : decode cL_areSizes 154 = .ok (.aload_n 1, 1) := by decide +kernel
theorem dL_areSizes_155 : decode cL_areSizes 155 = .ok (.aload_n 3, 1) := by decide +kernel
theorem dL_areSizes_156 : decode cL_areSizes 156 = .ok (.iload 9, 2) := by decide +kernel
theorem dL_areSizes_158 : decode cL_areSizes 158 = .ok (.iaload, 1) := by decide +kernel
theorem dL_areSizes_159 : decode cL_areSizes 159 = .ok (.invokestatic 79, 3) := by decide +kernel
theorem dL_areSizes_162 : decode cL_areSizes 162 = .ok (.isub, 1) := by decide +kernel
theorem dL_areSizes_163 : decode cL_areSizes 163 = .ok (.if_icmp .ne 26, 3) := by decide +kernel
theorem dL_areSizes_166 : decode cL_areSizes 166 = .ok (.aload_n 0, 1) := by decide +kernel
theorem dL_areSizes_167 : decode cL_areSizes 167 = .ok (.aload_n 3, 1) := by decide +kernel
theorem dL_areSizes_168 : decode cL_areSizes 168 = .ok (.iload 9, 2) := by decide +kernel
theorem dL_areSizes_170 : decode cL_areSizes 170 = .ok (.iaload, 1) := by decide +kernel
theorem dL_areSizes_171 : decode cL_areSizes 171 = .ok (.bipush 7, 2) := by decide +kernel
theorem dL_areSizes_173 : decode cL_areSizes 173 = .ok (.invokevirtual 86, 3) := by decide +kernel
theorem dL_areSizes_176 : decode cL_areSizes 176 = .ok (.aload 4, 2) := by decide +kernel
theorem dL_areSizes_178 : decode cL_areSizes 178 = .ok (.bipush 8, 2) := by decide +kernel
theorem dL_areSizes_180 : decode cL_areSizes 180 = .ok (.aload_n 3, 1) := by decide +kernel
theorem dL_areSizes_181 : decode cL_areSizes 181 = .ok (.iload 9, 2) := by decide +kernel
theorem dL_areSizes_183 : decode cL_areSizes 183 = .ok (.iaload, 1) := by decide +kernel
theorem dL_areSizes_184 : decode cL_areSizes 184 = .ok (.iadd, 1) := by decide +kernel
theorem dL_areSizes_185 : decode cL_areSizes 185 = .ok (.iaload, 1) := by decide +kernel
theorem dL_areSizes_186 : decode cL_areSizes 186 = .ok (.if_icmp .eq 5, 3) := by decide +kernel
theorem dL_areSizes_189 : decode cL_areSizes 189 = .ok (.iconst 0, 1) := by decide +kernel
theorem dL_areSizes_190 : decode cL_areSizes 190 = .ok (.ireturn, 1) := by decide +kernel
theorem dL_areSizes_191 : decode cL_areSizes 191 = .ok (.iinc 9 1, 3) := by decide +kernel
theorem dL_areSizes_194 : decode cL_areSizes 194 = .ok (.goto (-154), 3) := by decide +kernel
theorem dL_areSizes_197 : decode cL_areSizes 197 = .ok (.aload_n 0, 1) := by decide +kernel
theorem dL_areSizes_198 : decode cL_areSizes 198 = .ok (.iload 5, 2) := by decide +kernel
theorem dL_areSizes_200 : decode cL_areSizes 200 = .ok (.iconst 0, 1) := by decide +kernel
theorem dL_areSizes_201 : decode cL_areSizes 201 = .ok (.invokevirtual 99, 3) := by decide +kernel
theorem dL_areSizes_204 : decode cL_areSizes 204 = .ok (.iload 6, 2) := by decide +kernel
theorem dL_areSizes_206 : decode cL_areSizes 206 = .ok (.if_icmp .ne 83, 3) := by decide +kernel
theorem dL_areSizes_209 : decode cL_areSizes 209 = .ok (.aload_n 0, 1) := by decide +kernel
theorem dL_areSizes_210 : decode cL_areSizes 210 = .ok (.iload 5, 2) := by decide +kernel
theorem dL_areSizes_212 : decode cL_areSizes 212 = .ok (.iconst 1, 1) := by decide +kernel
theorem dL_areSizes_213 : decode cL_areSizes 213 = .ok (.invokevirtual 99, 3) := by decide +kernel
theorem dL_areSizes_216 : decode cL_areSizes 216 = .ok (.iload 7, 2) := by decide +kernel
theorem dL_areSizes_218 : decode cL_areSizes 218 = .ok (.if_icmp .ne 71, 3) := by decide +kernel
theorem dL_areSizes_221 : decode cL_areSizes 221 = .ok (.aload_n 0, 1) := by decide +kernel
theorem dL_areSizes_222 : decode cL_areSizes 222 = .ok (.iload 5, 2) := by decide +kernel
theorem dL_areSizes_224 : decode cL_areSizes 224 = .ok (.iconst 4, 1) := by decide +kernel
theorem dL_areSizes_225 : decode cL_areSizes 225 = .ok (.invokevirtual 99, 3) := by decide +kernel
theorem dL_areSizes_228 : decode cL_areSizes 228 = .ok (.aload 4, 2) := by decide +kernel
theorem dL_areSizes_230 : decode cL_areSizes 230 = .ok (.bipush 24, 2) := by decide +kernel
theorem dL_areSizes_232 : decode cL_areSizes 232 = .ok (.iload 5, 2) := by decide +kernel
theorem dL_areSizes_234 : decode cL_areSizes 234 = .ok (.iadd, 1) := by decide +kernel
theorem dL_areSizes_235 : decode cL_areSizes 235 = .ok (.iaload, 1) := by decide +kernel
theorem dL_areSizes_236 : decode cL_areSizes 236 = .ok (.if_icmp .ne 53, 3) := by decide +kernel
theorem dL_areSizes_239 : decode cL_areSizes 239 = .ok (.aload_n 0, 1) := by decide +kernel
theorem dL_areSizes_240 : decode cL_areSizes 240 = .ok (.iload 5, 2) := by decide +kernel
theorem dL_areSizes_242 : decode cL_areSizes 242 = .ok (.iconst 5, 1) := by decide +kernel
theorem dL_areSizes_243 : decode cL_areSizes 243 = .ok (.invokevirtual 99, 3) := by decide +kernel
theorem dL_areSizes_246 : decode cL_areSizes 246 = .ok (.aload 4, 2) := by decide +kernel
theorem dL_areSizes_248 : decode cL_areSizes 248 = .ok (.bipush 32, 2) := by decide +kernel
theorem dL_areSizes_250 : decode cL_areSizes 250 = .ok (.iload 5, 2) := by decide +kernel
theorem dL_areSizes_252 : decode cL_areSizes 252 = .ok (.iadd, 1) := by decide +kernel
theorem dL_areSizes_253 : decode cL_areSizes 253 = .ok (.iaload, 1) := by decide +kernel
theorem dL_areSizes_254 : decode cL_areSizes 254 = .ok (.if_icmp .ne 35, 3) := by decide +kernel
theorem dL_areSizes_257 : decode cL_areSizes 257 = .ok (.aload_n 0, 1) := by decide +kernel
theorem dL_areSizes_258 : decode cL_areSizes 258 = .ok (.iload 5, 2) := by decide +kernel
theorem dL_areSizes_260 : decode cL_areSizes 260 = .ok (.bipush 6, 2) := by decide +kernel
theorem dL_areSizes_262 : decode cL_areSizes 262 = .ok (.invokevirtual 99, 3) := by decide +kernel
theorem dL_areSizes_265 : decode cL_areSizes 265 = .ok (.aload 4, 2) := by decide +kernel
theorem dL_areSizes_267 : decode cL_areSizes 267 = .ok (.bipush 40, 2) := by decide +kernel
theorem dL_areSizes_269 : decode cL_areSizes 269 = .ok (.iload 5, 2) := by decide +kernel
theorem dL_areSizes_271 : decode cL_areSizes 271 = .ok (.iadd, 1) := by decide +kernel
theorem dL_areSizes_272 : decode cL_areSizes 272 = .ok (.iaload, 1) := by decide +kernel
theorem dL_areSizes_273 : decode cL_areSizes 273 = .ok (.if_icmp .ne 16, 3) := by decide +kernel
theorem dL_areSizes_276 : decode cL_areSizes 276 = .ok (.aload_n 0, 1) := by decide +kernel
theorem dL_areSizes_277 : decode cL_areSizes 277 = .ok (.iload 5, 2) := by decide +kernel
theorem dL_areSizes_279 : decode cL_areSizes 279 = .ok (.bipush 7, 2) := by decide +kernel
theorem dL_areSizes_281 : decode cL_areSizes 281 = .ok (.invokevirtual 99, 3) := by decide +kernel
theorem dL_areSizes_284 : decode cL_areSizes 284 = .ok (.iload 8, 2) := by decide +kernel
theorem dL_areSizes_286 : decode cL_areSizes 286 = .ok (.if_icmp .eq 5, 3) := by decide +kernel
theorem dL_areSizes_289 : decode cL_areSizes 289 = .ok (.iconst 0, 1) := by decide +kernel
theorem dL_areSizes_290 : decode cL_areSizes 290 = .ok (.ireturn, 1) := by decide +kernel
theorem dL_areSizes_291 : decode cL_areSizes 291 = .ok (.iinc 5 1, 3) := by decide +kernel
theorem dL_areSizes_294 : decode cL_areSizes 294 = .ok (.goto (-285), 3) := by decide +kernel
theorem dL_areSizes_297 : decode cL_areSizes 297 = .ok (.aload_n 0, 1) := by decide +kernel
theorem dL_areSizes_298 : decode cL_areSizes 298 = .ok (.aload_n 3, 1) := by decide +kernel
theorem dL_areSizes_299 : decode cL_areSizes 299 = .ok (.bipush 17, 2) := by decide +kernel
theorem dL_areSizes_301 : decode cL_areSizes 301 = .ok (.iaload, 1) := by decide +kernel
theorem dL_areSizes_302 : decode cL_areSizes 302 = .ok (.iconst 0, 1) := by decide +kernel
theorem dL_areSizes_303 : decode cL_areSizes 303 = .ok (.invokevirtual 99, 3) := by decide +kernel
theorem dL_areSizes_306 : decode cL_areSizes 306 = .ok (.sipush (-1001), 3) := by decide +kernel
theorem dL_areSizes_309 : decode cL_areSizes 309 = .ok (.if_icmp .ne 32, 3) := by decide +kernel
theorem dL_areSizes_312 : decode cL_areSizes 312 = .ok (.aload_n 0, 1) := by decide +kernel
theorem dL_areSizes_313 : decode cL_areSizes 313 = .ok (.iconst (-1), 1) := by decide +kernel
theorem dL_areSizes_314 : decode cL_areSizes 314 = .ok (.iconst 0, 1) := by decide +kernel
theorem dL_areSizes_315 : decode cL_areSizes 315 = .ok (.invokevirtual 99, 3) := by decide +kernel
theorem dL_areSizes_318 : decode cL_areSizes 318 = .ok (.sipush (-1002), 3) := by decide +kernel
theorem dL_areSizes_321 : decode cL_areSizes 321 = .ok (.if_icmp .ne 20, 3) := by decide +kernel
theorem dL_areSizes_324 : decode cL_areSizes 324 = .ok (.aload_n 0, 1) := by decide +kernel
theorem dL_areSizes_325 : decode cL_areSizes 325 = .ok (.iconst 0, 1) := by decide +kernel
theorem dL_areSizes_326 : decode cL_areSizes 326 = .ok (.bipush 8, 2) := by decide +kernel
theorem dL_areSizes_328 : decode cL_areSizes 328 = .ok (.invokevirtual 99, 3) := by decide +kernel
theorem dL_areSizes_331 : decode cL_areSizes 331 = .ok (.sipush (-1002), 3) := by decide +kernel
theorem dL_areSizes_334 : decode cL_areSizes 334 = .ok (.if_icmp .ne 7, 3) := by decide +kernel
theorem dL_areSizes_337 : decode cL_areSizes 337 = .ok (.iconst 1, 1) := by decide +kernel
theorem dL_areSizes_338 : decode cL_areSizes 338 = .ok (.goto 4, 3) := by decide +kernel
theorem dL_areSizes_341 : decode cL_areSizes 341 = .ok (.iconst 0, 1) := by decide +kernel
theorem dL_areSizes_342 : decode cL_areSizes 342 = .ok (.ireturn, 1) := by decide +kernel
theorem dL_law_0 : decode cL_law 0 = .ok (.new 10, 3) := by decide +kernel
theorem dL_law_3 : decode cL_law 3 = .ok (.dup, 1) := by decide +kernel
theorem dL_law_4 : decode cL_law 4 = .ok (.invokespecial 102, 3) := by decide +kernel
theorem dL_law_7 : decode cL_law 7 = .ok (.astore_n 1, 1) := by decide +kernel
theorem dL_law_8 : decode cL_law 8 = .ok (.bipush 64, 2) := by decide +kernel
theorem dL_law_10 : decode cL_law 10 = .ok (.newarray .int, 2) := by decide +kernel
theorem dL_law_12 : decode cL_law 12 = .ok (.astore_n 2, 1) := by decide +kernel
theorem dL_law_13 : decode cL_law 13 = .ok (.bipush 8, 2) := by decide +kernel
theorem dL_law_15 : decode cL_law 15 = .ok (.newarray .int, 2) := by decide +kernel
theorem dL_law_17 : decode cL_law 17 = .ok (.astore_n 3, 1) := by decide +kernel
theorem dL_law_18 : decode cL_law 18 = .ok (.bipush 24, 2) := by decide +kernel
theorem dL_law_20 : decode cL_law 20 = .ok (.newarray .int, 2) := by decide +kernel
theorem dL_law_22 : decode cL_law 22 = .ok (.astore 4, 2) := by decide +kernel
theorem dL_law_24 : decode cL_law 24 = .ok (.aload_n 3, 1) := by decide +kernel
theorem dL_law_25 : decode cL_law 25 = .ok (.invokestatic 103, 3) := by decide +kernel
theorem dL_law_28 : decode cL_law 28 = .ok (.aload_n 2, 1) := by decide +kernel
theorem dL_law_29 : decode cL_law 29 = .ok (.aload_n 3, 1) := by decide +kernel
theorem dL_law_30 : decode cL_law 30 = .ok (.aload 4, 2) := by decide +kernel
theorem dL_law_32 : decode cL_law 32 = .ok (.invokestatic 107, 3) := by decide +kernel
theorem dL_law_35 : decode cL_law 35 = .ok (.aload_n 1, 1) := by decide +kernel
theorem dL_law_36 : decode cL_law 36 = .ok (.iconst 0, 1) := by decide +kernel
theorem dL_law_37 : decode cL_law 37 = .ok (.invokevirtual 47, 3) := by decide +kernel
theorem dL_law_40 : decode cL_law 40 = .ok (.sipush (-2000), 3) := by decide +kernel
theorem dL_law_43 : decode cL_law 43 = .ok (.if_icmp .ne 92, 3) := by decide +kernel
theorem dL_law_46 : decode cL_law 46 = .ok (.aload_n 1, 1) := by decide +kernel
theorem dL_law_47 : decode cL_law 47 = .ok (.iconst 1, 1) := by decide +kernel
theorem dL_law_48 : decode cL_law 48 = .ok (.invokevirtual 47, 3) := by decide +kernel
theorem dL_law_51 : decode cL_law 51 = .ok (.sipush (-1002), 3) := by decide +kernel
theorem dL_law_54 : decode cL_law 54 = .ok (.if_icmp .ne 81, 3) := by decide +kernel
theorem dL_law_57 : decode cL_law 57 = .ok (.aload_n 1, 1) := by decide +kernel
theorem dL_law_58 : decode cL_law 58 = .ok (.iconst 0, 1) := by decide +kernel
theorem dL_law_59 : decode cL_law 59 = .ok (.invokevirtual 111, 3) := by decide +kernel
theorem dL_law_62 : decode cL_law 62 = .ok (.sipush (-1002), 3) := by decide +kernel
theorem dL_law_65 : decode cL_law 65 = .ok (.if_icmp .ne 70, 3) := by decide +kernel
theorem dL_law_68 : decode cL_law 68 = .ok (.aload_n 1, 1) := by decide +kernel
theorem dL_law_69 : decode cL_law 69 = .ok (.iconst 0, 1) := by decide +kernel
theorem dL_law_70 : decode cL_law 70 = .ok (.invokevirtual 73, 3) := by decide +kernel
theorem dL_law_73 : decode cL_law 73 = .ok (.sipush (-1002), 3) := by decide +kernel
theorem dL_law_76 : decode cL_law 76 = .ok (.if_icmp .ne 59, 3) := by decide +kernel
theorem dL_law_79 : decode cL_law 79 = .ok (.aload_n 1, 1) := by decide +kernel
theorem dL_law_80 : decode cL_law 80 = .ok (.iconst 0, 1) := by decide +kernel
theorem dL_law_81 : decode cL_law 81 = .ok (.iconst 0, 1) := by decide +kernel
theorem dL_law_82 : decode cL_law 82 = .ok (.invokevirtual 86, 3) := by decide +kernel
theorem dL_law_85 : decode cL_law 85 = .ok (.sipush (-1002), 3) := by decide +kernel
theorem dL_law_88 : decode cL_law 88 = .ok (.if_icmp .ne 47, 3) := by decide +kernel
theorem dL_law_91 : decode cL_law 91 = .ok (.aload_n 1, 1) := by decide +kernel
theorem dL_law_92 : decode cL_law 92 = .ok (.invokevirtual 114, 3) := by decide +kernel
theorem dL_law_95 : decode cL_law 95 = .ok (.sipush (-1003), 3) := by decide +kernel
theorem dL_law_98 : decode cL_law 98 = .ok (.if_icmp .ne 37, 3) := by decide +kernel
theorem dL_law_101 : decode cL_law 101 = .ok (.aload_n 1, 1) := by decide +kernel
theorem dL_law_102 : decode cL_law 102 = .ok (.bipush 14, 2) := by decide +kernel
theorem dL_law_104 : decode cL_law 104 = .ok (.invokevirtual 92, 3) := by decide +kernel
theorem dL_law_107 : decode cL_law 107 = .ok (.sipush (-1002), 3) := by decide +kernel
theorem dL_law_110 : decode cL_law 110 = .ok (.if_icmp .ne 25, 3) := by decide +kernel
theorem dL_law_113 : decode cL_law 113 = .ok (.aload_n 1, 1) := by decide +kernel
theorem dL_law_114 : decode cL_law 114 = .ok (.aload_n 2, 1) := by decide +kernel
theorem dL_law_115 : decode cL_law 115 = .ok (.aload_n 3, 1) := by decide +kernel
theorem dL_law_116 : decode cL_law 116 = .ok (.aload 4, 2) := by decide +kernel
theorem dL_law_118 : decode cL_law 118 = .ok (.invokestatic 117, 3) := by decide +kernel
theorem dL_law_121 : decode cL_law 121 = .ok (.ifCond .eq 14, 3) := by decide +kernel
theorem dL_law_124 : decode cL_law 124 = .ok (.aload_n 1, 1) := by decide +kernel
theorem dL_law_125 : decode cL_law 125 = .ok (.aload_n 2, 1) := by decide +kernel
theorem dL_law_126 : decode cL_law 126 = .ok (.aload_n 3, 1) := by decide +kernel
theorem dL_law_127 : decode cL_law 127 = .ok (.aload 4, 2) := by decide +kernel
theorem dL_law_129 : decode cL_law 129 = .ok (.invokestatic 121, 3) := by decide +kernel
theorem dL_law_132 : decode cL_law 132 = .ok (.ifCond .ne 5, 3) := by decide +kernel
theorem dL_law_135 : decode cL_law 135 = .ok (.iconst 0, 1) := by decide +kernel
theorem dL_law_136 : decode cL_law 136 = .ok (.ireturn, 1) := by decide +kernel
theorem dL_law_137 : decode cL_law 137 = .ok (.iconst 0, 1) := by decide +kernel
theorem dL_law_138 : decode cL_law 138 = .ok (.istore 5, 2) := by decide +kernel
theorem dL_law_140 : decode cL_law 140 = .ok (.iload 5, 2) := by decide +kernel
theorem dL_law_142 : decode cL_law 142 = .ok (.bipush 24, 2) := by decide +kernel
theorem dL_law_144 : decode cL_law 144 = .ok (.if_icmp .ge 219, 3) := by decide +kernel
theorem dL_law_147 : decode cL_law 147 = .ok (.aload_n 0, 1) := by decide +kernel
theorem dL_law_148 : decode cL_law 148 = .ok (.iconst 2, 1) := by decide +kernel
theorem dL_law_149 : decode cL_law 149 = .ok (.iload 5, 2) := by decide +kernel
theorem dL_law_151 : decode cL_law 151 = .ok (.imul, 1) := by decide +kernel
theorem dL_law_152 : decode cL_law 152 = .ok (.invokestatic 124, 3) := by decide +kernel
theorem dL_law_155 : decode cL_law 155 = .ok (.istore 6, 2) := by decide +kernel
theorem dL_law_157 : decode cL_law 157 = .ok (.aload_n 0, 1) := by decide +kernel
theorem dL_law_158 : decode cL_law 158 = .ok (.iconst 2, 1) := by decide +kernel
theorem dL_law_159 : decode cL_law 159 = .ok (.iload 5, 2) := by decide +kernel
theorem dL_law_161 : decode cL_law 161 = .ok (.imul, 1) := by decide +kernel
theorem dL_law_162 : decode cL_law 162 = .ok (.iconst 1, 1) := by decide +kernel
theorem dL_law_163 : decode cL_law 163 = .ok (.iadd, 1) := by decide +kernel
theorem dL_law_164 : decode cL_law 164 = .ok (.invokestatic 124, 3) := by decide +kernel
theorem dL_law_167 : decode cL_law 167 = .ok (.istore 7, 2) := by decide +kernel
theorem dL_law_169 : decode cL_law 169 = .ok (.aload_n 2, 1) := by decide +kernel
theorem dL_law_170 : decode cL_law 170 = .ok (.bipush 60, 2) := by decide +kernel
theorem dL_law_172 : decode cL_law 172 = .ok (.iaload, 1) := by decide +kernel
theorem dL_law_173 : decode cL_law 173 = .ok (.ifCond .ne 7, 3) := by decide +kernel
theorem dL_law_176 : decode cL_law 176 = .ok (.iconst 0, 1) := by decide +kernel
theorem dL_law_177 : decode cL_law 177 = .ok (.goto 12, 3) := by decide +kernel
theorem dL_law_180 : decode cL_law 180 = .ok (.iload 7, 2) := by decide +kernel
theorem dL_law_182 : decode cL_law 182 = .ok (.aload_n 2, 1) := by decide +kernel
theorem dL_law_183 : decode cL_law 183 = .ok (.bipush 60, 2) := by decide +kernel
theorem dL_law_185 : decode cL_law 185 = .ok (.iaload, 1) := by decide +kernel
theorem dL_law_186 : decode cL_law 186 = .ok (.invokestatic 35, 3) := by decide +kernel
theorem dL_law_189 : decode cL_law 189 = .ok (.istore 8, 2) := by decide +kernel
theorem dL_law_191 : decode cL_law 191 = .ok (.aload_n 2, 1) := by decide +kernel
theorem dL_law_192 : decode cL_law 192 = .ok (.bipush 60, 2) := by decide +kernel
theorem dL_law_194 : decode cL_law 194 = .ok (.iaload, 1) := by decide +kernel
theorem dL_law_195 : decode cL_law 195 = .ok (.ifCond .ne 8, 3) := by decide +kernel
theorem dL_law_198 : decode cL_law 198 = .ok (.bipush 9, 2) := by decide +kernel
theorem dL_law_200 : decode cL_law 200 = .ok (.goto 13, 3) := by decide +kernel
theorem dL_law_203 : decode cL_law 203 = .ok (.iload 6, 2) := by decide +kernel
theorem dL_law_205 : decode cL_law 205 = .ok (.bipush 27, 2) := by decide +kernel
theorem dL_law_207 : decode cL_law 207 = .ok (.ishr, 1) := by decide +kernel
theorem dL_law_208 : decode cL_law 208 = .ok (.bipush 8, 2) := by decide +kernel
theorem dL_law_210 : decode cL_law 210 = .ok (.invokestatic 35, 3) := by decide +kernel
theorem dL_law_213 : decode cL_law 213 = .ok (.tableswitch 73 0 4 #[35, 47, 47, 61, 61], 35) := by decide +kernel
theorem dL_law_248 : decode cL_law 248 = .ok (.aload_n 1, 1) := by decide +kernel
theorem dL_law_249 : decode cL_law 249 = .ok (.aload_n 2, 1) := by decide +kernel
theorem dL_law_250 : decode cL_law 250 = .ok (.iload 8, 2) := by decide +kernel
theorem dL_law_252 : decode cL_law 252 = .ok (.invokestatic 127, 3) := by decide +kernel
theorem dL_law_255 : decode cL_law 255 = .ok (.istore 9, 2) := by decide +kernel
theorem dL_law_257 : decode cL_law 257 = .ok (.goto 64, 3) := by decide +kernel
theorem dL_law_260 : decode cL_law 260 = .ok (.aload_n 1, 1) := by decide +kernel
theorem dL_law_261 : decode cL_law 261 = .ok (.aload_n 2, 1) := by decide +kernel
theorem dL_law_262 : decode cL_law 262 = .ok (.iload 8, 2) := by decide +kernel
theorem dL_law_264 : decode cL_law 264 = .ok (.iload 6, 2) := by decide +kernel
theorem dL_law_266 : decode cL_law 266 = .ok (.invokestatic 131, 3) := by decide +kernel
theorem dL_law_269 : decode cL_law 269 = .ok (.istore 9, 2) := by decide +kernel
theorem dL_law_271 : decode cL_law 271 = .ok (.goto 50, 3) := by decide +kernel
theorem dL_law_274 : decode cL_law 274 = .ok (.aload_n 1, 1) := by decide +kernel
theorem dL_law_275 : decode cL_law 275 = .ok (.aload_n 3, 1) := by decide +kernel
theorem dL_law_276 : decode cL_law 276 = .ok (.iload 6, 2) := by decide +kernel
theorem dL_law_278 : decode cL_law 278 = .ok (.invokestatic 135, 3) := by decide +kernel
theorem dL_law_281 : decode cL_law 281 = .ok (.istore 9, 2) := by decide +kernel
theorem dL_law_283 : decode cL_law 283 = .ok (.goto 38, 3) := by decide +kernel
theorem dL_law_286 : decode cL_law 286 = .ok (.aload_n 1, 1) := by decide +kernel
theorem dL_law_287 : decode cL_law 287 = .ok (.aload_n 2, 1) := by decide +kernel
theorem dL_law_288 : decode cL_law 288 = .ok (.aload_n 2, 1) := by decide +kernel
theorem dL_law_289 : decode cL_law 289 = .ok (.bipush 60, 2) := by decide +kernel
theorem dL_law_291 : decode cL_law 291 = .ok (.iaload, 1) := by decide +kernel
theorem dL_law_292 : decode cL_law 292 = .ok (.ifCond .ne 7, 3) := by decide +kernel
theorem dL_law_295 : decode cL_law 295 = .ok (.iconst 0, 1) := by decide +kernel
theorem dL_law_296 : decode cL_law 296 = .ok (.goto 14, 3) := by decide +kernel
theorem dL_law_299 : decode cL_law 299 = .ok (.iload 7, 2) := by decide +kernel
theorem dL_law_301 : decode cL_law 301 = .ok (.aload_n 2, 1) := by decide +kernel
theorem dL_law_302 : decode cL_law 302 = .ok (.bipush 60, 2) := by decide +kernel
theorem dL_law_304 : decode cL_law 304 = .ok (.iaload, 1) := by decide +kernel
theorem dL_law_305 : decode cL_law 305 = .ok (.iconst 1, 1) := by decide +kernel
theorem dL_law_306 : decode cL_law 306 = .ok (.iadd, 1) := by decide +kernel
theorem dL_law_307 : decode cL_law 307 = .ok (.invokestatic 35, 3) := by decide +kernel
theorem dL_law_310 : decode cL_law 310 = .ok (.iload 6, 2) := by decide +kernel
theorem dL_law_312 : decode cL_law 312 = .ok (.iload 7, 2) := by decide +kernel
theorem dL_law_314 : decode cL_law 314 = .ok (.iconst 1, 1) := by decide +kernel
theorem dL_law_315 : decode cL_law 315 = .ok (.ishr, 1) := by decide +kernel
theorem dL_law_316 : decode cL_law 316 = .ok (.invokestatic 138, 3) := by decide +kernel
theorem dL_law_319 : decode cL_law 319 = .ok (.istore 9, 2) := by decide +kernel
theorem dL_law_321 : decode cL_law 321 = .ok (.aload_n 2, 1) := by decide +kernel
theorem dL_law_322 : decode cL_law 322 = .ok (.aload_n 3, 1) := by decide +kernel
theorem dL_law_323 : decode cL_law 323 = .ok (.aload 4, 2) := by decide +kernel
theorem dL_law_325 : decode cL_law 325 = .ok (.invokestatic 107, 3) := by decide +kernel
theorem dL_law_328 : decode cL_law 328 = .ok (.iload 9, 2) := by decide +kernel
theorem dL_law_330 : decode cL_law 330 = .ok (.ifCond .eq 25, 3) := by decide +kernel
theorem dL_law_333 : decode cL_law 333 = .ok (.aload_n 1, 1) := by decide +kernel
theorem dL_law_334 : decode cL_law 334 = .ok (.aload_n 2, 1) := by decide +kernel
theorem dL_law_335 : decode cL_law 335 = .ok (.aload_n 3, 1) := by decide +kernel
theorem dL_law_336 : decode cL_law 336 = .ok (.aload 4, 2) := by decide +kernel
theorem dL_law_338 : decode cL_law 338 = .ok (.invokestatic 117, 3) := by decide +kernel
theorem dL_law_341 : decode cL_law 341 = .ok (.ifCond .eq 14, 3) := by decide +kernel
theorem dL_law_344 : decode cL_law 344 = .ok (.aload_n 1, 1) := by decide +kernel
theorem dL_law_345 : decode cL_law 345 = .ok (.aload_n 2, 1) := by decide +kernel
theorem dL_law_346 : decode cL_law 346 = .ok (.aload_n 3, 1) := by decide +kernel
theorem dL_law_347 : decode cL_law 347 = .ok (.aload 4, 2) := by decide +kernel
theorem dL_law_349 : decode cL_law 349 = .ok (.invokestatic 121, 3) := by decide +kernel
theorem dL_law_352 : decode cL_law 352 = .ok (.ifCond .ne 5, 3) := by decide +kernel
theorem dL_law_355 : decode cL_law 355 = .ok (.iconst 0, 1) := by decide +kernel
theorem dL_law_356 : decode cL_law 356 = .ok (.ireturn, 1) := by decide +kernel
theorem dL_law_357 : decode cL_law 357 = .ok (.iinc 5 1, 3) := by decide +kernel
theorem dL_law_360 : decode cL_law 360 = .ok (.goto (-220), 3) := by decide +kernel
theorem dL_law_363 : decode cL_law 363 = .ok (.iconst 1, 1) := by decide +kernel
theorem dL_law_364 : decode cL_law 364 = .ok (.ireturn, 1) := by decide +kernel
