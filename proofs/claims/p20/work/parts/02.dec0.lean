theorem dX0_init_0 : decode cX0_init 0 = .ok (.aload_n 0, 1) := by decide +kernel
theorem dX0_init_1 : decode cX0_init 1 = .ok (.invokespecial 3, 3) := by decide +kernel
theorem dX0_init_4 : decode cX0_init 4 = .ok (.aload_n 0, 1) := by decide +kernel
theorem dX0_init_5 : decode cX0_init 5 = .ok (.bipush 8, 2) := by decide +kernel
theorem dX0_init_7 : decode cX0_init 7 = .ok (.newarray .int, 2) := by decide +kernel
theorem dX0_init_9 : decode cX0_init 9 = .ok (.putfield 9, 3) := by decide +kernel
theorem dX0_init_12 : decode cX0_init 12 = .ok (.aload_n 0, 1) := by decide +kernel
theorem dX0_init_13 : decode cX0_init 13 = .ok (.bipush 56, 2) := by decide +kernel
theorem dX0_init_15 : decode cX0_init 15 = .ok (.newarray .int, 2) := by decide +kernel
theorem dX0_init_17 : decode cX0_init 17 = .ok (.putfield 15, 3) := by decide +kernel
theorem dX0_init_20 : decode cX0_init 20 = .ok (.aload_n 0, 1) := by decide +kernel
theorem dX0_init_21 : decode cX0_init 21 = .ok (.sipush 1408, 3) := by decide +kernel
theorem dX0_init_24 : decode cX0_init 24 = .ok (.newarray .int, 2) := by decide +kernel
theorem dX0_init_26 : decode cX0_init 26 = .ok (.putfield 18, 3) := by decide +kernel
theorem dX0_init_29 : decode cX0_init 29 = .ok (.return_, 1) := by decide +kernel
theorem dX0_record_0 : decode cX0_record 0 = .ok (.aload_n 0, 1) := by decide +kernel
theorem dX0_record_1 : decode cX0_record 1 = .ok (.getfield 21, 3) := by decide +kernel
theorem dX0_record_4 : decode cX0_record 4 = .ok (.bipush 8, 2) := by decide +kernel
theorem dX0_record_6 : decode cX0_record 6 = .ok (.invokestatic 25, 3) := by decide +kernel
theorem dX0_record_9 : decode cX0_record 9 = .ok (.istore_n 2, 1) := by decide +kernel
theorem dX0_record_10 : decode cX0_record 10 = .ok (.aload_n 0, 1) := by decide +kernel
theorem dX0_record_11 : decode cX0_record 11 = .ok (.getfield 9, 3) := by decide +kernel
theorem dX0_record_14 : decode cX0_record 14 = .ok (.iload_n 2, 1) := by decide +kernel
theorem dX0_record_15 : decode cX0_record 15 = .ok (.aload_n 1, 1) := by decide +kernel
theorem dX0_record_16 : decode cX0_record 16 = .ok (.getfield 31, 3) := by decide +kernel
theorem dX0_record_19 : decode cX0_record 19 = .ok (.iastore, 1) := by decide +kernel
theorem dX0_record_20 : decode cX0_record 20 = .ok (.aload_n 1, 1) := by decide +kernel
theorem dX0_record_21 : decode cX0_record 21 = .ok (.getfield 35, 3) := by decide +kernel
theorem dX0_record_24 : decode cX0_record 24 = .ok (.iconst 0, 1) := by decide +kernel
theorem dX0_record_25 : decode cX0_record 25 = .ok (.aload_n 0, 1) := by decide +kernel
theorem dX0_record_26 : decode cX0_record 26 = .ok (.getfield 15, 3) := by decide +kernel
theorem dX0_record_29 : decode cX0_record 29 = .ok (.iload_n 2, 1) := by decide +kernel
theorem dX0_record_30 : decode cX0_record 30 = .ok (.bipush 7, 2) := by decide +kernel
theorem dX0_record_32 : decode cX0_record 32 = .ok (.imul, 1) := by decide +kernel
theorem dX0_record_33 : decode cX0_record 33 = .ok (.bipush 7, 2) := by decide +kernel
theorem dX0_record_35 : decode cX0_record 35 = .ok (.invokestatic 38, 3) := by decide +kernel
theorem dX0_record_38 : decode cX0_record 38 = .ok (.aload_n 1, 1) := by decide +kernel
theorem dX0_record_39 : decode cX0_record 39 = .ok (.getfield 44, 3) := by decide +kernel
theorem dX0_record_42 : decode cX0_record 42 = .ok (.iconst 0, 1) := by decide +kernel
theorem dX0_record_43 : decode cX0_record 43 = .ok (.aload_n 0, 1) := by decide +kernel
theorem dX0_record_44 : decode cX0_record 44 = .ok (.getfield 18, 3) := by decide +kernel
theorem dX0_record_47 : decode cX0_record 47 = .ok (.iload_n 2, 1) := by decide +kernel
theorem dX0_record_48 : decode cX0_record 48 = .ok (.bipush 16, 2) := by decide +kernel
theorem dX0_record_50 : decode cX0_record 50 = .ok (.imul, 1) := by decide +kernel
theorem dX0_record_51 : decode cX0_record 51 = .ok (.bipush 11, 2) := by decide +kernel
theorem dX0_record_53 : decode cX0_record 53 = .ok (.imul, 1) := by decide +kernel
theorem dX0_record_54 : decode cX0_record 54 = .ok (.sipush 176, 3) := by decide +kernel
theorem dX0_record_57 : decode cX0_record 57 = .ok (.invokestatic 38, 3) := by decide +kernel
theorem dX0_record_60 : decode cX0_record 60 = .ok (.aload_n 0, 1) := by decide +kernel
theorem dX0_record_61 : decode cX0_record 61 = .ok (.iload_n 2, 1) := by decide +kernel
theorem dX0_record_62 : decode cX0_record 62 = .ok (.iconst 1, 1) := by decide +kernel
theorem dX0_record_63 : decode cX0_record 63 = .ok (.iadd, 1) := by decide +kernel
theorem dX0_record_64 : decode cX0_record 64 = .ok (.bipush 8, 2) := by decide +kernel
theorem dX0_record_66 : decode cX0_record 66 = .ok (.invokestatic 25, 3) := by decide +kernel
theorem dX0_record_69 : decode cX0_record 69 = .ok (.putfield 21, 3) := by decide +kernel
theorem dX0_record_72 : decode cX0_record 72 = .ok (.aload_n 0, 1) := by decide +kernel
theorem dX0_record_73 : decode cX0_record 73 = .ok (.aload_n 0, 1) := by decide +kernel
theorem dX0_record_74 : decode cX0_record 74 = .ok (.getfield 45, 3) := by decide +kernel
theorem dX0_record_77 : decode cX0_record 77 = .ok (.iconst 1, 1) := by decide +kernel
theorem dX0_record_78 : decode cX0_record 78 = .ok (.iadd, 1) := by decide +kernel
theorem dX0_record_79 : decode cX0_record 79 = .ok (.bipush 8, 2) := by decide +kernel
theorem dX0_record_81 : decode cX0_record 81 = .ok (.invokestatic 48, 3) := by decide +kernel
theorem dX0_record_84 : decode cX0_record 84 = .ok (.putfield 45, 3) := by decide +kernel
theorem dX0_record_87 : decode cX0_record 87 = .ok (.return_, 1) := by decide +kernel
theorem dX0_restore_0 : decode cX0_restore 0 = .ok (.aload_n 0, 1) := by decide +kernel
theorem dX0_restore_1 : decode cX0_restore 1 = .ok (.getfield 45, 3) := by decide +kernel
theorem dX0_restore_4 : decode cX0_restore 4 = .ok (.ifCond .ne 4, 3) := by decide +kernel
theorem dX0_restore_7 : decode cX0_restore 7 = .ok (.return_, 1) := by decide +kernel
theorem dX0_restore_8 : decode cX0_restore 8 = .ok (.aload_n 0, 1) := by decide +kernel
theorem dX0_restore_9 : decode cX0_restore 9 = .ok (.getfield 21, 3) := by decide +kernel
theorem dX0_restore_12 : decode cX0_restore 12 = .ok (.iconst 1, 1) := by decide +kernel
theorem dX0_restore_13 : decode cX0_restore 13 = .ok (.isub, 1) := by decide +kernel
theorem dX0_restore_14 : decode cX0_restore 14 = .ok (.bipush 8, 2) := by decide +kernel
theorem dX0_restore_16 : decode cX0_restore 16 = .ok (.invokestatic 25, 3) := by decide +kernel
theorem dX0_restore_19 : decode cX0_restore 19 = .ok (.istore_n 2, 1) := by decide +kernel
theorem dX0_restore_20 : decode cX0_restore 20 = .ok (.aload_n 1, 1) := by decide +kernel
theorem dX0_restore_21 : decode cX0_restore 21 = .ok (.aload_n 0, 1) := by decide +kernel
theorem dX0_restore_22 : decode cX0_restore 22 = .ok (.getfield 9, 3) := by decide +kernel
theorem dX0_restore_25 : decode cX0_restore 25 = .ok (.iload_n 2, 1) := by decide +kernel
theorem dX0_restore_26 : decode cX0_restore 26 = .ok (.iaload, 1) := by decide +kernel
theorem dX0_restore_27 : decode cX0_restore 27 = .ok (.putfield 31, 3) := by decide +kernel
theorem dX0_restore_30 : decode cX0_restore 30 = .ok (.aload_n 0, 1) := by decide +kernel
theorem dX0_restore_31 : decode cX0_restore 31 = .ok (.getfield 15, 3) := by decide +kernel
theorem dX0_restore_34 : decode cX0_restore 34 = .ok (.iload_n 2, 1) := by decide +kernel
theorem dX0_restore_35 : decode cX0_restore 35 = .ok (.bipush 7, 2) := by decide +kernel
theorem dX0_restore_37 : decode cX0_restore 37 = .ok (.imul, 1) := by decide +kernel
theorem dX0_restore_38 : decode cX0_restore 38 = .ok (.aload_n 1, 1) := by decide +kernel
theorem dX0_restore_39 : decode cX0_restore 39 = .ok (.getfield 35, 3) := by decide +kernel
theorem dX0_restore_42 : decode cX0_restore 42 = .ok (.iconst 0, 1) := by decide +kernel
theorem dX0_restore_43 : decode cX0_restore 43 = .ok (.bipush 7, 2) := by decide +kernel
theorem dX0_restore_45 : decode cX0_restore 45 = .ok (.invokestatic 38, 3) := by decide +kernel
theorem dX0_restore_48 : decode cX0_restore 48 = .ok (.aload_n 0, 1) := by decide +kernel
theorem dX0_restore_49 : decode cX0_restore 49 = .ok (.getfield 18, 3) := by decide +kernel
theorem dX0_restore_52 : decode cX0_restore 52 = .ok (.iload_n 2, 1) := by decide +kernel
theorem dX0_restore_53 : decode cX0_restore 53 = .ok (.bipush 16, 2) := by decide +kernel
theorem dX0_restore_55 : decode cX0_restore 55 = .ok (.imul, 1) := by decide +kernel
theorem dX0_restore_56 : decode cX0_restore 56 = .ok (.bipush 11, 2) := by decide +kernel
theorem dX0_restore_58 : decode cX0_restore 58 = .ok (.imul, 1) := by decide +kernel
theorem dX0_restore_59 : decode cX0_restore 59 = .ok (.aload_n 1, 1) := by decide +kernel
theorem dX0_restore_60 : decode cX0_restore 60 = .ok (.getfield 44, 3) := by decide +kernel
theorem dX0_restore_63 : decode cX0_restore 63 = .ok (.iconst 0, 1) := by decide +kernel
theorem dX0_restore_64 : decode cX0_restore 64 = .ok (.sipush 176, 3) := by decide +kernel
theorem dX0_restore_67 : decode cX0_restore 67 = .ok (.invokestatic 38, 3) := by decide +kernel
theorem dX0_restore_70 : decode cX0_restore 70 = .ok (.aload_n 0, 1) := by decide +kernel
theorem dX0_restore_71 : decode cX0_restore 71 = .ok (.iload_n 2, 1) := by decide +kernel
theorem dX0_restore_72 : decode cX0_restore 72 = .ok (.putfield 21, 3) := by decide +kernel
theorem dX0_restore_75 : decode cX0_restore 75 = .ok (.aload_n 0, 1) := by decide +kernel
theorem dX0_restore_76 : decode cX0_restore 76 = .ok (.dup, 1) := by decide +kernel
theorem dX0_restore_77 : decode cX0_restore 77 = .ok (.getfield 45, 3) := by decide +kernel
theorem dX0_restore_80 : decode cX0_restore 80 = .ok (.iconst 1, 1) := by decide +kernel
theorem dX0_restore_81 : decode cX0_restore 81 = .ok (.isub, 1) := by decide +kernel
theorem dX0_restore_82 : decode cX0_restore 82 = .ok (.putfield 45, 3) := by decide +kernel
theorem dX0_restore_85 : decode cX0_restore 85 = .ok (.return_, 1) := by decide +kernel
theorem dX1_init_0 : decode cX1_init 0 = .ok (.aload_n 0, 1) := by decide +kernel
theorem dX1_init_1 : decode cX1_init 1 = .ok (.invokespecial 3, 3) := by decide +kernel
theorem dX1_init_4 : decode cX1_init 4 = .ok (.aload_n 0, 1) := by decide +kernel
theorem dX1_init_5 : decode cX1_init 5 = .ok (.bipush 16, 2) := by decide +kernel
theorem dX1_init_7 : decode cX1_init 7 = .ok (.newarray .int, 2) := by decide +kernel
theorem dX1_init_9 : decode cX1_init 9 = .ok (.putfield 9, 3) := by decide +kernel
theorem dX1_init_12 : decode cX1_init 12 = .ok (.aload_n 0, 1) := by decide +kernel
theorem dX1_init_13 : decode cX1_init 13 = .ok (.bipush 16, 2) := by decide +kernel
theorem dX1_init_15 : decode cX1_init 15 = .ok (.newarray .int, 2) := by decide +kernel
theorem dX1_init_17 : decode cX1_init 17 = .ok (.putfield 15, 3) := by decide +kernel
theorem dX1_init_20 : decode cX1_init 20 = .ok (.aload_n 0, 1) := by decide +kernel
theorem dX1_init_21 : decode cX1_init 21 = .ok (.bipush 16, 2) := by decide +kernel
theorem dX1_init_23 : decode cX1_init 23 = .ok (.newarray .int, 2) := by decide +kernel
theorem dX1_init_25 : decode cX1_init 25 = .ok (.putfield 18, 3) := by decide +kernel
theorem dX1_init_28 : decode cX1_init 28 = .ok (.aload_n 0, 1) := by decide +kernel
theorem dX1_init_29 : decode cX1_init 29 = .ok (.bipush 16, 2) := by decide +kernel
theorem dX1_init_31 : decode cX1_init 31 = .ok (.newarray .int, 2) := by decide +kernel
theorem dX1_init_33 : decode cX1_init 33 = .ok (.putfield 21, 3) := by decide +kernel
theorem dX1_init_36 : decode cX1_init 36 = .ok (.aload_n 0, 1) := by decide +kernel
theorem dX1_init_37 : decode cX1_init 37 = .ok (.bipush 16, 2) := by decide +kernel
theorem dX1_init_39 : decode cX1_init 39 = .ok (.newarray .boolean, 2) := by decide +kernel
theorem dX1_init_41 : decode cX1_init 41 = .ok (.putfield 24, 3) := by decide +kernel
theorem dX1_init_44 : decode cX1_init 44 = .ok (.aload_n 0, 1) := by decide +kernel
theorem dX1_init_45 : decode cX1_init 45 = .ok (.bipush 16, 2) := by decide +kernel
theorem dX1_init_47 : decode cX1_init 47 = .ok (.newarray .int, 2) := by decide +kernel
theorem dX1_init_49 : decode cX1_init 49 = .ok (.putfield 28, 3) := by decide +kernel
theorem dX1_init_52 : decode cX1_init 52 = .ok (.aload_n 0, 1) := by decide +kernel
theorem dX1_init_53 : decode cX1_init 53 = .ok (.bipush 16, 2) := by decide +kernel
theorem dX1_init_55 : decode cX1_init 55 = .ok (.newarray .int, 2) := by decide +kernel
theorem dX1_init_57 : decode cX1_init 57 = .ok (.putfield 31, 3) := by decide +kernel
theorem dX1_init_60 : decode cX1_init 60 = .ok (.aload_n 0, 1) := by decide +kernel
theorem dX1_init_61 : decode cX1_init 61 = .ok (.bipush 16, 2) := by decide +kernel
theorem dX1_init_63 : decode cX1_init 63 = .ok (.newarray .int, 2) := by decide +kernel
theorem dX1_init_65 : decode cX1_init 65 = .ok (.putfield 34, 3) := by decide +kernel
theorem dX1_init_68 : decode cX1_init 68 = .ok (.aload_n 0, 1) := by decide +kernel
theorem dX1_init_69 : decode cX1_init 69 = .ok (.aload_n 1, 1) := by decide +kernel
theorem dX1_init_70 : decode cX1_init 70 = .ok (.putfield 37, 3) := by decide +kernel
theorem dX1_init_73 : decode cX1_init 73 = .ok (.aload_n 0, 1) := by decide +kernel
theorem dX1_init_74 : decode cX1_init 74 = .ok (.aload_n 2, 1) := by decide +kernel
theorem dX1_init_75 : decode cX1_init 75 = .ok (.putfield 41, 3) := by decide +kernel
theorem dX1_init_78 : decode cX1_init 78 = .ok (.return_, 1) := by decide +kernel
theorem dX1_breakUp_0 : decode cX1_breakUp 0 = .ok (.aload_n 0, 1) := by decide +kernel
theorem dX1_breakUp_1 : decode cX1_breakUp 1 = .ok (.iload_n 1, 1) := by decide +kernel
theorem dX1_breakUp_2 : decode cX1_breakUp 2 = .ok (.putfield 45, 3) := by decide +kernel
theorem dX1_breakUp_5 : decode cX1_breakUp 5 = .ok (.aload_n 0, 1) := by decide +kernel
theorem dX1_breakUp_6 : decode cX1_breakUp 6 = .ok (.iconst 0, 1) := by decide +kernel
theorem dX1_breakUp_7 : decode cX1_breakUp 7 = .ok (.putfield 49, 3) := by decide +kernel
theorem dX1_breakUp_10 : decode cX1_breakUp 10 = .ok (.aload_n 0, 1) := by decide +kernel
theorem dX1_breakUp_11 : decode cX1_breakUp 11 = .ok (.getfield 37, 3) := by decide +kernel
theorem dX1_breakUp_14 : decode cX1_breakUp 14 = .ok (.iconst 1, 1) := by decide +kernel
theorem dX1_breakUp_15 : decode cX1_breakUp 15 = .ok (.invokevirtual 52, 3) := by decide +kernel
theorem dX1_breakUp_18 : decode cX1_breakUp 18 = .ok (.istore_n 2, 1) := by decide +kernel
theorem dX1_breakUp_19 : decode cX1_breakUp 19 = .ok (.aload_n 0, 1) := by decide +kernel
theorem dX1_breakUp_20 : decode cX1_breakUp 20 = .ok (.getfield 37, 3) := by decide +kernel
theorem dX1_breakUp_23 : decode cX1_breakUp 23 = .ok (.iconst 3, 1) := by decide +kernel
theorem dX1_breakUp_24 : decode cX1_breakUp 24 = .ok (.invokevirtual 52, 3) := by decide +kernel
theorem dX1_breakUp_27 : decode cX1_breakUp 27 = .ok (.iconst 1, 1) := by decide +kernel
theorem dX1_breakUp_28 : decode cX1_breakUp 28 = .ok (.if_icmp .ne 7, 3) := by decide +kernel
theorem dX1_breakUp_31 : decode cX1_breakUp 31 = .ok (.iconst 1, 1) := by decide +kernel
theorem dX1_breakUp_32 : decode cX1_breakUp 32 = .ok (.goto 4, 3) := by decide +kernel
theorem dX1_breakUp_35 : decode cX1_breakUp 35 = .ok (.iconst 0, 1) := by decide +kernel
theorem dX1_breakUp_36 : decode cX1_breakUp 36 = .ok (.istore_n 3, 1) := by decide +kernel
theorem dX1_breakUp_37 : decode cX1_breakUp 37 = .ok (.iconst 0, 1) := by decide +kernel
theorem dX1_breakUp_38 : decode cX1_breakUp 38 = .ok (.istore 4, 2) := by decide +kernel
theorem dX1_breakUp_40 : decode cX1_breakUp 40 = .ok (.iconst 0, 1) := by decide +kernel
theorem dX1_breakUp_41 : decode cX1_breakUp 41 = .ok (.istore 5, 2) := by decide +kernel
theorem dX1_breakUp_43 : decode cX1_breakUp 43 = .ok (.iload 5, 2) := by decide +kernel
theorem dX1_breakUp_45 : decode cX1_breakUp 45 = .ok (.aload_n 0, 1) := by decide +kernel
theorem dX1_breakUp_46 : decode cX1_breakUp 46 = .ok (.getfield 41, 3) := by decide +kernel
theorem dX1_breakUp_49 : decode cX1_breakUp 49 = .ok (.getfield 57, 3) := by decide +kernel
theorem dX1_breakUp_52 : decode cX1_breakUp 52 = .ok (.if_icmp .ge 91, 3) := by decide +kernel
theorem dX1_breakUp_55 : decode cX1_breakUp 55 = .ok (.iload 4, 2) := by decide +kernel
theorem dX1_breakUp_57 : decode cX1_breakUp 57 = .ok (.iload_n 2, 1) := by decide +kernel
theorem dX1_breakUp_58 : decode cX1_breakUp 58 = .ok (.iadd, 1) := by decide +kernel
theorem dX1_breakUp_59 : decode cX1_breakUp 59 = .ok (.aload_n 0, 1) := by decide +kernel
theorem dX1_breakUp_60 : decode cX1_breakUp 60 = .ok (.getfield 41, 3) := by decide +kernel
theorem dX1_breakUp_63 : decode cX1_breakUp 63 = .ok (.iload 5, 2) := by decide +kernel
theorem dX1_breakUp_65 : decode cX1_breakUp 65 = .ok (.invokevirtual 62, 3) := by decide +kernel
theorem dX1_breakUp_68 : decode cX1_breakUp 68 = .ok (.iadd, 1) := by decide +kernel
theorem dX1_breakUp_69 : decode cX1_breakUp 69 = .ok (.istore 6, 2) := by decide +kernel
theorem dX1_breakUp_71 : decode cX1_breakUp 71 = .ok (.aload_n 0, 1) := by decide +kernel
theorem dX1_breakUp_72 : decode cX1_breakUp 72 = .ok (.getfield 49, 3) := by decide +kernel
theorem dX1_breakUp_75 : decode cX1_breakUp 75 = .ok (.ifCond .eq 13, 3) := by decide +kernel
theorem dX1_breakUp_78 : decode cX1_breakUp 78 = .ok (.iload_n 3, 1) := by decide +kernel
theorem dX1_breakUp_79 : decode cX1_breakUp 79 = .ok (.ifCond .eq 41, 3) := by decide +kernel
theorem dX1_breakUp_82 : decode cX1_breakUp 82 = .ok (.iload 6, 2) := by decide +kernel
theorem dX1_breakUp_84 : decode cX1_breakUp 84 = .ok (.iload_n 1, 1) := by decide +kernel
theorem dX1_breakUp_85 : decode cX1_breakUp 85 = .ok (.if_icmp .le 35, 3) := by decide +kernel
theorem dX1_breakUp_88 : decode cX1_breakUp 88 = .ok (.aload_n 0, 1) := by decide +kernel
theorem dX1_breakUp_89 : decode cX1_breakUp 89 = .ok (.getfield 9, 3) := by decide +kernel
theorem dX1_breakUp_92 : decode cX1_breakUp 92 = .ok (.aload_n 0, 1) := by decide +kernel
theorem dX1_breakUp_93 : decode cX1_breakUp 93 = .ok (.getfield 49, 3) := by decide +kernel
theorem dX1_breakUp_96 : decode cX1_breakUp 96 = .ok (.iload 5, 2) := by decide +kernel
theorem dX1_breakUp_98 : decode cX1_breakUp 98 = .ok (.iastore, 1) := by decide +kernel
theorem dX1_breakUp_99 : decode cX1_breakUp 99 = .ok (.aload_n 0, 1) := by decide +kernel
theorem dX1_breakUp_100 : decode cX1_breakUp 100 = .ok (.dup, 1) := by decide +kernel
theorem dX1_breakUp_101 : decode cX1_breakUp 101 = .ok (.getfield 49, 3) := by decide +kernel
theorem dX1_breakUp_104 : decode cX1_breakUp 104 = .ok (.iconst 1, 1) := by decide +kernel
theorem dX1_breakUp_105 : decode cX1_breakUp 105 = .ok (.iadd, 1) := by decide +kernel
theorem dX1_breakUp_106 : decode cX1_breakUp 106 = .ok (.putfield 49, 3) := by decide +kernel
theorem dX1_breakUp_109 : decode cX1_breakUp 109 = .ok (.aload_n 0, 1) := by decide +kernel
theorem dX1_breakUp_110 : decode cX1_breakUp 110 = .ok (.getfield 41, 3) := by decide +kernel
theorem dX1_breakUp_113 : decode cX1_breakUp 113 = .ok (.iload 5, 2) := by decide +kernel
theorem dX1_breakUp_115 : decode cX1_breakUp 115 = .ok (.invokevirtual 62, 3) := by decide +kernel
theorem dX1_breakUp_118 : decode cX1_breakUp 118 = .ok (.istore 6, 2) := by decide +kernel
theorem dX1_breakUp_120 : decode cX1_breakUp 120 = .ok (.iload 6, 2) := by decide +kernel
theorem dX1_breakUp_122 : decode cX1_breakUp 122 = .ok (.istore 4, 2) := by decide +kernel
theorem dX1_breakUp_124 : decode cX1_breakUp 124 = .ok (.aload_n 0, 1) := by decide +kernel
theorem dX1_breakUp_125 : decode cX1_breakUp 125 = .ok (.getfield 15, 3) := by decide +kernel
theorem dX1_breakUp_128 : decode cX1_breakUp 128 = .ok (.aload_n 0, 1) := by decide +kernel
theorem dX1_breakUp_129 : decode cX1_breakUp 129 = .ok (.getfield 49, 3) := by decide +kernel
theorem dX1_breakUp_132 : decode cX1_breakUp 132 = .ok (.iconst 1, 1) := by decide +kernel
theorem dX1_breakUp_133 : decode cX1_breakUp 133 = .ok (.isub, 1) := by decide +kernel
theorem dX1_breakUp_134 : decode cX1_breakUp 134 = .ok (.iload 4, 2) := by decide +kernel
theorem dX1_breakUp_136 : decode cX1_breakUp 136 = .ok (.iastore, 1) := by decide +kernel
theorem dX1_breakUp_137 : decode cX1_breakUp 137 = .ok (.iinc 5 1, 3) := by decide +kernel
theorem dX1_breakUp_140 : decode cX1_breakUp 140 = .ok (.goto (-97), 3) := by decide +kernel
theorem dX1_breakUp_143 : decode cX1_breakUp 143 = .ok (.return_, 1) := by decide +kernel
theorem dX1_end_0 : decode cX1_end 0 = .ok (.iload_n 1, 1) := by decide +kernel
theorem dX1_end_1 : decode cX1_end 1 = .ok (.ifCond .lt 24, 3) := by decide +kernel
theorem dX1_end_4 : decode cX1_end 4 = .ok (.iload_n 1, 1) := by decide +kernel
theorem dX1_end_5 : decode cX1_end 5 = .ok (.iconst 1, 1) := by decide +kernel
theorem dX1_end_6 : decode cX1_end 6 = .ok (.iadd, 1) := by decide +kernel
theorem dX1_end_7 : decode cX1_end 7 = .ok (.aload_n 0, 1) := by decide +kernel
theorem dX1_end_8 : decode cX1_end 8 = .ok (.getfield 49, 3) := by decide +kernel
theorem dX1_end_11 : decode cX1_end 11 = .ok (.if_icmp .ge 14, 3) := by decide +kernel
theorem dX1_end_14 : decode cX1_end 14 = .ok (.aload_n 0, 1) := by decide +kernel
theorem dX1_end_15 : decode cX1_end 15 = .ok (.getfield 9, 3) := by decide +kernel
theorem dX1_end_18 : decode cX1_end 18 = .ok (.iload_n 1, 1) := by decide +kernel
theorem dX1_end_19 : decode cX1_end 19 = .ok (.iconst 1, 1) := by decide +kernel
theorem dX1_end_20 : decode cX1_end 20 = .ok (.iadd, 1) := by decide +kernel
theorem dX1_end_21 : decode cX1_end 21 = .ok (.iaload, 1) := by decide +kernel
theorem dX1_end_22 : decode cX1_end 22 = .ok (.goto 10, 3) := by decide +kernel
theorem dX1_end_25 : decode cX1_end 25 = .ok (.aload_n 0, 1) := by decide +kernel
theorem dX1_end_26 : decode cX1_end 26 = .ok (.getfield 41, 3) := by decide +kernel
theorem dX1_end_29 : decode cX1_end 29 = .ok (.getfield 57, 3) := by decide +kernel
theorem dX1_end_32 : decode cX1_end 32 = .ok (.ireturn, 1) := by decide +kernel
theorem dX1_lineOf_0 : decode cX1_lineOf 0 = .ok (.iconst 0, 1) := by decide +kernel
theorem dX1_lineOf_1 : decode cX1_lineOf 1 = .ok (.istore_n 2, 1) := by decide +kernel
theorem dX1_lineOf_2 : decode cX1_lineOf 2 = .ok (.iload_n 2, 1) := by decide +kernel
theorem dX1_lineOf_3 : decode cX1_lineOf 3 = .ok (.iconst 1, 1) := by decide +kernel
theorem dX1_lineOf_4 : decode cX1_lineOf 4 = .ok (.iadd, 1) := by decide +kernel
theorem dX1_lineOf_5 : decode cX1_lineOf 5 = .ok (.aload_n 0, 1) := by decide +kernel
theorem dX1_lineOf_6 : decode cX1_lineOf 6 = .ok (.getfield 49, 3) := by decide +kernel
theorem dX1_lineOf_9 : decode cX1_lineOf 9 = .ok (.if_icmp .ge 21, 3) := by decide +kernel
theorem dX1_lineOf_12 : decode cX1_lineOf 12 = .ok (.aload_n 0, 1) := by decide +kernel
theorem dX1_lineOf_13 : decode cX1_lineOf 13 = .ok (.getfield 9, 3) := by decide +kernel
theorem dX1_lineOf_16 : decode cX1_lineOf 16 = .ok (.iload_n 2, 1) := by decide +kernel
theorem dX1_lineOf_17 : decode cX1_lineOf 17 = .ok (.iconst 1, 1) := by decide +kernel
theorem dX1_lineOf_18 : decode cX1_lineOf 18 = .ok (.iadd, 1) := by decide +kernel
theorem dX1_lineOf_19 : decode cX1_lineOf 19 = .ok (.iaload, 1) := by decide +kernel
theorem dX1_lineOf_20 : decode cX1_lineOf 20 = .ok (.iload_n 1, 1) := by decide +kernel
theorem dX1_lineOf_21 : decode cX1_lineOf 21 = .ok (.if_icmp .gt 9, 3) := by decide +kernel
theorem dX1_lineOf_24 : decode cX1_lineOf 24 = .ok (.iinc 2 1, 3) := by decide +kernel
theorem dX1_lineOf_27 : decode cX1_lineOf 27 = .ok (.goto (-25), 3) := by decide +kernel
theorem dX1_lineOf_30 : decode cX1_lineOf 30 = .ok (.iload_n 2, 1) := by decide +kernel
theorem dX1_lineOf_31 : decode cX1_lineOf 31 = .ok (.ireturn, 1) := by decide +kernel
theorem dX1_share_0 : decode cX1_share 0 = .ok (.iconst 0, 1) := by decide +kernel
theorem dX1_share_1 : decode cX1_share 1 = .ok (.istore_n 1, 1) := by decide +kernel
theorem dX1_share_2 : decode cX1_share 2 = .ok (.iload_n 1, 1) := by decide +kernel
theorem dX1_share_3 : decode cX1_share 3 = .ok (.aload_n 0, 1) := by decide +kernel
theorem dX1_share_4 : decode cX1_share 4 = .ok (.getfield 49, 3) := by decide +kernel
theorem dX1_share_7 : decode cX1_share 7 = .ok (.if_icmp .ge 14, 3) := by decide +kernel
theorem dX1_share_10 : decode cX1_share 10 = .ok (.aload_n 0, 1) := by decide +kernel
theorem dX1_share_11 : decode cX1_share 11 = .ok (.iload_n 1, 1) := by decide +kernel
theorem dX1_share_12 : decode cX1_share 12 = .ok (.invokevirtual 65, 3) := by decide +kernel
theorem dX1_share_15 : decode cX1_share 15 = .ok (.iinc 1 1, 3) := by decide +kernel
theorem dX1_share_18 : decode cX1_share 18 = .ok (.goto (-16), 3) := by decide +kernel
theorem dX1_share_21 : decode cX1_share 21 = .ok (.return_, 1) := by decide +kernel
theorem dX1_shareLine_0 : decode cX1_shareLine 0 = .ok (.aload_n 0, 1) := by decide +kernel
theorem dX1_shareLine_1 : decode cX1_shareLine 1 = .ok (.getfield 9, 3) := by decide +kernel
theorem dX1_shareLine_4 : decode cX1_shareLine 4 = .ok (.iload_n 1, 1) := by decide +kernel
theorem dX1_shareLine_5 : decode cX1_shareLine 5 = .ok (.iaload, 1) := by decide +kernel
theorem dX1_shareLine_6 : decode cX1_shareLine 6 = .ok (.istore_n 2, 1) := by decide +kernel
theorem dX1_shareLine_7 : decode cX1_shareLine 7 = .ok (.aload_n 0, 1) := by decide +kernel
theorem dX1_shareLine_8 : decode cX1_shareLine 8 = .ok (.iload_n 1, 1) := by decide +kernel
theorem dX1_shareLine_9 : decode cX1_shareLine 9 = .ok (.invokevirtual 69, 3) := by decide +kernel
theorem dX1_shareLine_12 : decode cX1_shareLine 12 = .ok (.istore_n 3, 1) := by decide +kernel
theorem dX1_shareLine_13 : decode cX1_shareLine 13 = .ok (.aload_n 0, 1) := by decide +kernel
theorem dX1_shareLine_14 : decode cX1_shareLine 14 = .ok (.getfield 45, 3) := by decide +kernel
theorem dX1_shareLine_17 : decode cX1_shareLine 17 = .ok (.aload_n 0, 1) := by decide +kernel
theorem dX1_shareLine_18 : decode cX1_shareLine 18 = .ok (.getfield 37, 3) := by decide +kernel
theorem dX1_shareLine_21 : decode cX1_shareLine 21 = .ok (.iconst 1, 1) := by decide +kernel
theorem dX1_shareLine_22 : decode cX1_shareLine 22 = .ok (.invokevirtual 52, 3) := by decide +kernel
theorem dX1_shareLine_25 : decode cX1_shareLine 25 = .ok (.iload_n 3, 1) := by decide +kernel
theorem dX1_shareLine_26 : decode cX1_shareLine 26 = .ok (.iload_n 2, 1) := by decide +kernel
theorem dX1_shareLine_27 : decode cX1_shareLine 27 = .ok (.isub, 1) := by decide +kernel
theorem dX1_shareLine_28 : decode cX1_shareLine 28 = .ok (.iconst 1, 1) := by decide +kernel
theorem dX1_shareLine_29 : decode cX1_shareLine 29 = .ok (.isub, 1) := by decide +kernel
theorem dX1_shareLine_30 : decode cX1_shareLine 30 = .ok (.imul, 1) := by decide +kernel
theorem dX1_shareLine_31 : decode cX1_shareLine 31 = .ok (.isub, 1) := by decide +kernel
theorem dX1_shareLine_32 : decode cX1_shareLine 32 = .ok (.istore 4, 2) := by decide +kernel
theorem dX1_shareLine_34 : decode cX1_shareLine 34 = .ok (.iconst 0, 1) := by decide +kernel
theorem dX1_shareLine_35 : decode cX1_shareLine 35 = .ok (.istore 5, 2) := by decide +kernel
theorem dX1_shareLine_37 : decode cX1_shareLine 37 = .ok (.iload_n 2, 1) := by decide +kernel
theorem dX1_shareLine_38 : decode cX1_shareLine 38 = .ok (.istore 6, 2) := by decide +kernel
theorem dX1_shareLine_40 : decode cX1_shareLine 40 = .ok (.iload 6, 2) := by decide +kernel
theorem dX1_shareLine_42 : decode cX1_shareLine 42 = .ok (.iload_n 3, 1) := by decide +kernel
theorem dX1_shareLine_43 : decode cX1_shareLine 43 = .ok (.if_icmp .ge 41, 3) := by decide +kernel
theorem dX1_shareLine_46 : decode cX1_shareLine 46 = .ok (.iload 4, 2) := by decide +kernel
theorem dX1_shareLine_48 : decode cX1_shareLine 48 = .ok (.iconst 2, 1) := by decide +kernel
theorem dX1_shareLine_49 : decode cX1_shareLine 49 = .ok (.aload_n 0, 1) := by decide +kernel
theorem dX1_shareLine_50 : decode cX1_shareLine 50 = .ok (.getfield 41, 3) := by decide +kernel
theorem dX1_shareLine_53 : decode cX1_shareLine 53 = .ok (.getfield 72, 3) := by decide +kernel
theorem dX1_shareLine_56 : decode cX1_shareLine 56 = .ok (.iload 6, 2) := by decide +kernel
theorem dX1_shareLine_58 : decode cX1_shareLine 58 = .ok (.iaload, 1) := by decide +kernel
theorem dX1_shareLine_59 : decode cX1_shareLine 59 = .ok (.imul, 1) := by decide +kernel
theorem dX1_shareLine_60 : decode cX1_shareLine 60 = .ok (.isub, 1) := by decide +kernel
theorem dX1_shareLine_61 : decode cX1_shareLine 61 = .ok (.istore 4, 2) := by decide +kernel
theorem dX1_shareLine_63 : decode cX1_shareLine 63 = .ok (.iload 5, 2) := by decide +kernel
theorem dX1_shareLine_65 : decode cX1_shareLine 65 = .ok (.aload_n 0, 1) := by decide +kernel
theorem dX1_shareLine_66 : decode cX1_shareLine 66 = .ok (.getfield 41, 3) := by decide +kernel
theorem dX1_shareLine_69 : decode cX1_shareLine 69 = .ok (.getfield 75, 3) := by decide +kernel
theorem dX1_shareLine_72 : decode cX1_shareLine 72 = .ok (.iload 6, 2) := by decide +kernel
theorem dX1_shareLine_74 : decode cX1_shareLine 74 = .ok (.iaload, 1) := by decide +kernel
theorem dX1_shareLine_75 : decode cX1_shareLine 75 = .ok (.iadd, 1) := by decide +kernel
theorem dX1_shareLine_76 : decode cX1_shareLine 76 = .ok (.istore 5, 2) := by decide +kernel
theorem dX1_shareLine_78 : decode cX1_shareLine 78 = .ok (.iinc 6 1, 3) := by decide +kernel
theorem dX1_shareLine_81 : decode cX1_shareLine 81 = .ok (.goto (-41), 3) := by decide +kernel
theorem dX1_shareLine_84 : decode cX1_shareLine 84 = .ok (.iload 5, 2) := by decide +kernel
theorem dX1_shareLine_86 : decode cX1_shareLine 86 = .ok (.iload 4, 2) := by decide +kernel
theorem dX1_shareLine_88 : decode cX1_shareLine 88 = .ok (.if_icmp .ge 7, 3) := by decide +kernel
theorem dX1_shareLine_91 : decode cX1_shareLine 91 = .ok (.iconst 1, 1) := by decide +kernel
theorem dX1_shareLine_92 : decode cX1_shareLine 92 = .ok (.goto 4, 3) := by decide +kernel
theorem dX1_shareLine_95 : decode cX1_shareLine 95 = .ok (.iconst 0, 1) := by decide +kernel
theorem dX1_shareLine_96 : decode cX1_shareLine 96 = .ok (.istore 6, 2) := by decide +kernel
theorem dX1_shareLine_98 : decode cX1_shareLine 98 = .ok (.aload_n 0, 1) := by decide +kernel
theorem dX1_shareLine_99 : decode cX1_shareLine 99 = .ok (.getfield 24, 3) := by decide +kernel
theorem dX1_shareLine_102 : decode cX1_shareLine 102 = .ok (.iload_n 1, 1) := by decide +kernel
theorem dX1_shareLine_103 : decode cX1_shareLine 103 = .ok (.iload 6, 2) := by decide +kernel
theorem dX1_shareLine_105 : decode cX1_shareLine 105 = .ok (.bastore, 1) := by decide +kernel
theorem dX1_shareLine_106 : decode cX1_shareLine 106 = .ok (.aload_n 0, 1) := by decide +kernel
theorem dX1_shareLine_107 : decode cX1_shareLine 107 = .ok (.iload_n 2, 1) := by decide +kernel
theorem dX1_shareLine_108 : decode cX1_shareLine 108 = .ok (.iload_n 3, 1) := by decide +kernel
theorem dX1_shareLine_109 : decode cX1_shareLine 109 = .ok (.iload 6, 2) := by decide +kernel
theorem dX1_shareLine_111 : decode cX1_shareLine 111 = .ok (.invokevirtual 78, 3) := by decide +kernel
theorem dX1_shareLine_114 : decode cX1_shareLine 114 = .ok (.aload_n 0, 1) := by decide +kernel
theorem dX1_shareLine_115 : decode cX1_shareLine 115 = .ok (.getfield 21, 3) := by decide +kernel
theorem dX1_shareLine_118 : decode cX1_shareLine 118 = .ok (.iload_n 1, 1) := by decide +kernel
theorem dX1_shareLine_119 : decode cX1_shareLine 119 = .ok (.iconst 0, 1) := by decide +kernel
theorem dX1_shareLine_120 : decode cX1_shareLine 120 = .ok (.iastore, 1) := by decide +kernel
theorem dX1_shareLine_121 : decode cX1_shareLine 121 = .ok (.iconst 1, 1) := by decide +kernel
theorem dX1_shareLine_122 : decode cX1_shareLine 122 = .ok (.istore 7, 2) := by decide +kernel
theorem dX1_shareLine_124 : decode cX1_shareLine 124 = .ok (.iload 7, 2) := by decide +kernel
theorem dX1_shareLine_126 : decode cX1_shareLine 126 = .ok (.bipush 16, 2) := by decide +kernel
theorem dX1_shareLine_128 : decode cX1_shareLine 128 = .ok (.if_icmp .gt 44, 3) := by decide +kernel
theorem dX1_shareLine_131 : decode cX1_shareLine 131 = .ok (.aload_n 0, 1) := by decide +kernel
theorem dX1_shareLine_132 : decode cX1_shareLine 132 = .ok (.iload_n 2, 1) := by decide +kernel
theorem dX1_shareLine_133 : decode cX1_shareLine 133 = .ok (.iload_n 3, 1) := by decide +kernel
theorem dX1_shareLine_134 : decode cX1_shareLine 134 = .ok (.invokevirtual 82, 3) := by decide +kernel
theorem dX1_shareLine_137 : decode cX1_shareLine 137 = .ok (.ifCond .eq 35, 3) := by decide +kernel
theorem dX1_shareLine_140 : decode cX1_shareLine 140 = .ok (.aload_n 0, 1) := by decide +kernel
theorem dX1_shareLine_141 : decode cX1_shareLine 141 = .ok (.iload_n 2, 1) := by decide +kernel
theorem dX1_shareLine_142 : decode cX1_shareLine 142 = .ok (.iload_n 3, 1) := by decide +kernel
theorem dX1_shareLine_143 : decode cX1_shareLine 143 = .ok (.iload 4, 2) := by decide +kernel
theorem dX1_shareLine_145 : decode cX1_shareLine 145 = .ok (.iload 6, 2) := by decide +kernel
theorem dX1_shareLine_147 : decode cX1_shareLine 147 = .ok (.invokevirtual 86, 3) := by decide +kernel
theorem dX1_shareLine_150 : decode cX1_shareLine 150 = .ok (.aload_n 0, 1) := by decide +kernel
theorem dX1_shareLine_151 : decode cX1_shareLine 151 = .ok (.iload_n 2, 1) := by decide +kernel
theorem dX1_shareLine_152 : decode cX1_shareLine 152 = .ok (.iload_n 3, 1) := by decide +kernel
theorem dX1_shareLine_153 : decode cX1_shareLine 153 = .ok (.iload 7, 2) := by decide +kernel
theorem dX1_shareLine_155 : decode cX1_shareLine 155 = .ok (.invokevirtual 90, 3) := by decide +kernel
theorem dX1_shareLine_158 : decode cX1_shareLine 158 = .ok (.aload_n 0, 1) := by decide +kernel
theorem dX1_shareLine_159 : decode cX1_shareLine 159 = .ok (.getfield 21, 3) := by decide +kernel
theorem dX1_shareLine_162 : decode cX1_shareLine 162 = .ok (.iload_n 1, 1) := by decide +kernel
theorem dX1_shareLine_163 : decode cX1_shareLine 163 = .ok (.iload 7, 2) := by decide +kernel
theorem dX1_shareLine_165 : decode cX1_shareLine 165 = .ok (.iastore, 1) := by decide +kernel
theorem dX1_shareLine_166 : decode cX1_shareLine 166 = .ok (.iinc 7 1, 3) := by decide +kernel
theorem dX1_shareLine_169 : decode cX1_shareLine 169 = .ok (.goto (-45), 3) := by decide +kernel
theorem dX1_shareLine_172 : decode cX1_shareLine 172 = .ok (.aload_n 0, 1) := by decide +kernel
theorem dX1_shareLine_173 : decode cX1_shareLine 173 = .ok (.getfield 18, 3) := by decide +kernel
theorem dX1_shareLine_176 : decode cX1_shareLine 176 = .ok (.iload_n 1, 1) := by decide +kernel
theorem dX1_shareLine_177 : decode cX1_shareLine 177 = .ok (.iload 4, 2) := by decide +kernel
theorem dX1_shareLine_179 : decode cX1_shareLine 179 = .ok (.iastore, 1) := by decide +kernel
theorem dX1_shareLine_180 : decode cX1_shareLine 180 = .ok (.iload_n 2, 1) := by decide +kernel
theorem dX1_shareLine_181 : decode cX1_shareLine 181 = .ok (.istore 7, 2) := by decide +kernel
theorem dX1_shareLine_183 : decode cX1_shareLine 183 = .ok (.iload 7, 2) := by decide +kernel
theorem dX1_shareLine_185 : decode cX1_shareLine 185 = .ok (.iload_n 3, 1) := by decide +kernel
theorem dX1_shareLine_186 : decode cX1_shareLine 186 = .ok (.if_icmp .ge 25, 3) := by decide +kernel
theorem dX1_shareLine_189 : decode cX1_shareLine 189 = .ok (.aload_n 0, 1) := by decide +kernel
theorem dX1_shareLine_190 : decode cX1_shareLine 190 = .ok (.getfield 18, 3) := by decide +kernel
theorem dX1_shareLine_193 : decode cX1_shareLine 193 = .ok (.iload_n 1, 1) := by decide +kernel
theorem dX1_shareLine_194 : decode cX1_shareLine 194 = .ok (.dup2, 1) := by decide +kernel
theorem dX1_shareLine_195 : decode cX1_shareLine 195 = .ok (.iaload, 1) := by decide +kernel
theorem dX1_shareLine_196 : decode cX1_shareLine 196 = .ok (.aload_n 0, 1) := by decide +kernel
theorem dX1_shareLine_197 : decode cX1_shareLine 197 = .ok (.getfield 28, 3) := by decide +kernel
theorem dX1_shareLine_200 : decode cX1_shareLine 200 = .ok (.iload 7, 2) := by decide +kernel
theorem dX1_shareLine_202 : decode cX1_shareLine 202 = .ok (.iaload, 1) := by decide +kernel
theorem dX1_shareLine_203 : decode cX1_shareLine 203 = .ok (.isub, 1) := by decide +kernel
theorem dX1_shareLine_204 : decode cX1_shareLine 204 = .ok (.iastore, 1) := by decide +kernel
theorem dX1_shareLine_205 : decode cX1_shareLine 205 = .ok (.iinc 7 1, 3) := by decide +kernel
theorem dX1_shareLine_208 : decode cX1_shareLine 208 = .ok (.goto (-25), 3) := by decide +kernel
theorem dX1_shareLine_211 : decode cX1_shareLine 211 = .ok (.return_, 1) := by decide +kernel
theorem dX1_freezeStiff_0 : decode cX1_freezeStiff 0 = .ok (.iload_n 1, 1) := by decide +kernel
theorem dX1_freezeStiff_1 : decode cX1_freezeStiff 1 = .ok (.istore 4, 2) := by decide +kernel
theorem dX1_freezeStiff_3 : decode cX1_freezeStiff 3 = .ok (.iload 4, 2) := by decide +kernel
theorem dX1_freezeStiff_5 : decode cX1_freezeStiff 5 = .ok (.iload_n 2, 1) := by decide +kernel
theorem dX1_freezeStiff_6 : decode cX1_freezeStiff 6 = .ok (.if_icmp .ge 51, 3) := by decide +kernel
theorem dX1_freezeStiff_9 : decode cX1_freezeStiff 9 = .ok (.aload_n 0, 1) := by decide +kernel
theorem dX1_freezeStiff_10 : decode cX1_freezeStiff 10 = .ok (.getfield 28, 3) := by decide +kernel
theorem dX1_freezeStiff_13 : decode cX1_freezeStiff 13 = .ok (.iload 4, 2) := by decide +kernel
theorem dX1_freezeStiff_15 : decode cX1_freezeStiff 15 = .ok (.aload_n 0, 1) := by decide +kernel
theorem dX1_freezeStiff_16 : decode cX1_freezeStiff 16 = .ok (.getfield 41, 3) := by decide +kernel
theorem dX1_freezeStiff_19 : decode cX1_freezeStiff 19 = .ok (.getfield 75, 3) := by decide +kernel
theorem dX1_freezeStiff_22 : decode cX1_freezeStiff 22 = .ok (.iload 4, 2) := by decide +kernel
theorem dX1_freezeStiff_24 : decode cX1_freezeStiff 24 = .ok (.iaload, 1) := by decide +kernel
theorem dX1_freezeStiff_25 : decode cX1_freezeStiff 25 = .ok (.iastore, 1) := by decide +kernel
theorem dX1_freezeStiff_26 : decode cX1_freezeStiff 26 = .ok (.aload_n 0, 1) := by decide +kernel
theorem dX1_freezeStiff_27 : decode cX1_freezeStiff 27 = .ok (.getfield 31, 3) := by decide +kernel
theorem dX1_freezeStiff_30 : decode cX1_freezeStiff 30 = .ok (.iload 4, 2) := by decide +kernel
theorem dX1_freezeStiff_32 : decode cX1_freezeStiff 32 = .ok (.aload_n 0, 1) := by decide +kernel
theorem dX1_freezeStiff_33 : decode cX1_freezeStiff 33 = .ok (.getfield 41, 3) := by decide +kernel
theorem dX1_freezeStiff_36 : decode cX1_freezeStiff 36 = .ok (.iload 4, 2) := by decide +kernel
theorem dX1_freezeStiff_38 : decode cX1_freezeStiff 38 = .ok (.iload_n 3, 1) := by decide +kernel
theorem dX1_freezeStiff_39 : decode cX1_freezeStiff 39 = .ok (.invokevirtual 94, 3) := by decide +kernel
theorem dX1_freezeStiff_42 : decode cX1_freezeStiff 42 = .ok (.ifCond .eq 7, 3) := by decide +kernel
theorem dX1_freezeStiff_45 : decode cX1_freezeStiff 45 = .ok (.iconst 0, 1) := by decide +kernel
theorem dX1_freezeStiff_46 : decode cX1_freezeStiff 46 = .ok (.goto 4, 3) := by decide +kernel
theorem dX1_freezeStiff_49 : decode cX1_freezeStiff 49 = .ok (.iconst (-1), 1) := by decide +kernel
theorem dX1_freezeStiff_50 : decode cX1_freezeStiff 50 = .ok (.iastore, 1) := by decide +kernel
theorem dX1_freezeStiff_51 : decode cX1_freezeStiff 51 = .ok (.iinc 4 1, 3) := by decide +kernel
theorem dX1_freezeStiff_54 : decode cX1_freezeStiff 54 = .ok (.goto (-51), 3) := by decide +kernel
theorem dX1_freezeStiff_57 : decode cX1_freezeStiff 57 = .ok (.return_, 1) := by decide +kernel
theorem dX1_hasOpen_0 : decode cX1_hasOpen 0 = .ok (.iload_n 1, 1) := by decide +kernel
theorem dX1_hasOpen_1 : decode cX1_hasOpen 1 = .ok (.istore_n 3, 1) := by decide +kernel
theorem dX1_hasOpen_2 : decode cX1_hasOpen 2 = .ok (.iload_n 3, 1) := by decide +kernel
theorem dX1_hasOpen_3 : decode cX1_hasOpen 3 = .ok (.iload_n 2, 1) := by decide +kernel
theorem dX1_hasOpen_4 : decode cX1_hasOpen 4 = .ok (.if_icmp .ge 21, 3) := by decide +kernel
theorem dX1_hasOpen_7 : decode cX1_hasOpen 7 = .ok (.aload_n 0, 1) := by decide +kernel
theorem dX1_hasOpen_8 : decode cX1_hasOpen 8 = .ok (.getfield 31, 3) := by decide +kernel
theorem dX1_hasOpen_11 : decode cX1_hasOpen 11 = .ok (.iload_n 3, 1) := by decide +kernel
theorem dX1_hasOpen_12 : decode cX1_hasOpen 12 = .ok (.iaload, 1) := by decide +kernel
theorem dX1_hasOpen_13 : decode cX1_hasOpen 13 = .ok (.iconst (-1), 1) := by decide +kernel
theorem dX1_hasOpen_14 : decode cX1_hasOpen 14 = .ok (.if_icmp .ne 5, 3) := by decide +kernel
theorem dX1_hasOpen_17 : decode cX1_hasOpen 17 = .ok (.iconst 1, 1) := by decide +kernel
theorem dX1_hasOpen_18 : decode cX1_hasOpen 18 = .ok (.ireturn, 1) := by decide +kernel
theorem dX1_hasOpen_19 : decode cX1_hasOpen 19 = .ok (.iinc 3 1, 3) := by decide +kernel
theorem dX1_hasOpen_22 : decode cX1_hasOpen 22 = .ok (.goto (-20), 3) := by decide +kernel
theorem dX1_hasOpen_25 : decode cX1_hasOpen 25 = .ok (.iconst 0, 1) := by decide +kernel
theorem dX1_hasOpen_26 : decode cX1_hasOpen 26 = .ok (.ireturn, 1) := by decide +kernel
theorem dX1_shareOut_0 : decode cX1_shareOut 0 = .ok (.iload_n 3, 1) := by decide +kernel
theorem dX1_shareOut_1 : decode cX1_shareOut 1 = .ok (.istore 5, 2) := by decide +kernel
theorem dX1_shareOut_3 : decode cX1_shareOut 3 = .ok (.iconst 0, 1) := by decide +kernel
theorem dX1_shareOut_4 : decode cX1_shareOut 4 = .ok (.istore 6, 2) := by decide +kernel
theorem dX1_shareOut_6 : decode cX1_shareOut 6 = .ok (.iload_n 1, 1) := by decide +kernel
theorem dX1_shareOut_7 : decode cX1_shareOut 7 = .ok (.istore 7, 2) := by decide +kernel
theorem dX1_shareOut_9 : decode cX1_shareOut 9 = .ok (.iload 7, 2) := by decide +kernel
theorem dX1_shareOut_11 : decode cX1_shareOut 11 = .ok (.iload_n 2, 1) := by decide +kernel
theorem dX1_shareOut_12 : decode cX1_shareOut 12 = .ok (.if_icmp .ge 82, 3) := by decide +kernel
theorem dX1_shareOut_15 : decode cX1_shareOut 15 = .ok (.aload_n 0, 1) := by decide +kernel
theorem dX1_shareOut_16 : decode cX1_shareOut 16 = .ok (.getfield 31, 3) := by decide +kernel
theorem dX1_shareOut_19 : decode cX1_shareOut 19 = .ok (.iload 7, 2) := by decide +kernel
theorem dX1_shareOut_21 : decode cX1_shareOut 21 = .ok (.iaload, 1) := by decide +kernel
theorem dX1_shareOut_22 : decode cX1_shareOut 22 = .ok (.iconst (-1), 1) := by decide +kernel
theorem dX1_shareOut_23 : decode cX1_shareOut 23 = .ok (.if_icmp .ne 7, 3) := by decide +kernel
theorem dX1_shareOut_26 : decode cX1_shareOut 26 = .ok (.iconst 1, 1) := by decide +kernel
theorem dX1_shareOut_27 : decode cX1_shareOut 27 = .ok (.goto 4, 3) := by decide +kernel
theorem dX1_shareOut_30 : decode cX1_shareOut 30 = .ok (.iconst 0, 1) := by decide +kernel
theorem dX1_shareOut_31 : decode cX1_shareOut 31 = .ok (.istore 8, 2) := by decide +kernel
theorem dX1_shareOut_33 : decode cX1_shareOut 33 = .ok (.iload 5, 2) := by decide +kernel
theorem dX1_shareOut_35 : decode cX1_shareOut 35 = .ok (.iload 8, 2) := by decide +kernel
theorem dX1_shareOut_37 : decode cX1_shareOut 37 = .ok (.ifCond .eq 16, 3) := by decide +kernel
theorem dX1_shareOut_40 : decode cX1_shareOut 40 = .ok (.aload_n 0, 1) := by decide +kernel
theorem dX1_shareOut_41 : decode cX1_shareOut 41 = .ok (.getfield 41, 3) := by decide +kernel
theorem dX1_shareOut_44 : decode cX1_shareOut 44 = .ok (.getfield 98, 3) := by decide +kernel
theorem dX1_shareOut_47 : decode cX1_shareOut 47 = .ok (.iload 7, 2) := by decide +kernel
theorem dX1_shareOut_49 : decode cX1_shareOut 49 = .ok (.iaload, 1) := by decide +kernel
theorem dX1_shareOut_50 : decode cX1_shareOut 50 = .ok (.goto 10, 3) := by decide +kernel
theorem dX1_shareOut_53 : decode cX1_shareOut 53 = .ok (.aload_n 0, 1) := by decide +kernel
theorem dX1_shareOut_54 : decode cX1_shareOut 54 = .ok (.getfield 28, 3) := by decide +kernel
theorem dX1_shareOut_57 : decode cX1_shareOut 57 = .ok (.iload 7, 2) := by decide +kernel
theorem dX1_shareOut_59 : decode cX1_shareOut 59 = .ok (.iaload, 1) := by decide +kernel
theorem dX1_shareOut_60 : decode cX1_shareOut 60 = .ok (.isub, 1) := by decide +kernel
theorem dX1_shareOut_61 : decode cX1_shareOut 61 = .ok (.istore 5, 2) := by decide +kernel
theorem dX1_shareOut_63 : decode cX1_shareOut 63 = .ok (.iload 6, 2) := by decide +kernel
theorem dX1_shareOut_65 : decode cX1_shareOut 65 = .ok (.iload 8, 2) := by decide +kernel
theorem dX1_shareOut_67 : decode cX1_shareOut 67 = .ok (.ifCond .eq 17, 3) := by decide +kernel
theorem dX1_shareOut_70 : decode cX1_shareOut 70 = .ok (.aload_n 0, 1) := by decide +kernel
theorem dX1_shareOut_71 : decode cX1_shareOut 71 = .ok (.getfield 41, 3) := by decide +kernel
theorem dX1_shareOut_74 : decode cX1_shareOut 74 = .ok (.iload 7, 2) := by decide +kernel
theorem dX1_shareOut_76 : decode cX1_shareOut 76 = .ok (.iload 4, 2) := by decide +kernel
theorem dX1_shareOut_78 : decode cX1_shareOut 78 = .ok (.invokevirtual 101, 3) := by decide +kernel
theorem dX1_shareOut_81 : decode cX1_shareOut 81 = .ok (.goto 4, 3) := by decide +kernel
theorem dX1_shareOut_84 : decode cX1_shareOut 84 = .ok (.iconst 0, 1) := by decide +kernel
theorem dX1_shareOut_85 : decode cX1_shareOut 85 = .ok (.iadd, 1) := by decide +kernel
theorem dX1_shareOut_86 : decode cX1_shareOut 86 = .ok (.istore 6, 2) := by decide +kernel
theorem dX1_shareOut_88 : decode cX1_shareOut 88 = .ok (.iinc 7 1, 3) := by decide +kernel
theorem dX1_shareOut_91 : decode cX1_shareOut 91 = .ok (.goto (-82), 3) := by decide +kernel
theorem dX1_shareOut_94 : decode cX1_shareOut 94 = .ok (.iload 4, 2) := by decide +kernel
theorem dX1_shareOut_96 : decode cX1_shareOut 96 = .ok (.ifCond .eq 8, 3) := by decide +kernel
theorem dX1_shareOut_99 : decode cX1_shareOut 99 = .ok (.iload 5, 2) := by decide +kernel
theorem dX1_shareOut_101 : decode cX1_shareOut 101 = .ok (.goto 6, 3) := by decide +kernel
theorem dX1_shareOut_104 : decode cX1_shareOut 104 = .ok (.iload 5, 2) := by decide +kernel
theorem dX1_shareOut_106 : decode cX1_shareOut 106 = .ok (.ineg, 1) := by decide +kernel
theorem dX1_shareOut_107 : decode cX1_shareOut 107 = .ok (.iconst 0, 1) := by decide +kernel
theorem dX1_shareOut_108 : decode cX1_shareOut 108 = .ok (.invokestatic 105, 3) := by decide +kernel
theorem dX1_shareOut_111 : decode cX1_shareOut 111 = .ok (.istore 7, 2) := by decide +kernel
theorem dX1_shareOut_113 : decode cX1_shareOut 113 = .ok (.iconst 0, 1) := by decide +kernel
theorem dX1_shareOut_114 : decode cX1_shareOut 114 = .ok (.istore 8, 2) := by decide +kernel
theorem dX1_shareOut_116 : decode cX1_shareOut 116 = .ok (.iload_n 1, 1) := by decide +kernel
theorem dX1_shareOut_117 : decode cX1_shareOut 117 = .ok (.istore 9, 2) := by decide +kernel
theorem dX1_shareOut_119 : decode cX1_shareOut 119 = .ok (.iload 9, 2) := by decide +kernel
theorem dX1_shareOut_121 : decode cX1_shareOut 121 = .ok (.iload_n 2, 1) := by decide +kernel
theorem dX1_shareOut_122 : decode cX1_shareOut 122 = .ok (.if_icmp .ge 92, 3) := by decide +kernel
theorem dX1_shareOut_125 : decode cX1_shareOut 125 = .ok (.aload_n 0, 1) := by decide +kernel
theorem dX1_shareOut_126 : decode cX1_shareOut 126 = .ok (.getfield 31, 3) := by decide +kernel
theorem dX1_shareOut_129 : decode cX1_shareOut 129 = .ok (.iload 9, 2) := by decide +kernel
theorem dX1_shareOut_131 : decode cX1_shareOut 131 = .ok (.iaload, 1) := by decide +kernel
theorem dX1_shareOut_132 : decode cX1_shareOut 132 = .ok (.iconst (-1), 1) := by decide +kernel
theorem dX1_shareOut_133 : decode cX1_shareOut 133 = .ok (.if_icmp .ne 75, 3) := by decide +kernel
theorem dX1_shareOut_136 : decode cX1_shareOut 136 = .ok (.iload 7, 2) := by decide +kernel
theorem dX1_shareOut_138 : decode cX1_shareOut 138 = .ok (.iload 8, 2) := by decide +kernel
theorem dX1_shareOut_140 : decode cX1_shareOut 140 = .ok (.iload 6, 2) := by decide +kernel
theorem dX1_shareOut_142 : decode cX1_shareOut 142 = .ok (.invokestatic 111, 3) := by decide +kernel
theorem dX1_shareOut_145 : decode cX1_shareOut 145 = .ok (.istore 10, 2) := by decide +kernel
theorem dX1_shareOut_147 : decode cX1_shareOut 147 = .ok (.iload 8, 2) := by decide +kernel
theorem dX1_shareOut_149 : decode cX1_shareOut 149 = .ok (.aload_n 0, 1) := by decide +kernel
theorem dX1_shareOut_150 : decode cX1_shareOut 150 = .ok (.getfield 41, 3) := by decide +kernel
theorem dX1_shareOut_153 : decode cX1_shareOut 153 = .ok (.iload 9, 2) := by decide +kernel
theorem dX1_shareOut_155 : decode cX1_shareOut 155 = .ok (.iload 4, 2) := by decide +kernel
theorem dX1_shareOut_157 : decode cX1_shareOut 157 = .ok (.invokevirtual 101, 3) := by decide +kernel
theorem dX1_shareOut_160 : decode cX1_shareOut 160 = .ok (.iadd, 1) := by decide +kernel
theorem dX1_shareOut_161 : decode cX1_shareOut 161 = .ok (.istore 8, 2) := by decide +kernel
theorem dX1_shareOut_163 : decode cX1_shareOut 163 = .ok (.iload 7, 2) := by decide +kernel
theorem dX1_shareOut_165 : decode cX1_shareOut 165 = .ok (.iload 8, 2) := by decide +kernel
theorem dX1_shareOut_167 : decode cX1_shareOut 167 = .ok (.iload 6, 2) := by decide +kernel
theorem dX1_shareOut_169 : decode cX1_shareOut 169 = .ok (.invokestatic 111, 3) := by decide +kernel
theorem dX1_shareOut_172 : decode cX1_shareOut 172 = .ok (.iload 10, 2) := by decide +kernel
theorem dX1_shareOut_174 : decode cX1_shareOut 174 = .ok (.isub, 1) := by decide +kernel
theorem dX1_shareOut_175 : decode cX1_shareOut 175 = .ok (.istore 11, 2) := by decide +kernel
theorem dX1_shareOut_177 : decode cX1_shareOut 177 = .ok (.aload_n 0, 1) := by decide +kernel
theorem dX1_shareOut_178 : decode cX1_shareOut 178 = .ok (.getfield 28, 3) := by decide +kernel
theorem dX1_shareOut_181 : decode cX1_shareOut 181 = .ok (.iload 9, 2) := by decide +kernel
theorem dX1_shareOut_183 : decode cX1_shareOut 183 = .ok (.aload_n 0, 1) := by decide +kernel
theorem dX1_shareOut_184 : decode cX1_shareOut 184 = .ok (.getfield 41, 3) := by decide +kernel
theorem dX1_shareOut_187 : decode cX1_shareOut 187 = .ok (.getfield 98, 3) := by decide +kernel
theorem dX1_shareOut_190 : decode cX1_shareOut 190 = .ok (.iload 9, 2) := by decide +kernel
theorem dX1_shareOut_192 : decode cX1_shareOut 192 = .ok (.iaload, 1) := by decide +kernel
theorem dX1_shareOut_193 : decode cX1_shareOut 193 = .ok (.iload 4, 2) := by decide +kernel
theorem dX1_shareOut_195 : decode cX1_shareOut 195 = .ok (.ifCond .eq 8, 3) := by decide +kernel
theorem dX1_shareOut_198 : decode cX1_shareOut 198 = .ok (.iload 11, 2) := by decide +kernel
theorem dX1_shareOut_200 : decode cX1_shareOut 200 = .ok (.goto 6, 3) := by decide +kernel
theorem dX1_shareOut_203 : decode cX1_shareOut 203 = .ok (.iload 11, 2) := by decide +kernel
theorem dX1_shareOut_205 : decode cX1_shareOut 205 = .ok (.ineg, 1) := by decide +kernel
theorem dX1_shareOut_206 : decode cX1_shareOut 206 = .ok (.iadd, 1) := by decide +kernel
theorem dX1_shareOut_207 : decode cX1_shareOut 207 = .ok (.iastore, 1) := by decide +kernel
theorem dX1_shareOut_208 : decode cX1_shareOut 208 = .ok (.iinc 9 1, 3) := by decide +kernel
theorem dX1_shareOut_211 : decode cX1_shareOut 211 = .ok (.goto (-92), 3) := by decide +kernel
theorem dX1_shareOut_214 : decode cX1_shareOut 214 = .ok (.return_, 1) := by decide +kernel
theorem dX1_part_0 : decode cX1_part 0 = .ok (.iload_n 2, 1) := by decide +kernel
theorem dX1_part_1 : decode cX1_part 1 = .ok (.ifCond .le 13, 3) := by decide +kernel
theorem dX1_part_4 : decode cX1_part 4 = .ok (.iload_n 0, 1) := by decide +kernel
theorem dX1_part_5 : decode cX1_part 5 = .ok (.iload_n 1, 1) := by decide +kernel
theorem dX1_part_6 : decode cX1_part 6 = .ok (.imul, 1) := by decide +kernel
theorem dX1_part_7 : decode cX1_part 7 = .ok (.iload_n 2, 1) := by decide +kernel
theorem dX1_part_8 : decode cX1_part 8 = .ok (.invokestatic 115, 3) := by decide +kernel
theorem dX1_part_11 : decode cX1_part 11 = .ok (.goto 4, 3) := by decide +kernel
theorem dX1_part_14 : decode cX1_part 14 = .ok (.iconst 0, 1) := by decide +kernel
theorem dX1_part_15 : decode cX1_part 15 = .ok (.ireturn, 1) := by decide +kernel
theorem dX1_freezeCorrected_0 : decode cX1_freezeCorrected 0 = .ok (.iconst 0, 1) := by decide +kernel
theorem dX1_freezeCorrected_1 : decode cX1_freezeCorrected 1 = .ok (.istore 4, 2) := by decide +kernel
theorem dX1_freezeCorrected_3 : decode cX1_freezeCorrected 3 = .ok (.iload_n 1, 1) := by decide +kernel
theorem dX1_freezeCorrected_4 : decode cX1_freezeCorrected 4 = .ok (.istore 5, 2) := by decide +kernel
theorem dX1_freezeCorrected_6 : decode cX1_freezeCorrected 6 = .ok (.iload 5, 2) := by decide +kernel
theorem dX1_freezeCorrected_8 : decode cX1_freezeCorrected 8 = .ok (.iload_n 2, 1) := by decide +kernel
theorem dX1_freezeCorrected_9 : decode cX1_freezeCorrected 9 = .ok (.if_icmp .ge 93, 3) := by decide +kernel
theorem dX1_freezeCorrected_12 : decode cX1_freezeCorrected 12 = .ok (.aload_n 0, 1) := by decide +kernel
theorem dX1_freezeCorrected_13 : decode cX1_freezeCorrected 13 = .ok (.getfield 31, 3) := by decide +kernel
theorem dX1_freezeCorrected_16 : decode cX1_freezeCorrected 16 = .ok (.iload 5, 2) := by decide +kernel
theorem dX1_freezeCorrected_18 : decode cX1_freezeCorrected 18 = .ok (.iaload, 1) := by decide +kernel
theorem dX1_freezeCorrected_19 : decode cX1_freezeCorrected 19 = .ok (.iconst (-1), 1) := by decide +kernel
theorem dX1_freezeCorrected_20 : decode cX1_freezeCorrected 20 = .ok (.if_icmp .ne 76, 3) := by decide +kernel
theorem dX1_freezeCorrected_23 : decode cX1_freezeCorrected 23 = .ok (.aload_n 0, 1) := by decide +kernel
theorem dX1_freezeCorrected_24 : decode cX1_freezeCorrected 24 = .ok (.getfield 28, 3) := by decide +kernel
theorem dX1_freezeCorrected_27 : decode cX1_freezeCorrected 27 = .ok (.iload 5, 2) := by decide +kernel
theorem dX1_freezeCorrected_29 : decode cX1_freezeCorrected 29 = .ok (.iaload, 1) := by decide +kernel
theorem dX1_freezeCorrected_30 : decode cX1_freezeCorrected 30 = .ok (.istore 6, 2) := by decide +kernel
theorem dX1_freezeCorrected_32 : decode cX1_freezeCorrected 32 = .ok (.aload_n 0, 1) := by decide +kernel
theorem dX1_freezeCorrected_33 : decode cX1_freezeCorrected 33 = .ok (.getfield 28, 3) := by decide +kernel
theorem dX1_freezeCorrected_36 : decode cX1_freezeCorrected 36 = .ok (.iload 5, 2) := by decide +kernel
theorem dX1_freezeCorrected_38 : decode cX1_freezeCorrected 38 = .ok (.iload 6, 2) := by decide +kernel
theorem dX1_freezeCorrected_40 : decode cX1_freezeCorrected 40 = .ok (.aload_n 0, 1) := by decide +kernel
theorem dX1_freezeCorrected_41 : decode cX1_freezeCorrected 41 = .ok (.getfield 41, 3) := by decide +kernel
theorem dX1_freezeCorrected_44 : decode cX1_freezeCorrected 44 = .ok (.getfield 118, 3) := by decide +kernel
theorem dX1_freezeCorrected_47 : decode cX1_freezeCorrected 47 = .ok (.iload 5, 2) := by decide +kernel
theorem dX1_freezeCorrected_49 : decode cX1_freezeCorrected 49 = .ok (.iaload, 1) := by decide +kernel
theorem dX1_freezeCorrected_50 : decode cX1_freezeCorrected 50 = .ok (.invokestatic 105, 3) := by decide +kernel
theorem dX1_freezeCorrected_53 : decode cX1_freezeCorrected 53 = .ok (.aload_n 0, 1) := by decide +kernel
theorem dX1_freezeCorrected_54 : decode cX1_freezeCorrected 54 = .ok (.getfield 41, 3) := by decide +kernel
theorem dX1_freezeCorrected_57 : decode cX1_freezeCorrected 57 = .ok (.getfield 121, 3) := by decide +kernel
theorem dX1_freezeCorrected_60 : decode cX1_freezeCorrected 60 = .ok (.iload 5, 2) := by decide +kernel
theorem dX1_freezeCorrected_62 : decode cX1_freezeCorrected 62 = .ok (.iaload, 1) := by decide +kernel
theorem dX1_freezeCorrected_63 : decode cX1_freezeCorrected 63 = .ok (.invokestatic 124, 3) := by decide +kernel
theorem dX1_freezeCorrected_66 : decode cX1_freezeCorrected 66 = .ok (.iastore, 1) := by decide +kernel
theorem dX1_freezeCorrected_67 : decode cX1_freezeCorrected 67 = .ok (.aload_n 0, 1) := by decide +kernel
theorem dX1_freezeCorrected_68 : decode cX1_freezeCorrected 68 = .ok (.getfield 34, 3) := by decide +kernel
theorem dX1_freezeCorrected_71 : decode cX1_freezeCorrected 71 = .ok (.iload 5, 2) := by decide +kernel
theorem dX1_freezeCorrected_73 : decode cX1_freezeCorrected 73 = .ok (.aload_n 0, 1) := by decide +kernel
theorem dX1_freezeCorrected_74 : decode cX1_freezeCorrected 74 = .ok (.getfield 28, 3) := by decide +kernel
theorem dX1_freezeCorrected_77 : decode cX1_freezeCorrected 77 = .ok (.iload 5, 2) := by decide +kernel
theorem dX1_freezeCorrected_79 : decode cX1_freezeCorrected 79 = .ok (.iaload, 1) := by decide +kernel
theorem dX1_freezeCorrected_80 : decode cX1_freezeCorrected 80 = .ok (.iload 6, 2) := by decide +kernel
theorem dX1_freezeCorrected_82 : decode cX1_freezeCorrected 82 = .ok (.isub, 1) := by decide +kernel
theorem dX1_freezeCorrected_83 : decode cX1_freezeCorrected 83 = .ok (.iastore, 1) := by decide +kernel
theorem dX1_freezeCorrected_84 : decode cX1_freezeCorrected 84 = .ok (.iload 4, 2) := by decide +kernel
theorem dX1_freezeCorrected_86 : decode cX1_freezeCorrected 86 = .ok (.aload_n 0, 1) := by decide +kernel
theorem dX1_freezeCorrected_87 : decode cX1_freezeCorrected 87 = .ok (.getfield 34, 3) := by decide +kernel
theorem dX1_freezeCorrected_90 : decode cX1_freezeCorrected 90 = .ok (.iload 5, 2) := by decide +kernel
theorem dX1_freezeCorrected_92 : decode cX1_freezeCorrected 92 = .ok (.iaload, 1) := by decide +kernel
theorem dX1_freezeCorrected_93 : decode cX1_freezeCorrected 93 = .ok (.iadd, 1) := by decide +kernel
theorem dX1_freezeCorrected_94 : decode cX1_freezeCorrected 94 = .ok (.istore 4, 2) := by decide +kernel
theorem dX1_freezeCorrected_96 : decode cX1_freezeCorrected 96 = .ok (.iinc 5 1, 3) := by decide +kernel
theorem dX1_freezeCorrected_99 : decode cX1_freezeCorrected 99 = .ok (.goto (-93), 3) := by decide +kernel
theorem dX1_freezeCorrected_102 : decode cX1_freezeCorrected 102 = .ok (.iload_n 1, 1) := by decide +kernel
theorem dX1_freezeCorrected_103 : decode cX1_freezeCorrected 103 = .ok (.istore 5, 2) := by decide +kernel
theorem dX1_freezeCorrected_105 : decode cX1_freezeCorrected 105 = .ok (.iload 5, 2) := by decide +kernel
theorem dX1_freezeCorrected_107 : decode cX1_freezeCorrected 107 = .ok (.iload_n 2, 1) := by decide +kernel
theorem dX1_freezeCorrected_108 : decode cX1_freezeCorrected 108 = .ok (.if_icmp .ge 75, 3) := by decide +kernel
theorem dX1_freezeCorrected_111 : decode cX1_freezeCorrected 111 = .ok (.iload 4, 2) := by decide +kernel
theorem dX1_freezeCorrected_113 : decode cX1_freezeCorrected 113 = .ok (.ifCond .le 13, 3) := by decide +kernel
theorem dX1_freezeCorrected_116 : decode cX1_freezeCorrected 116 = .ok (.aload_n 0, 1) := by decide +kernel
theorem dX1_freezeCorrected_117 : decode cX1_freezeCorrected 117 = .ok (.getfield 34, 3) := by decide +kernel
theorem dX1_freezeCorrected_120 : decode cX1_freezeCorrected 120 = .ok (.iload 5, 2) := by decide +kernel
theorem dX1_freezeCorrected_122 : decode cX1_freezeCorrected 122 = .ok (.iaload, 1) := by decide +kernel
theorem dX1_freezeCorrected_123 : decode cX1_freezeCorrected 123 = .ok (.ifCond .gt 18, 3) := by decide +kernel
theorem dX1_freezeCorrected_126 : decode cX1_freezeCorrected 126 = .ok (.iload 4, 2) := by decide +kernel
theorem dX1_freezeCorrected_128 : decode cX1_freezeCorrected 128 = .ok (.ifCond .ge 17, 3) := by decide +kernel
theorem dX1_freezeCorrected_131 : decode cX1_freezeCorrected 131 = .ok (.aload_n 0, 1) := by decide +kernel
theorem dX1_freezeCorrected_132 : decode cX1_freezeCorrected 132 = .ok (.getfield 34, 3) := by decide +kernel
theorem dX1_freezeCorrected_135 : decode cX1_freezeCorrected 135 = .ok (.iload 5, 2) := by decide +kernel
theorem dX1_freezeCorrected_137 : decode cX1_freezeCorrected 137 = .ok (.iaload, 1) := by decide +kernel
theorem dX1_freezeCorrected_138 : decode cX1_freezeCorrected 138 = .ok (.ifCond .ge 7, 3) := by decide +kernel
theorem dX1_freezeCorrected_141 : decode cX1_freezeCorrected 141 = .ok (.iconst 1, 1) := by decide +kernel
theorem dX1_freezeCorrected_142 : decode cX1_freezeCorrected 142 = .ok (.goto 4, 3) := by decide +kernel
theorem dX1_freezeCorrected_145 : decode cX1_freezeCorrected 145 = .ok (.iconst 0, 1) := by decide +kernel
theorem dX1_freezeCorrected_146 : decode cX1_freezeCorrected 146 = .ok (.istore 6, 2) := by decide +kernel
theorem dX1_freezeCorrected_148 : decode cX1_freezeCorrected 148 = .ok (.aload_n 0, 1) := by decide +kernel
theorem dX1_freezeCorrected_149 : decode cX1_freezeCorrected 149 = .ok (.getfield 31, 3) := by decide +kernel
theorem dX1_freezeCorrected_152 : decode cX1_freezeCorrected 152 = .ok (.iload 5, 2) := by decide +kernel
theorem dX1_freezeCorrected_154 : decode cX1_freezeCorrected 154 = .ok (.iaload, 1) := by decide +kernel
theorem dX1_freezeCorrected_155 : decode cX1_freezeCorrected 155 = .ok (.iconst (-1), 1) := by decide +kernel
theorem dX1_freezeCorrected_156 : decode cX1_freezeCorrected 156 = .ok (.if_icmp .ne 21, 3) := by decide +kernel
theorem dX1_freezeCorrected_159 : decode cX1_freezeCorrected 159 = .ok (.iload 4, 2) := by decide +kernel
theorem dX1_freezeCorrected_161 : decode cX1_freezeCorrected 161 = .ok (.ifCond .eq 8, 3) := by decide +kernel
theorem dX1_freezeCorrected_164 : decode cX1_freezeCorrected 164 = .ok (.iload 6, 2) := by decide +kernel
theorem dX1_freezeCorrected_166 : decode cX1_freezeCorrected 166 = .ok (.ifCond .eq 11, 3) := by decide +kernel
theorem dX1_freezeCorrected_169 : decode cX1_freezeCorrected 169 = .ok (.aload_n 0, 1) := by decide +kernel
theorem dX1_freezeCorrected_170 : decode cX1_freezeCorrected 170 = .ok (.getfield 31, 3) := by decide +kernel
theorem dX1_freezeCorrected_173 : decode cX1_freezeCorrected 173 = .ok (.iload 5, 2) := by decide +kernel
theorem dX1_freezeCorrected_175 : decode cX1_freezeCorrected 175 = .ok (.iload_n 3, 1) := by decide +kernel
theorem dX1_freezeCorrected_176 : decode cX1_freezeCorrected 176 = .ok (.iastore, 1) := by decide +kernel
theorem dX1_freezeCorrected_177 : decode cX1_freezeCorrected 177 = .ok (.iinc 5 1, 3) := by decide +kernel
theorem dX1_freezeCorrected_180 : decode cX1_freezeCorrected 180 = .ok (.goto (-75), 3) := by decide +kernel
theorem dX1_freezeCorrected_183 : decode cX1_freezeCorrected 183 = .ok (.return_, 1) := by decide +kernel
theorem dX2_init_0 : decode cX2_init 0 = .ok (.aload_n 0, 1) := by decide +kernel
theorem dX2_init_1 : decode cX2_init 1 = .ok (.invokespecial 3, 3) := by decide +kernel
theorem dX2_init_4 : decode cX2_init 4 = .ok (.aload_n 0, 1) := by decide +kernel
theorem dX2_init_5 : decode cX2_init 5 = .ok (.bipush 16, 2) := by decide +kernel
theorem dX2_init_7 : decode cX2_init 7 = .ok (.newarray .int, 2) := by decide +kernel
theorem dX2_init_9 : decode cX2_init 9 = .ok (.putfield 9, 3) := by decide +kernel
theorem dX2_init_12 : decode cX2_init 12 = .ok (.aload_n 0, 1) := by decide +kernel
theorem dX2_init_13 : decode cX2_init 13 = .ok (.bipush 16, 2) := by decide +kernel
theorem dX2_init_15 : decode cX2_init 15 = .ok (.newarray .int, 2) := by decide +kernel
theorem dX2_init_17 : decode cX2_init 17 = .ok (.putfield 15, 3) := by decide +kernel
theorem dX2_init_20 : decode cX2_init 20 = .ok (.aload_n 0, 1) := by decide +kernel
theorem dX2_init_21 : decode cX2_init 21 = .ok (.bipush 16, 2) := by decide +kernel
theorem dX2_init_23 : decode cX2_init 23 = .ok (.newarray .int, 2) := by decide +kernel
theorem dX2_init_25 : decode cX2_init 25 = .ok (.putfield 18, 3) := by decide +kernel
theorem dX2_init_28 : decode cX2_init 28 = .ok (.aload_n 0, 1) := by decide +kernel
theorem dX2_init_29 : decode cX2_init 29 = .ok (.bipush 16, 2) := by decide +kernel
theorem dX2_init_31 : decode cX2_init 31 = .ok (.newarray .int, 2) := by decide +kernel
theorem dX2_init_33 : decode cX2_init 33 = .ok (.putfield 21, 3) := by decide +kernel
theorem dX2_init_36 : decode cX2_init 36 = .ok (.aload_n 0, 1) := by decide +kernel
theorem dX2_init_37 : decode cX2_init 37 = .ok (.bipush 16, 2) := by decide +kernel
theorem dX2_init_39 : decode cX2_init 39 = .ok (.newarray .int, 2) := by decide +kernel
theorem dX2_init_41 : decode cX2_init 41 = .ok (.putfield 24, 3) := by decide +kernel
theorem dX2_init_44 : decode cX2_init 44 = .ok (.aload_n 0, 1) := by decide +kernel
theorem dX2_init_45 : decode cX2_init 45 = .ok (.bipush 16, 2) := by decide +kernel
theorem dX2_init_47 : decode cX2_init 47 = .ok (.newarray .int, 2) := by decide +kernel
theorem dX2_init_49 : decode cX2_init 49 = .ok (.putfield 27, 3) := by decide +kernel
theorem dX2_init_52 : decode cX2_init 52 = .ok (.aload_n 0, 1) := by decide +kernel
theorem dX2_init_53 : decode cX2_init 53 = .ok (.aload_n 1, 1) := by decide +kernel
theorem dX2_init_54 : decode cX2_init 54 = .ok (.putfield 30, 3) := by decide +kernel
theorem dX2_init_57 : decode cX2_init 57 = .ok (.return_, 1) := by decide +kernel
theorem dX2_sort_0 : decode cX2_sort 0 = .ok (.aload_n 0, 1) := by decide +kernel
theorem dX2_sort_1 : decode cX2_sort 1 = .ok (.iconst 0, 1) := by decide +kernel
theorem dX2_sort_2 : decode cX2_sort 2 = .ok (.putfield 34, 3) := by decide +kernel
theorem dX2_sort_5 : decode cX2_sort 5 = .ok (.iconst 0, 1) := by decide +kernel
theorem dX2_sort_6 : decode cX2_sort 6 = .ok (.istore_n 1, 1) := by decide +kernel
theorem dX2_sort_7 : decode cX2_sort 7 = .ok (.iload_n 1, 1) := by decide +kernel
theorem dX2_sort_8 : decode cX2_sort 8 = .ok (.aload_n 0, 1) := by decide +kernel
theorem dX2_sort_9 : decode cX2_sort 9 = .ok (.getfield 30, 3) := by decide +kernel
theorem dX2_sort_12 : decode cX2_sort 12 = .ok (.getfield 38, 3) := by decide +kernel
theorem dX2_sort_15 : decode cX2_sort 15 = .ok (.if_icmp .ge 27, 3) := by decide +kernel
theorem dX2_sort_18 : decode cX2_sort 18 = .ok (.aload_n 0, 1) := by decide +kernel
theorem dX2_sort_19 : decode cX2_sort 19 = .ok (.getfield 30, 3) := by decide +kernel
theorem dX2_sort_22 : decode cX2_sort 22 = .ok (.iload_n 1, 1) := by decide +kernel
theorem dX2_sort_23 : decode cX2_sort 23 = .ok (.bipush 10, 2) := by decide +kernel
theorem dX2_sort_25 : decode cX2_sort 25 = .ok (.invokevirtual 42, 3) := by decide +kernel
theorem dX2_sort_28 : decode cX2_sort 28 = .ok (.ifCond .ne 8, 3) := by decide +kernel
theorem dX2_sort_31 : decode cX2_sort 31 = .ok (.aload_n 0, 1) := by decide +kernel
theorem dX2_sort_32 : decode cX2_sort 32 = .ok (.iload_n 1, 1) := by decide +kernel
theorem dX2_sort_33 : decode cX2_sort 33 = .ok (.invokevirtual 46, 3) := by decide +kernel
theorem dX2_sort_36 : decode cX2_sort 36 = .ok (.iinc 1 1, 3) := by decide +kernel
theorem dX2_sort_39 : decode cX2_sort 39 = .ok (.goto (-32), 3) := by decide +kernel
theorem dX2_sort_42 : decode cX2_sort 42 = .ok (.iconst 0, 1) := by decide +kernel
theorem dX2_sort_43 : decode cX2_sort 43 = .ok (.istore_n 1, 1) := by decide +kernel
theorem dX2_sort_44 : decode cX2_sort 44 = .ok (.iload_n 1, 1) := by decide +kernel
theorem dX2_sort_45 : decode cX2_sort 45 = .ok (.aload_n 0, 1) := by decide +kernel
theorem dX2_sort_46 : decode cX2_sort 46 = .ok (.getfield 34, 3) := by decide +kernel
theorem dX2_sort_49 : decode cX2_sort 49 = .ok (.if_icmp .ge 89, 3) := by decide +kernel
theorem dX2_sort_52 : decode cX2_sort 52 = .ok (.aload_n 0, 1) := by decide +kernel
theorem dX2_sort_53 : decode cX2_sort 53 = .ok (.getfield 9, 3) := by decide +kernel
theorem dX2_sort_56 : decode cX2_sort 56 = .ok (.iload_n 1, 1) := by decide +kernel
theorem dX2_sort_57 : decode cX2_sort 57 = .ok (.iaload, 1) := by decide +kernel
theorem dX2_sort_58 : decode cX2_sort 58 = .ok (.istore_n 2, 1) := by decide +kernel
theorem dX2_sort_59 : decode cX2_sort 59 = .ok (.aload_n 0, 1) := by decide +kernel
theorem dX2_sort_60 : decode cX2_sort 60 = .ok (.getfield 15, 3) := by decide +kernel
theorem dX2_sort_63 : decode cX2_sort 63 = .ok (.iload_n 1, 1) := by decide +kernel
theorem dX2_sort_64 : decode cX2_sort 64 = .ok (.aload_n 0, 1) := by decide +kernel
theorem dX2_sort_65 : decode cX2_sort 65 = .ok (.getfield 30, 3) := by decide +kernel
theorem dX2_sort_68 : decode cX2_sort 68 = .ok (.iload_n 2, 1) := by decide +kernel
theorem dX2_sort_69 : decode cX2_sort 69 = .ok (.iconst 0, 1) := by decide +kernel
theorem dX2_sort_70 : decode cX2_sort 70 = .ok (.invokevirtual 42, 3) := by decide +kernel
theorem dX2_sort_73 : decode cX2_sort 73 = .ok (.iastore, 1) := by decide +kernel
theorem dX2_sort_74 : decode cX2_sort 74 = .ok (.aload_n 0, 1) := by decide +kernel
theorem dX2_sort_75 : decode cX2_sort 75 = .ok (.getfield 18, 3) := by decide +kernel
theorem dX2_sort_78 : decode cX2_sort 78 = .ok (.iload_n 1, 1) := by decide +kernel
theorem dX2_sort_79 : decode cX2_sort 79 = .ok (.aload_n 0, 1) := by decide +kernel
theorem dX2_sort_80 : decode cX2_sort 80 = .ok (.getfield 30, 3) := by decide +kernel
theorem dX2_sort_83 : decode cX2_sort 83 = .ok (.iload_n 2, 1) := by decide +kernel
theorem dX2_sort_84 : decode cX2_sort 84 = .ok (.iconst 3, 1) := by decide +kernel
theorem dX2_sort_85 : decode cX2_sort 85 = .ok (.invokevirtual 42, 3) := by decide +kernel
theorem dX2_sort_88 : decode cX2_sort 88 = .ok (.iastore, 1) := by decide +kernel
theorem dX2_sort_89 : decode cX2_sort 89 = .ok (.aload_n 0, 1) := by decide +kernel
theorem dX2_sort_90 : decode cX2_sort 90 = .ok (.getfield 21, 3) := by decide +kernel
theorem dX2_sort_93 : decode cX2_sort 93 = .ok (.iload_n 1, 1) := by decide +kernel
theorem dX2_sort_94 : decode cX2_sort 94 = .ok (.aload_n 0, 1) := by decide +kernel
theorem dX2_sort_95 : decode cX2_sort 95 = .ok (.getfield 30, 3) := by decide +kernel
theorem dX2_sort_98 : decode cX2_sort 98 = .ok (.iload_n 2, 1) := by decide +kernel
theorem dX2_sort_99 : decode cX2_sort 99 = .ok (.invokevirtual 50, 3) := by decide +kernel
theorem dX2_sort_102 : decode cX2_sort 102 = .ok (.iastore, 1) := by decide +kernel
theorem dX2_sort_103 : decode cX2_sort 103 = .ok (.aload_n 0, 1) := by decide +kernel
theorem dX2_sort_104 : decode cX2_sort 104 = .ok (.getfield 24, 3) := by decide +kernel
theorem dX2_sort_107 : decode cX2_sort 107 = .ok (.iload_n 1, 1) := by decide +kernel
theorem dX2_sort_108 : decode cX2_sort 108 = .ok (.aload_n 0, 1) := by decide +kernel
theorem dX2_sort_109 : decode cX2_sort 109 = .ok (.getfield 30, 3) := by decide +kernel
theorem dX2_sort_112 : decode cX2_sort 112 = .ok (.iload_n 2, 1) := by decide +kernel
theorem dX2_sort_113 : decode cX2_sort 113 = .ok (.iconst 5, 1) := by decide +kernel
theorem dX2_sort_114 : decode cX2_sort 114 = .ok (.invokevirtual 42, 3) := by decide +kernel
theorem dX2_sort_117 : decode cX2_sort 117 = .ok (.iastore, 1) := by decide +kernel
theorem dX2_sort_118 : decode cX2_sort 118 = .ok (.aload_n 0, 1) := by decide +kernel
theorem dX2_sort_119 : decode cX2_sort 119 = .ok (.getfield 27, 3) := by decide +kernel
theorem dX2_sort_122 : decode cX2_sort 122 = .ok (.iload_n 1, 1) := by decide +kernel
theorem dX2_sort_123 : decode cX2_sort 123 = .ok (.aload_n 0, 1) := by decide +kernel
theorem dX2_sort_124 : decode cX2_sort 124 = .ok (.getfield 30, 3) := by decide +kernel
theorem dX2_sort_127 : decode cX2_sort 127 = .ok (.iload_n 2, 1) := by decide +kernel
theorem dX2_sort_128 : decode cX2_sort 128 = .ok (.invokevirtual 53, 3) := by decide +kernel
theorem dX2_sort_131 : decode cX2_sort 131 = .ok (.iastore, 1) := by decide +kernel
theorem dX2_sort_132 : decode cX2_sort 132 = .ok (.iinc 1 1, 3) := by decide +kernel
theorem dX2_sort_135 : decode cX2_sort 135 = .ok (.goto (-91), 3) := by decide +kernel
theorem dX2_sort_138 : decode cX2_sort 138 = .ok (.return_, 1) := by decide +kernel
theorem dX2_enter_0 : decode cX2_enter 0 = .ok (.aload_n 0, 1) := by decide +kernel
theorem dX2_enter_1 : decode cX2_enter 1 = .ok (.getfield 34, 3) := by decide +kernel
theorem dX2_enter_4 : decode cX2_enter 4 = .ok (.bipush 16, 2) := by decide +kernel
theorem dX2_enter_6 : decode cX2_enter 6 = .ok (.if_icmp .lt 4, 3) := by decide +kernel
theorem dX2_enter_9 : decode cX2_enter 9 = .ok (.return_, 1) := by decide +kernel
theorem dX2_enter_10 : decode cX2_enter 10 = .ok (.aload_n 0, 1) := by decide +kernel
theorem dX2_enter_11 : decode cX2_enter 11 = .ok (.getfield 34, 3) := by decide +kernel
theorem dX2_enter_14 : decode cX2_enter 14 = .ok (.istore_n 2, 1) := by decide +kernel
theorem dX2_enter_15 : decode cX2_enter 15 = .ok (.aload_n 0, 1) := by decide +kernel
theorem dX2_enter_16 : decode cX2_enter 16 = .ok (.getfield 30, 3) := by decide +kernel
theorem dX2_enter_19 : decode cX2_enter 19 = .ok (.iload_n 1, 1) := by decide +kernel
theorem dX2_enter_20 : decode cX2_enter 20 = .ok (.bipush 6, 2) := by decide +kernel
theorem dX2_enter_22 : decode cX2_enter 22 = .ok (.invokevirtual 42, 3) := by decide +kernel
theorem dX2_enter_25 : decode cX2_enter 25 = .ok (.istore_n 3, 1) := by decide +kernel
theorem dX2_enter_26 : decode cX2_enter 26 = .ok (.iload_n 2, 1) := by decide +kernel
theorem dX2_enter_27 : decode cX2_enter 27 = .ok (.ifCond .le 44, 3) := by decide +kernel
theorem dX2_enter_30 : decode cX2_enter 30 = .ok (.aload_n 0, 1) := by decide +kernel
theorem dX2_enter_31 : decode cX2_enter 31 = .ok (.getfield 30, 3) := by decide +kernel
theorem dX2_enter_34 : decode cX2_enter 34 = .ok (.aload_n 0, 1) := by decide +kernel
theorem dX2_enter_35 : decode cX2_enter 35 = .ok (.getfield 9, 3) := by decide +kernel
theorem dX2_enter_38 : decode cX2_enter 38 = .ok (.iload_n 2, 1) := by decide +kernel
theorem dX2_enter_39 : decode cX2_enter 39 = .ok (.iconst 1, 1) := by decide +kernel
theorem dX2_enter_40 : decode cX2_enter 40 = .ok (.isub, 1) := by decide +kernel
theorem dX2_enter_41 : decode cX2_enter 41 = .ok (.iaload, 1) := by decide +kernel
theorem dX2_enter_42 : decode cX2_enter 42 = .ok (.bipush 6, 2) := by decide +kernel
theorem dX2_enter_44 : decode cX2_enter 44 = .ok (.invokevirtual 42, 3) := by decide +kernel
theorem dX2_enter_47 : decode cX2_enter 47 = .ok (.iload_n 3, 1) := by decide +kernel
theorem dX2_enter_48 : decode cX2_enter 48 = .ok (.if_icmp .le 23, 3) := by decide +kernel
theorem dX2_enter_51 : decode cX2_enter 51 = .ok (.aload_n 0, 1) := by decide +kernel
theorem dX2_enter_52 : decode cX2_enter 52 = .ok (.getfield 9, 3) := by decide +kernel
theorem dX2_enter_55 : decode cX2_enter 55 = .ok (.iload_n 2, 1) := by decide +kernel
theorem dX2_enter_56 : decode cX2_enter 56 = .ok (.aload_n 0, 1) := by decide +kernel
theorem dX2_enter_57 : decode cX2_enter 57 = .ok (.getfield 9, 3) := by decide +kernel
theorem dX2_enter_60 : decode cX2_enter 60 = .ok (.iload_n 2, 1) := by decide +kernel
theorem dX2_enter_61 : decode cX2_enter 61 = .ok (.iconst 1, 1) := by decide +kernel
theorem dX2_enter_62 : decode cX2_enter 62 = .ok (.isub, 1) := by decide +kernel
theorem dX2_enter_63 : decode cX2_enter 63 = .ok (.iaload, 1) := by decide +kernel
theorem dX2_enter_64 : decode cX2_enter 64 = .ok (.iastore, 1) := by decide +kernel
theorem dX2_enter_65 : decode cX2_enter 65 = .ok (.iinc 2 (-1), 3) := by decide +kernel
theorem dX2_enter_68 : decode cX2_enter 68 = .ok (.goto (-42), 3) := by decide +kernel
theorem dX2_enter_71 : decode cX2_enter 71 = .ok (.aload_n 0, 1) := by decide +kernel
theorem dX2_enter_72 : decode cX2_enter 72 = .ok (.getfield 9, 3) := by decide +kernel
theorem dX2_enter_75 : decode cX2_enter 75 = .ok (.iload_n 2, 1) := by decide +kernel
theorem dX2_enter_76 : decode cX2_enter 76 = .ok (.iload_n 1, 1) := by decide +kernel
theorem dX2_enter_77 : decode cX2_enter 77 = .ok (.iastore, 1) := by decide +kernel
theorem dX2_enter_78 : decode cX2_enter 78 = .ok (.aload_n 0, 1) := by decide +kernel
theorem dX2_enter_79 : decode cX2_enter 79 = .ok (.dup, 1) := by decide +kernel
theorem dX2_enter_80 : decode cX2_enter 80 = .ok (.getfield 34, 3) := by decide +kernel
theorem dX2_enter_83 : decode cX2_enter 83 = .ok (.iconst 1, 1) := by decide +kernel
theorem dX2_enter_84 : decode cX2_enter 84 = .ok (.iadd, 1) := by decide +kernel
theorem dX2_enter_85 : decode cX2_enter 85 = .ok (.putfield 34, 3) := by decide +kernel
theorem dX2_enter_88 : decode cX2_enter 88 = .ok (.return_, 1) := by decide +kernel
theorem dX2_itemAt_0 : decode cX2_itemAt 0 = .ok (.iload_n 1, 1) := by decide +kernel
theorem dX2_itemAt_1 : decode cX2_itemAt 1 = .ok (.ifCond .lt 20, 3) := by decide +kernel
theorem dX2_itemAt_4 : decode cX2_itemAt 4 = .ok (.iload_n 1, 1) := by decide +kernel
theorem dX2_itemAt_5 : decode cX2_itemAt 5 = .ok (.aload_n 0, 1) := by decide +kernel
theorem dX2_itemAt_6 : decode cX2_itemAt 6 = .ok (.getfield 34, 3) := by decide +kernel
theorem dX2_itemAt_9 : decode cX2_itemAt 9 = .ok (.if_icmp .ge 12, 3) := by decide +kernel
theorem dX2_itemAt_12 : decode cX2_itemAt 12 = .ok (.aload_n 0, 1) := by decide +kernel
theorem dX2_itemAt_13 : decode cX2_itemAt 13 = .ok (.getfield 9, 3) := by decide +kernel
theorem dX2_itemAt_16 : decode cX2_itemAt 16 = .ok (.iload_n 1, 1) := by decide +kernel
theorem dX2_itemAt_17 : decode cX2_itemAt 17 = .ok (.iaload, 1) := by decide +kernel
theorem dX2_itemAt_18 : decode cX2_itemAt 18 = .ok (.goto 6, 3) := by decide +kernel
theorem dX2_itemAt_21 : decode cX2_itemAt 21 = .ok (.sipush (-1001), 3) := by decide +kernel
theorem dX2_itemAt_24 : decode cX2_itemAt 24 = .ok (.ireturn, 1) := by decide +kernel
theorem dX2_placeOf_0 : decode cX2_placeOf 0 = .ok (.iconst 0, 1) := by decide +kernel
theorem dX2_placeOf_1 : decode cX2_placeOf 1 = .ok (.istore_n 2, 1) := by decide +kernel
theorem dX2_placeOf_2 : decode cX2_placeOf 2 = .ok (.iload_n 2, 1) := by decide +kernel
theorem dX2_placeOf_3 : decode cX2_placeOf 3 = .ok (.aload_n 0, 1) := by decide +kernel
theorem dX2_placeOf_4 : decode cX2_placeOf 4 = .ok (.getfield 34, 3) := by decide +kernel
theorem dX2_placeOf_7 : decode cX2_placeOf 7 = .ok (.if_icmp .ge 21, 3) := by decide +kernel
theorem dX2_placeOf_10 : decode cX2_placeOf 10 = .ok (.aload_n 0, 1) := by decide +kernel
theorem dX2_placeOf_11 : decode cX2_placeOf 11 = .ok (.getfield 9, 3) := by decide +kernel
theorem dX2_placeOf_14 : decode cX2_placeOf 14 = .ok (.iload_n 2, 1) := by decide +kernel
theorem dX2_placeOf_15 : decode cX2_placeOf 15 = .ok (.iaload, 1) := by decide +kernel
theorem dX2_placeOf_16 : decode cX2_placeOf 16 = .ok (.iload_n 1, 1) := by decide +kernel
theorem dX2_placeOf_17 : decode cX2_placeOf 17 = .ok (.if_icmp .ne 5, 3) := by decide +kernel
theorem dX2_placeOf_20 : decode cX2_placeOf 20 = .ok (.iload_n 2, 1) := by decide +kernel
theorem dX2_placeOf_21 : decode cX2_placeOf 21 = .ok (.ireturn, 1) := by decide +kernel
theorem dX2_placeOf_22 : decode cX2_placeOf 22 = .ok (.iinc 2 1, 3) := by decide +kernel
theorem dX2_placeOf_25 : decode cX2_placeOf 25 = .ok (.goto (-23), 3) := by decide +kernel
theorem dX2_placeOf_28 : decode cX2_placeOf 28 = .ok (.sipush (-1001), 3) := by decide +kernel
theorem dX2_placeOf_31 : decode cX2_placeOf 31 = .ok (.ireturn, 1) := by decide +kernel
theorem dX2_outerWish_0 : decode cX2_outerWish 0 = .ok (.aload_n 0, 1) := by decide +kernel
theorem dX2_outerWish_1 : decode cX2_outerWish 1 = .ok (.getfield 27, 3) := by decide +kernel
theorem dX2_outerWish_4 : decode cX2_outerWish 4 = .ok (.iload_n 1, 1) := by decide +kernel
theorem dX2_outerWish_5 : decode cX2_outerWish 5 = .ok (.iaload, 1) := by decide +kernel
theorem dX2_outerWish_6 : decode cX2_outerWish 6 = .ok (.iconst 2, 1) := by decide +kernel
theorem dX2_outerWish_7 : decode cX2_outerWish 7 = .ok (.aload_n 0, 1) := by decide +kernel
theorem dX2_outerWish_8 : decode cX2_outerWish 8 = .ok (.getfield 24, 3) := by decide +kernel
theorem dX2_outerWish_11 : decode cX2_outerWish 11 = .ok (.iload_n 1, 1) := by decide +kernel
theorem dX2_outerWish_12 : decode cX2_outerWish 12 = .ok (.iaload, 1) := by decide +kernel
theorem dX2_outerWish_13 : decode cX2_outerWish 13 = .ok (.imul, 1) := by decide +kernel
theorem dX2_outerWish_14 : decode cX2_outerWish 14 = .ok (.iadd, 1) := by decide +kernel
theorem dX2_outerWish_15 : decode cX2_outerWish 15 = .ok (.ireturn, 1) := by decide +kernel
theorem dX2_weight_0 : decode cX2_weight 0 = .ok (.aload_n 0, 1) := by decide +kernel
theorem dX2_weight_1 : decode cX2_weight 1 = .ok (.getfield 9, 3) := by decide +kernel
theorem dX2_weight_4 : decode cX2_weight 4 = .ok (.iload_n 1, 1) := by decide +kernel
theorem dX2_weight_5 : decode cX2_weight 5 = .ok (.iaload, 1) := by decide +kernel
theorem dX2_weight_6 : decode cX2_weight 6 = .ok (.istore_n 3, 1) := by decide +kernel
theorem dX2_weight_7 : decode cX2_weight 7 = .ok (.iload_n 2, 1) := by decide +kernel
theorem dX2_weight_8 : decode cX2_weight 8 = .ok (.ifCond .eq 15, 3) := by decide +kernel
theorem dX2_weight_11 : decode cX2_weight 11 = .ok (.aload_n 0, 1) := by decide +kernel
theorem dX2_weight_12 : decode cX2_weight 12 = .ok (.getfield 30, 3) := by decide +kernel
theorem dX2_weight_15 : decode cX2_weight 15 = .ok (.iload_n 3, 1) := by decide +kernel
theorem dX2_weight_16 : decode cX2_weight 16 = .ok (.iconst 1, 1) := by decide +kernel
theorem dX2_weight_17 : decode cX2_weight 17 = .ok (.invokevirtual 42, 3) := by decide +kernel
theorem dX2_weight_20 : decode cX2_weight 20 = .ok (.goto 19, 3) := by decide +kernel
theorem dX2_weight_23 : decode cX2_weight 23 = .ok (.aload_n 0, 1) := by decide +kernel
theorem dX2_weight_24 : decode cX2_weight 24 = .ok (.getfield 30, 3) := by decide +kernel
theorem dX2_weight_27 : decode cX2_weight 27 = .ok (.iload_n 3, 1) := by decide +kernel
theorem dX2_weight_28 : decode cX2_weight 28 = .ok (.iconst 2, 1) := by decide +kernel
theorem dX2_weight_29 : decode cX2_weight 29 = .ok (.invokevirtual 42, 3) := by decide +kernel
theorem dX2_weight_32 : decode cX2_weight 32 = .ok (.aload_n 0, 1) := by decide +kernel
theorem dX2_weight_33 : decode cX2_weight 33 = .ok (.getfield 15, 3) := by decide +kernel
theorem dX2_weight_36 : decode cX2_weight 36 = .ok (.iload_n 1, 1) := by decide +kernel
theorem dX2_weight_37 : decode cX2_weight 37 = .ok (.iaload, 1) := by decide +kernel
theorem dX2_weight_38 : decode cX2_weight 38 = .ok (.imul, 1) := by decide +kernel
theorem dX2_weight_39 : decode cX2_weight 39 = .ok (.ireturn, 1) := by decide +kernel
theorem dX2_isStiff_0 : decode cX2_isStiff 0 = .ok (.aload_n 0, 1) := by decide +kernel
theorem dX2_isStiff_1 : decode cX2_isStiff 1 = .ok (.getfield 9, 3) := by decide +kernel
theorem dX2_isStiff_4 : decode cX2_isStiff 4 = .ok (.iload_n 1, 1) := by decide +kernel
theorem dX2_isStiff_5 : decode cX2_isStiff 5 = .ok (.iaload, 1) := by decide +kernel
theorem dX2_isStiff_6 : decode cX2_isStiff 6 = .ok (.istore_n 3, 1) := by decide +kernel
theorem dX2_isStiff_7 : decode cX2_isStiff 7 = .ok (.iload_n 2, 1) := by decide +kernel
theorem dX2_isStiff_8 : decode cX2_isStiff 8 = .ok (.ifCond .eq 36, 3) := by decide +kernel
theorem dX2_isStiff_11 : decode cX2_isStiff 11 = .ok (.aload_n 0, 1) := by decide +kernel
theorem dX2_isStiff_12 : decode cX2_isStiff 12 = .ok (.getfield 30, 3) := by decide +kernel
theorem dX2_isStiff_15 : decode cX2_isStiff 15 = .ok (.iload_n 3, 1) := by decide +kernel
theorem dX2_isStiff_16 : decode cX2_isStiff 16 = .ok (.iconst 1, 1) := by decide +kernel
theorem dX2_isStiff_17 : decode cX2_isStiff 17 = .ok (.invokevirtual 42, 3) := by decide +kernel
theorem dX2_isStiff_20 : decode cX2_isStiff 20 = .ok (.ifCond .eq 18, 3) := by decide +kernel
theorem dX2_isStiff_23 : decode cX2_isStiff 23 = .ok (.aload_n 0, 1) := by decide +kernel
theorem dX2_isStiff_24 : decode cX2_isStiff 24 = .ok (.getfield 15, 3) := by decide +kernel
theorem dX2_isStiff_27 : decode cX2_isStiff 27 = .ok (.iload_n 1, 1) := by decide +kernel
theorem dX2_isStiff_28 : decode cX2_isStiff 28 = .ok (.iaload, 1) := by decide +kernel
theorem dX2_isStiff_29 : decode cX2_isStiff 29 = .ok (.aload_n 0, 1) := by decide +kernel
theorem dX2_isStiff_30 : decode cX2_isStiff 30 = .ok (.getfield 27, 3) := by decide +kernel
theorem dX2_isStiff_33 : decode cX2_isStiff 33 = .ok (.iload_n 1, 1) := by decide +kernel
theorem dX2_isStiff_34 : decode cX2_isStiff 34 = .ok (.iaload, 1) := by decide +kernel
theorem dX2_isStiff_35 : decode cX2_isStiff 35 = .ok (.if_icmp .le 7, 3) := by decide +kernel
theorem dX2_isStiff_38 : decode cX2_isStiff 38 = .ok (.iconst 1, 1) := by decide +kernel
theorem dX2_isStiff_39 : decode cX2_isStiff 39 = .ok (.goto 4, 3) := by decide +kernel
theorem dX2_isStiff_42 : decode cX2_isStiff 42 = .ok (.iconst 0, 1) := by decide +kernel
theorem dX2_isStiff_43 : decode cX2_isStiff 43 = .ok (.ireturn, 1) := by decide +kernel
theorem dX2_isStiff_44 : decode cX2_isStiff 44 = .ok (.aload_n 0, 1) := by decide +kernel
theorem dX2_isStiff_45 : decode cX2_isStiff 45 = .ok (.getfield 30, 3) := by decide +kernel
theorem dX2_isStiff_48 : decode cX2_isStiff 48 = .ok (.iload_n 3, 1) := by decide +kernel
theorem dX2_isStiff_49 : decode cX2_isStiff 49 = .ok (.iconst 2, 1) := by decide +kernel
theorem dX2_isStiff_50 : decode cX2_isStiff 50 = .ok (.invokevirtual 42, 3) := by decide +kernel
theorem dX2_isStiff_53 : decode cX2_isStiff 53 = .ok (.ifCond .eq 18, 3) := by decide +kernel
theorem dX2_isStiff_56 : decode cX2_isStiff 56 = .ok (.aload_n 0, 1) := by decide +kernel
theorem dX2_isStiff_57 : decode cX2_isStiff 57 = .ok (.getfield 15, 3) := by decide +kernel
theorem dX2_isStiff_60 : decode cX2_isStiff 60 = .ok (.iload_n 1, 1) := by decide +kernel
theorem dX2_isStiff_61 : decode cX2_isStiff 61 = .ok (.iaload, 1) := by decide +kernel
theorem dX2_isStiff_62 : decode cX2_isStiff 62 = .ok (.aload_n 0, 1) := by decide +kernel
theorem dX2_isStiff_63 : decode cX2_isStiff 63 = .ok (.getfield 27, 3) := by decide +kernel
theorem dX2_isStiff_66 : decode cX2_isStiff 66 = .ok (.iload_n 1, 1) := by decide +kernel
theorem dX2_isStiff_67 : decode cX2_isStiff 67 = .ok (.iaload, 1) := by decide +kernel
theorem dX2_isStiff_68 : decode cX2_isStiff 68 = .ok (.if_icmp .ge 7, 3) := by decide +kernel
theorem dX2_isStiff_71 : decode cX2_isStiff 71 = .ok (.iconst 1, 1) := by decide +kernel
theorem dX2_isStiff_72 : decode cX2_isStiff 72 = .ok (.goto 4, 3) := by decide +kernel
theorem dX2_isStiff_75 : decode cX2_isStiff 75 = .ok (.iconst 0, 1) := by decide +kernel
theorem dX2_isStiff_76 : decode cX2_isStiff 76 = .ok (.ireturn, 1) := by decide +kernel
theorem dX3_init_0 : decode cX3_init 0 = .ok (.aload_n 0, 1) := by decide +kernel
theorem dX3_init_1 : decode cX3_init 1 = .ok (.invokespecial 3, 3) := by decide +kernel
theorem dX3_init_4 : decode cX3_init 4 = .ok (.aload_n 0, 1) := by decide +kernel
theorem dX3_init_5 : decode cX3_init 5 = .ok (.bipush 16, 2) := by decide +kernel
theorem dX3_init_7 : decode cX3_init 7 = .ok (.newarray .int, 2) := by decide +kernel
theorem dX3_init_9 : decode cX3_init 9 = .ok (.putfield 9, 3) := by decide +kernel
theorem dX3_init_12 : decode cX3_init 12 = .ok (.aload_n 0, 1) := by decide +kernel
theorem dX3_init_13 : decode cX3_init 13 = .ok (.bipush 16, 2) := by decide +kernel
theorem dX3_init_15 : decode cX3_init 15 = .ok (.newarray .int, 2) := by decide +kernel
theorem dX3_init_17 : decode cX3_init 17 = .ok (.putfield 15, 3) := by decide +kernel
theorem dX3_init_20 : decode cX3_init 20 = .ok (.aload_n 0, 1) := by decide +kernel
theorem dX3_init_21 : decode cX3_init 21 = .ok (.bipush 16, 2) := by decide +kernel
theorem dX3_init_23 : decode cX3_init 23 = .ok (.newarray .int, 2) := by decide +kernel
theorem dX3_init_25 : decode cX3_init 25 = .ok (.putfield 18, 3) := by decide +kernel
theorem dX3_init_28 : decode cX3_init 28 = .ok (.aload_n 0, 1) := by decide +kernel
theorem dX3_init_29 : decode cX3_init 29 = .ok (.bipush 16, 2) := by decide +kernel
theorem dX3_init_31 : decode cX3_init 31 = .ok (.newarray .int, 2) := by decide +kernel
theorem dX3_init_33 : decode cX3_init 33 = .ok (.putfield 21, 3) := by decide +kernel
theorem dX3_init_36 : decode cX3_init 36 = .ok (.aload_n 0, 1) := by decide +kernel
theorem dX3_init_37 : decode cX3_init 37 = .ok (.aload_n 1, 1) := by decide +kernel
theorem dX3_init_38 : decode cX3_init 38 = .ok (.putfield 24, 3) := by decide +kernel
theorem dX3_init_41 : decode cX3_init 41 = .ok (.aload_n 0, 1) := by decide +kernel
theorem dX3_init_42 : decode cX3_init 42 = .ok (.aload_n 2, 1) := by decide +kernel
theorem dX3_init_43 : decode cX3_init 43 = .ok (.putfield 28, 3) := by decide +kernel
theorem dX3_init_46 : decode cX3_init 46 = .ok (.aload_n 0, 1) := by decide +kernel
theorem dX3_init_47 : decode cX3_init 47 = .ok (.aload_n 3, 1) := by decide +kernel
theorem dX3_init_48 : decode cX3_init 48 = .ok (.putfield 32, 3) := by decide +kernel
theorem dX3_init_51 : decode cX3_init 51 = .ok (.return_, 1) := by decide +kernel
theorem dX3_find_0 : decode cX3_find 0 = .ok (.aload_n 0, 1) := by decide +kernel
theorem dX3_find_1 : decode cX3_find 1 = .ok (.iconst 0, 1) := by decide +kernel
theorem dX3_find_2 : decode cX3_find 2 = .ok (.putfield 36, 3) := by decide +kernel
theorem dX3_find_5 : decode cX3_find 5 = .ok (.iconst 0, 1) := by decide +kernel
theorem dX3_find_6 : decode cX3_find 6 = .ok (.istore_n 1, 1) := by decide +kernel
theorem dX3_find_7 : decode cX3_find 7 = .ok (.iload_n 1, 1) := by decide +kernel
theorem dX3_find_8 : decode cX3_find 8 = .ok (.aload_n 0, 1) := by decide +kernel
theorem dX3_find_9 : decode cX3_find 9 = .ok (.getfield 32, 3) := by decide +kernel
theorem dX3_find_12 : decode cX3_find 12 = .ok (.getfield 40, 3) := by decide +kernel
theorem dX3_find_15 : decode cX3_find 15 = .ok (.if_icmp .ge 54, 3) := by decide +kernel
theorem dX3_find_18 : decode cX3_find 18 = .ok (.aload_n 0, 1) := by decide +kernel
theorem dX3_find_19 : decode cX3_find 19 = .ok (.iload_n 1, 1) := by decide +kernel
theorem dX3_find_20 : decode cX3_find 20 = .ok (.invokevirtual 45, 3) := by decide +kernel
theorem dX3_find_23 : decode cX3_find 23 = .ok (.iload_n 1, 1) := by decide +kernel
theorem dX3_find_24 : decode cX3_find 24 = .ok (.ifCond .ne 7, 3) := by decide +kernel
theorem dX3_find_27 : decode cX3_find 27 = .ok (.iconst 0, 1) := by decide +kernel
theorem dX3_find_28 : decode cX3_find 28 = .ok (.goto 16, 3) := by decide +kernel
theorem dX3_find_31 : decode cX3_find 31 = .ok (.aload_n 0, 1) := by decide +kernel
theorem dX3_find_32 : decode cX3_find 32 = .ok (.getfield 36, 3) := by decide +kernel
theorem dX3_find_35 : decode cX3_find 35 = .ok (.aload_n 0, 1) := by decide +kernel
theorem dX3_find_36 : decode cX3_find 36 = .ok (.getfield 24, 3) := by decide +kernel
theorem dX3_find_39 : decode cX3_find 39 = .ok (.iconst 2, 1) := by decide +kernel
theorem dX3_find_40 : decode cX3_find 40 = .ok (.invokevirtual 49, 3) := by decide +kernel
theorem dX3_find_43 : decode cX3_find 43 = .ok (.iadd, 1) := by decide +kernel
theorem dX3_find_44 : decode cX3_find 44 = .ok (.istore_n 2, 1) := by decide +kernel
theorem dX3_find_45 : decode cX3_find 45 = .ok (.aload_n 0, 1) := by decide +kernel
theorem dX3_find_46 : decode cX3_find 46 = .ok (.iload_n 1, 1) := by decide +kernel
theorem dX3_find_47 : decode cX3_find 47 = .ok (.iload_n 2, 1) := by decide +kernel
theorem dX3_find_48 : decode cX3_find 48 = .ok (.invokevirtual 54, 3) := by decide +kernel
theorem dX3_find_51 : decode cX3_find 51 = .ok (.aload_n 0, 1) := by decide +kernel
theorem dX3_find_52 : decode cX3_find 52 = .ok (.iload_n 2, 1) := by decide +kernel
theorem dX3_find_53 : decode cX3_find 53 = .ok (.aload_n 0, 1) := by decide +kernel
theorem dX3_find_54 : decode cX3_find 54 = .ok (.getfield 21, 3) := by decide +kernel
theorem dX3_find_57 : decode cX3_find 57 = .ok (.iload_n 1, 1) := by decide +kernel
theorem dX3_find_58 : decode cX3_find 58 = .ok (.iaload, 1) := by decide +kernel
theorem dX3_find_59 : decode cX3_find 59 = .ok (.iadd, 1) := by decide +kernel
theorem dX3_find_60 : decode cX3_find 60 = .ok (.putfield 36, 3) := by decide +kernel
theorem dX3_find_63 : decode cX3_find 63 = .ok (.iinc 1 1, 3) := by decide +kernel
theorem dX3_find_66 : decode cX3_find 66 = .ok (.goto (-59), 3) := by decide +kernel
theorem dX3_find_69 : decode cX3_find 69 = .ok (.return_, 1) := by decide +kernel
theorem dX3_end_0 : decode cX3_end 0 = .ok (.iload_n 1, 1) := by decide +kernel
theorem dX3_end_1 : decode cX3_end 1 = .ok (.ifCond .lt 28, 3) := by decide +kernel
theorem dX3_end_4 : decode cX3_end 4 = .ok (.iload_n 1, 1) := by decide +kernel
theorem dX3_end_5 : decode cX3_end 5 = .ok (.bipush 16, 2) := by decide +kernel
theorem dX3_end_7 : decode cX3_end 7 = .ok (.if_icmp .ge 22, 3) := by decide +kernel
theorem dX3_end_10 : decode cX3_end 10 = .ok (.aload_n 0, 1) := by decide +kernel
theorem dX3_end_11 : decode cX3_end 11 = .ok (.getfield 9, 3) := by decide +kernel
theorem dX3_end_14 : decode cX3_end 14 = .ok (.iload_n 1, 1) := by decide +kernel
theorem dX3_end_15 : decode cX3_end 15 = .ok (.iaload, 1) := by decide +kernel
theorem dX3_end_16 : decode cX3_end 16 = .ok (.aload_n 0, 1) := by decide +kernel
theorem dX3_end_17 : decode cX3_end 17 = .ok (.getfield 32, 3) := by decide +kernel
theorem dX3_end_20 : decode cX3_end 20 = .ok (.getfield 58, 3) := by decide +kernel
theorem dX3_end_23 : decode cX3_end 23 = .ok (.iload_n 1, 1) := by decide +kernel
theorem dX3_end_24 : decode cX3_end 24 = .ok (.iaload, 1) := by decide +kernel
theorem dX3_end_25 : decode cX3_end 25 = .ok (.iadd, 1) := by decide +kernel
theorem dX3_end_26 : decode cX3_end 26 = .ok (.goto 6, 3) := by decide +kernel
theorem dX3_end_29 : decode cX3_end 29 = .ok (.sipush (-1001), 3) := by decide +kernel
theorem dX3_end_32 : decode cX3_end 32 = .ok (.ireturn, 1) := by decide +kernel
theorem dX3_setAlong_0 : decode cX3_setAlong 0 = .ok (.aload_n 0, 1) := by decide +kernel
theorem dX3_setAlong_1 : decode cX3_setAlong 1 = .ok (.getfield 32, 3) := by decide +kernel
theorem dX3_setAlong_4 : decode cX3_setAlong 4 = .ok (.getfield 76, 3) := by decide +kernel
theorem dX3_setAlong_7 : decode cX3_setAlong 7 = .ok (.iload_n 1, 1) := by decide +kernel
theorem dX3_setAlong_8 : decode cX3_setAlong 8 = .ok (.iaload, 1) := by decide +kernel
theorem dX3_setAlong_9 : decode cX3_setAlong 9 = .ok (.istore_n 2, 1) := by decide +kernel
theorem dX3_setAlong_10 : decode cX3_setAlong 10 = .ok (.aload_n 0, 1) := by decide +kernel
theorem dX3_setAlong_11 : decode cX3_setAlong 11 = .ok (.getfield 32, 3) := by decide +kernel
theorem dX3_setAlong_14 : decode cX3_setAlong 14 = .ok (.iload_n 1, 1) := by decide +kernel
theorem dX3_setAlong_15 : decode cX3_setAlong 15 = .ok (.invokevirtual 79, 3) := by decide +kernel
theorem dX3_setAlong_18 : decode cX3_setAlong 18 = .ok (.iload_n 2, 1) := by decide +kernel
theorem dX3_setAlong_19 : decode cX3_setAlong 19 = .ok (.isub, 1) := by decide +kernel
theorem dX3_setAlong_20 : decode cX3_setAlong 20 = .ok (.istore_n 3, 1) := by decide +kernel
theorem dX3_setAlong_21 : decode cX3_setAlong 21 = .ok (.aload_n 0, 1) := by decide +kernel
theorem dX3_setAlong_22 : decode cX3_setAlong 22 = .ok (.getfield 24, 3) := by decide +kernel
theorem dX3_setAlong_25 : decode cX3_setAlong 25 = .ok (.bipush 6, 2) := by decide +kernel
theorem dX3_setAlong_27 : decode cX3_setAlong 27 = .ok (.invokevirtual 49, 3) := by decide +kernel
theorem dX3_setAlong_30 : decode cX3_setAlong 30 = .ok (.iconst 1, 1) := by decide +kernel
theorem dX3_setAlong_31 : decode cX3_setAlong 31 = .ok (.if_icmp .ne 7, 3) := by decide +kernel
theorem dX3_setAlong_34 : decode cX3_setAlong 34 = .ok (.iconst 1, 1) := by decide +kernel
theorem dX3_setAlong_35 : decode cX3_setAlong 35 = .ok (.goto 4, 3) := by decide +kernel
theorem dX3_setAlong_38 : decode cX3_setAlong 38 = .ok (.iconst 0, 1) := by decide +kernel
theorem dX3_setAlong_39 : decode cX3_setAlong 39 = .ok (.istore 4, 2) := by decide +kernel
theorem dX3_setAlong_41 : decode cX3_setAlong 41 = .ok (.iconst 0, 1) := by decide +kernel
theorem dX3_setAlong_42 : decode cX3_setAlong 42 = .ok (.istore 5, 2) := by decide +kernel
theorem dX3_setAlong_44 : decode cX3_setAlong 44 = .ok (.iconst 0, 1) := by decide +kernel
theorem dX3_setAlong_45 : decode cX3_setAlong 45 = .ok (.istore 6, 2) := by decide +kernel
theorem dX3_setAlong_47 : decode cX3_setAlong 47 = .ok (.iload 6, 2) := by decide +kernel
theorem dX3_setAlong_49 : decode cX3_setAlong 49 = .ok (.iload_n 3, 1) := by decide +kernel
theorem dX3_setAlong_50 : decode cX3_setAlong 50 = .ok (.if_icmp .ge 119, 3) := by decide +kernel
theorem dX3_setAlong_53 : decode cX3_setAlong 53 = .ok (.iload_n 2, 1) := by decide +kernel
theorem dX3_setAlong_54 : decode cX3_setAlong 54 = .ok (.iload 6, 2) := by decide +kernel
theorem dX3_setAlong_56 : decode cX3_setAlong 56 = .ok (.iadd, 1) := by decide +kernel
theorem dX3_setAlong_57 : decode cX3_setAlong 57 = .ok (.istore 7, 2) := by decide +kernel
theorem dX3_setAlong_59 : decode cX3_setAlong 59 = .ok (.iload 5, 2) := by decide +kernel
theorem dX3_setAlong_61 : decode cX3_setAlong 61 = .ok (.aload_n 0, 1) := by decide +kernel
theorem dX3_setAlong_62 : decode cX3_setAlong 62 = .ok (.getfield 28, 3) := by decide +kernel
theorem dX3_setAlong_65 : decode cX3_setAlong 65 = .ok (.getfield 80, 3) := by decide +kernel
theorem dX3_setAlong_68 : decode cX3_setAlong 68 = .ok (.iload 7, 2) := by decide +kernel
theorem dX3_setAlong_70 : decode cX3_setAlong 70 = .ok (.iaload, 1) := by decide +kernel
theorem dX3_setAlong_71 : decode cX3_setAlong 71 = .ok (.iadd, 1) := by decide +kernel
theorem dX3_setAlong_72 : decode cX3_setAlong 72 = .ok (.aload_n 0, 1) := by decide +kernel
theorem dX3_setAlong_73 : decode cX3_setAlong 73 = .ok (.aload_n 0, 1) := by decide +kernel
theorem dX3_setAlong_74 : decode cX3_setAlong 74 = .ok (.getfield 32, 3) := by decide +kernel
theorem dX3_setAlong_77 : decode cX3_setAlong 77 = .ok (.getfield 83, 3) := by decide +kernel
theorem dX3_setAlong_80 : decode cX3_setAlong 80 = .ok (.iload_n 1, 1) := by decide +kernel
theorem dX3_setAlong_81 : decode cX3_setAlong 81 = .ok (.iaload, 1) := by decide +kernel
theorem dX3_setAlong_82 : decode cX3_setAlong 82 = .ok (.iload 6, 2) := by decide +kernel
theorem dX3_setAlong_84 : decode cX3_setAlong 84 = .ok (.iload_n 3, 1) := by decide +kernel
theorem dX3_setAlong_85 : decode cX3_setAlong 85 = .ok (.invokevirtual 86, 3) := by decide +kernel
theorem dX3_setAlong_88 : decode cX3_setAlong 88 = .ok (.iadd, 1) := by decide +kernel
theorem dX3_setAlong_89 : decode cX3_setAlong 89 = .ok (.istore 8, 2) := by decide +kernel
theorem dX3_setAlong_91 : decode cX3_setAlong 91 = .ok (.aload_n 0, 1) := by decide +kernel
theorem dX3_setAlong_92 : decode cX3_setAlong 92 = .ok (.getfield 32, 3) := by decide +kernel
theorem dX3_setAlong_95 : decode cX3_setAlong 95 = .ok (.getfield 58, 3) := by decide +kernel
theorem dX3_setAlong_98 : decode cX3_setAlong 98 = .ok (.iload 7, 2) := by decide +kernel
theorem dX3_setAlong_100 : decode cX3_setAlong 100 = .ok (.iaload, 1) := by decide +kernel
theorem dX3_setAlong_101 : decode cX3_setAlong 101 = .ok (.istore 9, 2) := by decide +kernel
theorem dX3_setAlong_103 : decode cX3_setAlong 103 = .ok (.aload_n 0, 1) := by decide +kernel
theorem dX3_setAlong_104 : decode cX3_setAlong 104 = .ok (.getfield 9, 3) := by decide +kernel
theorem dX3_setAlong_107 : decode cX3_setAlong 107 = .ok (.iload 7, 2) := by decide +kernel
theorem dX3_setAlong_109 : decode cX3_setAlong 109 = .ok (.iload 4, 2) := by decide +kernel
theorem dX3_setAlong_111 : decode cX3_setAlong 111 = .ok (.ifCond .eq 20, 3) := by decide +kernel
theorem dX3_setAlong_114 : decode cX3_setAlong 114 = .ok (.aload_n 0, 1) := by decide +kernel
theorem dX3_setAlong_115 : decode cX3_setAlong 115 = .ok (.getfield 24, 3) := by decide +kernel
theorem dX3_setAlong_118 : decode cX3_setAlong 118 = .ok (.iconst 0, 1) := by decide +kernel
theorem dX3_setAlong_119 : decode cX3_setAlong 119 = .ok (.invokevirtual 49, 3) := by decide +kernel
theorem dX3_setAlong_122 : decode cX3_setAlong 122 = .ok (.iload 8, 2) := by decide +kernel
theorem dX3_setAlong_124 : decode cX3_setAlong 124 = .ok (.isub, 1) := by decide +kernel
theorem dX3_setAlong_125 : decode cX3_setAlong 125 = .ok (.iload 9, 2) := by decide +kernel
theorem dX3_setAlong_127 : decode cX3_setAlong 127 = .ok (.isub, 1) := by decide +kernel
theorem dX3_setAlong_128 : decode cX3_setAlong 128 = .ok (.goto 5, 3) := by decide +kernel
theorem dX3_setAlong_131 : decode cX3_setAlong 131 = .ok (.iload 8, 2) := by decide +kernel
theorem dX3_setAlong_133 : decode cX3_setAlong 133 = .ok (.iastore, 1) := by decide +kernel
theorem dX3_setAlong_134 : decode cX3_setAlong 134 = .ok (.iload 5, 2) := by decide +kernel
theorem dX3_setAlong_136 : decode cX3_setAlong 136 = .ok (.iload 9, 2) := by decide +kernel
theorem dX3_setAlong_138 : decode cX3_setAlong 138 = .ok (.iconst 2, 1) := by decide +kernel
theorem dX3_setAlong_139 : decode cX3_setAlong 139 = .ok (.aload_n 0, 1) := by decide +kernel
theorem dX3_setAlong_140 : decode cX3_setAlong 140 = .ok (.getfield 28, 3) := by decide +kernel
theorem dX3_setAlong_143 : decode cX3_setAlong 143 = .ok (.getfield 80, 3) := by decide +kernel
theorem dX3_setAlong_146 : decode cX3_setAlong 146 = .ok (.iload 7, 2) := by decide +kernel
theorem dX3_setAlong_148 : decode cX3_setAlong 148 = .ok (.iaload, 1) := by decide +kernel
theorem dX3_setAlong_149 : decode cX3_setAlong 149 = .ok (.imul, 1) := by decide +kernel
theorem dX3_setAlong_150 : decode cX3_setAlong 150 = .ok (.iadd, 1) := by decide +kernel
theorem dX3_setAlong_151 : decode cX3_setAlong 151 = .ok (.aload_n 0, 1) := by decide +kernel
theorem dX3_setAlong_152 : decode cX3_setAlong 152 = .ok (.getfield 24, 3) := by decide +kernel
theorem dX3_setAlong_155 : decode cX3_setAlong 155 = .ok (.iconst 1, 1) := by decide +kernel
theorem dX3_setAlong_156 : decode cX3_setAlong 156 = .ok (.invokevirtual 49, 3) := by decide +kernel
theorem dX3_setAlong_159 : decode cX3_setAlong 159 = .ok (.iadd, 1) := by decide +kernel
theorem dX3_setAlong_160 : decode cX3_setAlong 160 = .ok (.iadd, 1) := by decide +kernel
theorem dX3_setAlong_161 : decode cX3_setAlong 161 = .ok (.istore 5, 2) := by decide +kernel
theorem dX3_setAlong_163 : decode cX3_setAlong 163 = .ok (.iinc 6 1, 3) := by decide +kernel
theorem dX3_setAlong_166 : decode cX3_setAlong 166 = .ok (.goto (-119), 3) := by decide +kernel
theorem dX3_setAlong_169 : decode cX3_setAlong 169 = .ok (.return_, 1) := by decide +kernel
theorem dX3_shift_0 : decode cX3_shift 0 = .ok (.aload_n 0, 1) := by decide +kernel
theorem dX3_shift_1 : decode cX3_shift 1 = .ok (.getfield 24, 3) := by decide +kernel
theorem dX3_shift_4 : decode cX3_shift 4 = .ok (.iconst 4, 1) := by decide +kernel
theorem dX3_shift_5 : decode cX3_shift 5 = .ok (.invokevirtual 49, 3) := by decide +kernel
theorem dX3_shift_8 : decode cX3_shift 8 = .ok (.istore 4, 2) := by decide +kernel
theorem dX3_shift_10 : decode cX3_shift 10 = .ok (.iload 4, 2) := by decide +kernel
theorem dX3_shift_12 : decode cX3_shift 12 = .ok (.iconst 3, 1) := by decide +kernel
theorem dX3_shift_13 : decode cX3_shift 13 = .ok (.if_icmp .lt 25, 3) := by decide +kernel
theorem dX3_shift_16 : decode cX3_shift 16 = .ok (.iload_n 1, 1) := by decide +kernel
theorem dX3_shift_17 : decode cX3_shift 17 = .ok (.ifCond .lt 8, 3) := by decide +kernel
theorem dX3_shift_20 : decode cX3_shift 20 = .ok (.iload_n 3, 1) := by decide +kernel
theorem dX3_shift_21 : decode cX3_shift 21 = .ok (.iconst 1, 1) := by decide +kernel
theorem dX3_shift_22 : decode cX3_shift 22 = .ok (.if_icmp .gt 16, 3) := by decide +kernel
theorem dX3_shift_25 : decode cX3_shift 25 = .ok (.iload 4, 2) := by decide +kernel
theorem dX3_shift_27 : decode cX3_shift 27 = .ok (.iconst 3, 1) := by decide +kernel
theorem dX3_shift_28 : decode cX3_shift 28 = .ok (.if_icmp .ne 7, 3) := by decide +kernel
theorem dX3_shift_31 : decode cX3_shift 31 = .ok (.iconst 0, 1) := by decide +kernel
theorem dX3_shift_32 : decode cX3_shift 32 = .ok (.goto 4, 3) := by decide +kernel
theorem dX3_shift_35 : decode cX3_shift 35 = .ok (.iconst 2, 1) := by decide +kernel
theorem dX3_shift_36 : decode cX3_shift 36 = .ok (.istore 4, 2) := by decide +kernel
theorem dX3_shift_38 : decode cX3_shift 38 = .ok (.iload 4, 2) := by decide +kernel
theorem dX3_shift_40 : decode cX3_shift 40 = .ok (.tableswitch 105 1 5 #[36, 38, 44, 63, 85], 36) := by decide +kernel
theorem dX3_shift_76 : decode cX3_shift 76 = .ok (.iload_n 1, 1) := by decide +kernel
theorem dX3_shift_77 : decode cX3_shift 77 = .ok (.ireturn, 1) := by decide +kernel
theorem dX3_shift_78 : decode cX3_shift 78 = .ok (.iload_n 1, 1) := by decide +kernel
theorem dX3_shift_79 : decode cX3_shift 79 = .ok (.iconst 2, 1) := by decide +kernel
theorem dX3_shift_80 : decode cX3_shift 80 = .ok (.invokestatic 90, 3) := by decide +kernel
theorem dX3_shift_83 : decode cX3_shift 83 = .ok (.ireturn, 1) := by decide +kernel
theorem dX3_shift_84 : decode cX3_shift 84 = .ok (.iload_n 3, 1) := by decide +kernel
theorem dX3_shift_85 : decode cX3_shift 85 = .ok (.iconst 1, 1) := by decide +kernel
theorem dX3_shift_86 : decode cX3_shift 86 = .ok (.if_icmp .le 15, 3) := by decide +kernel
theorem dX3_shift_89 : decode cX3_shift 89 = .ok (.iload_n 1, 1) := by decide +kernel
theorem dX3_shift_90 : decode cX3_shift 90 = .ok (.iload_n 2, 1) := by decide +kernel
theorem dX3_shift_91 : decode cX3_shift 91 = .ok (.imul, 1) := by decide +kernel
theorem dX3_shift_92 : decode cX3_shift 92 = .ok (.iload_n 3, 1) := by decide +kernel
theorem dX3_shift_93 : decode cX3_shift 93 = .ok (.iconst 1, 1) := by decide +kernel
theorem dX3_shift_94 : decode cX3_shift 94 = .ok (.isub, 1) := by decide +kernel
theorem dX3_shift_95 : decode cX3_shift 95 = .ok (.invokestatic 90, 3) := by decide +kernel
theorem dX3_shift_98 : decode cX3_shift 98 = .ok (.goto 4, 3) := by decide +kernel
theorem dX3_shift_101 : decode cX3_shift 101 = .ok (.iconst 0, 1) := by decide +kernel
theorem dX3_shift_102 : decode cX3_shift 102 = .ok (.ireturn, 1) := by decide +kernel
theorem dX3_shift_103 : decode cX3_shift 103 = .ok (.iload_n 3, 1) := by decide +kernel
theorem dX3_shift_104 : decode cX3_shift 104 = .ok (.ifCond .le 19, 3) := by decide +kernel
theorem dX3_shift_107 : decode cX3_shift 107 = .ok (.iload_n 1, 1) := by decide +kernel
theorem dX3_shift_108 : decode cX3_shift 108 = .ok (.iconst 2, 1) := by decide +kernel
theorem dX3_shift_109 : decode cX3_shift 109 = .ok (.iload_n 2, 1) := by decide +kernel
theorem dX3_shift_110 : decode cX3_shift 110 = .ok (.imul, 1) := by decide +kernel
theorem dX3_shift_111 : decode cX3_shift 111 = .ok (.iconst 1, 1) := by decide +kernel
theorem dX3_shift_112 : decode cX3_shift 112 = .ok (.iadd, 1) := by decide +kernel
theorem dX3_shift_113 : decode cX3_shift 113 = .ok (.imul, 1) := by decide +kernel
theorem dX3_shift_114 : decode cX3_shift 114 = .ok (.iconst 2, 1) := by decide +kernel
theorem dX3_shift_115 : decode cX3_shift 115 = .ok (.iload_n 3, 1) := by decide +kernel
theorem dX3_shift_116 : decode cX3_shift 116 = .ok (.imul, 1) := by decide +kernel
theorem dX3_shift_117 : decode cX3_shift 117 = .ok (.invokestatic 90, 3) := by decide +kernel
theorem dX3_shift_120 : decode cX3_shift 120 = .ok (.goto 4, 3) := by decide +kernel
theorem dX3_shift_123 : decode cX3_shift 123 = .ok (.iconst 0, 1) := by decide +kernel
theorem dX3_shift_124 : decode cX3_shift 124 = .ok (.ireturn, 1) := by decide +kernel
theorem dX3_shift_125 : decode cX3_shift 125 = .ok (.iload_n 3, 1) := by decide +kernel
theorem dX3_shift_126 : decode cX3_shift 126 = .ok (.ifCond .le 17, 3) := by decide +kernel
theorem dX3_shift_129 : decode cX3_shift 129 = .ok (.iload_n 1, 1) := by decide +kernel
theorem dX3_shift_130 : decode cX3_shift 130 = .ok (.iload_n 2, 1) := by decide +kernel
theorem dX3_shift_131 : decode cX3_shift 131 = .ok (.iconst 1, 1) := by decide +kernel
theorem dX3_shift_132 : decode cX3_shift 132 = .ok (.iadd, 1) := by decide +kernel
theorem dX3_shift_133 : decode cX3_shift 133 = .ok (.imul, 1) := by decide +kernel
theorem dX3_shift_134 : decode cX3_shift 134 = .ok (.iload_n 3, 1) := by decide +kernel
theorem dX3_shift_135 : decode cX3_shift 135 = .ok (.iconst 1, 1) := by decide +kernel
theorem dX3_shift_136 : decode cX3_shift 136 = .ok (.iadd, 1) := by decide +kernel
theorem dX3_shift_137 : decode cX3_shift 137 = .ok (.invokestatic 90, 3) := by decide +kernel
theorem dX3_shift_140 : decode cX3_shift 140 = .ok (.goto 4, 3) := by decide +kernel
theorem dX3_shift_143 : decode cX3_shift 143 = .ok (.iconst 0, 1) := by decide +kernel
theorem dX3_shift_144 : decode cX3_shift 144 = .ok (.ireturn, 1) := by decide +kernel
theorem dX3_shift_145 : decode cX3_shift 145 = .ok (.iconst 0, 1) := by decide +kernel
theorem dX3_shift_146 : decode cX3_shift 146 = .ok (.ireturn, 1) := by decide +kernel
theorem dX3_setAcross_0 : decode cX3_setAcross 0 = .ok (.aload_n 0, 1) := by decide +kernel
theorem dX3_setAcross_1 : decode cX3_setAcross 1 = .ok (.getfield 32, 3) := by decide +kernel
theorem dX3_setAcross_4 : decode cX3_setAcross 4 = .ok (.getfield 76, 3) := by decide +kernel
theorem dX3_setAcross_7 : decode cX3_setAcross 7 = .ok (.iload_n 1, 1) := by decide +kernel
theorem dX3_setAcross_8 : decode cX3_setAcross 8 = .ok (.iaload, 1) := by decide +kernel
theorem dX3_setAcross_9 : decode cX3_setAcross 9 = .ok (.istore_n 3, 1) := by decide +kernel
theorem dX3_setAcross_10 : decode cX3_setAcross 10 = .ok (.aload_n 0, 1) := by decide +kernel
theorem dX3_setAcross_11 : decode cX3_setAcross 11 = .ok (.getfield 32, 3) := by decide +kernel
theorem dX3_setAcross_14 : decode cX3_setAcross 14 = .ok (.iload_n 1, 1) := by decide +kernel
theorem dX3_setAcross_15 : decode cX3_setAcross 15 = .ok (.invokevirtual 79, 3) := by decide +kernel
theorem dX3_setAcross_18 : decode cX3_setAcross 18 = .ok (.istore 4, 2) := by decide +kernel
theorem dX3_setAcross_20 : decode cX3_setAcross 20 = .ok (.iconst 0, 1) := by decide +kernel
theorem dX3_setAcross_21 : decode cX3_setAcross 21 = .ok (.istore 5, 2) := by decide +kernel
theorem dX3_setAcross_23 : decode cX3_setAcross 23 = .ok (.bipush (-49), 2) := by decide +kernel
theorem dX3_setAcross_25 : decode cX3_setAcross 25 = .ok (.istore 6, 2) := by decide +kernel
theorem dX3_setAcross_27 : decode cX3_setAcross 27 = .ok (.iconst 0, 1) := by decide +kernel
theorem dX3_setAcross_28 : decode cX3_setAcross 28 = .ok (.istore 7, 2) := by decide +kernel
theorem dX3_setAcross_30 : decode cX3_setAcross 30 = .ok (.iload_n 3, 1) := by decide +kernel
theorem dX3_setAcross_31 : decode cX3_setAcross 31 = .ok (.istore 8, 2) := by decide +kernel
theorem dX3_setAcross_33 : decode cX3_setAcross 33 = .ok (.iload 8, 2) := by decide +kernel
theorem dX3_setAcross_35 : decode cX3_setAcross 35 = .ok (.iload 4, 2) := by decide +kernel
theorem dX3_setAcross_37 : decode cX3_setAcross 37 = .ok (.if_icmp .ge 86, 3) := by decide +kernel
theorem dX3_setAcross_40 : decode cX3_setAcross 40 = .ok (.aload_n 0, 1) := by decide +kernel
theorem dX3_setAcross_41 : decode cX3_setAcross 41 = .ok (.getfield 28, 3) := by decide +kernel
theorem dX3_setAcross_44 : decode cX3_setAcross 44 = .ok (.getfield 66, 3) := by decide +kernel
theorem dX3_setAcross_47 : decode cX3_setAcross 47 = .ok (.iload 8, 2) := by decide +kernel
theorem dX3_setAcross_49 : decode cX3_setAcross 49 = .ok (.iaload, 1) := by decide +kernel
theorem dX3_setAcross_50 : decode cX3_setAcross 50 = .ok (.istore 9, 2) := by decide +kernel
theorem dX3_setAcross_52 : decode cX3_setAcross 52 = .ok (.iload 5, 2) := by decide +kernel
theorem dX3_setAcross_54 : decode cX3_setAcross 54 = .ok (.aload_n 0, 1) := by decide +kernel
theorem dX3_setAcross_55 : decode cX3_setAcross 55 = .ok (.getfield 24, 3) := by decide +kernel
theorem dX3_setAcross_58 : decode cX3_setAcross 58 = .ok (.iload 9, 2) := by decide +kernel
theorem dX3_setAcross_60 : decode cX3_setAcross 60 = .ok (.bipush 7, 2) := by decide +kernel
theorem dX3_setAcross_62 : decode cX3_setAcross 62 = .ok (.invokevirtual 69, 3) := by decide +kernel
theorem dX3_setAcross_65 : decode cX3_setAcross 65 = .ok (.invokestatic 95, 3) := by decide +kernel
theorem dX3_setAcross_68 : decode cX3_setAcross 68 = .ok (.istore 5, 2) := by decide +kernel
theorem dX3_setAcross_70 : decode cX3_setAcross 70 = .ok (.aload_n 0, 1) := by decide +kernel
theorem dX3_setAcross_71 : decode cX3_setAcross 71 = .ok (.getfield 24, 3) := by decide +kernel
theorem dX3_setAcross_74 : decode cX3_setAcross 74 = .ok (.iload 9, 2) := by decide +kernel
theorem dX3_setAcross_76 : decode cX3_setAcross 76 = .ok (.invokevirtual 98, 3) := by decide +kernel
theorem dX3_setAcross_79 : decode cX3_setAcross 79 = .ok (.iconst 3, 1) := by decide +kernel
theorem dX3_setAcross_80 : decode cX3_setAcross 80 = .ok (.if_icmp .ne 37, 3) := by decide +kernel
theorem dX3_setAcross_83 : decode cX3_setAcross 83 = .ok (.iload 6, 2) := by decide +kernel
theorem dX3_setAcross_85 : decode cX3_setAcross 85 = .ok (.aload_n 0, 1) := by decide +kernel
theorem dX3_setAcross_86 : decode cX3_setAcross 86 = .ok (.getfield 24, 3) := by decide +kernel
theorem dX3_setAcross_89 : decode cX3_setAcross 89 = .ok (.iload 9, 2) := by decide +kernel
theorem dX3_setAcross_91 : decode cX3_setAcross 91 = .ok (.invokevirtual 101, 3) := by decide +kernel
theorem dX3_setAcross_94 : decode cX3_setAcross 94 = .ok (.invokestatic 95, 3) := by decide +kernel
theorem dX3_setAcross_97 : decode cX3_setAcross 97 = .ok (.istore 6, 2) := by decide +kernel
theorem dX3_setAcross_99 : decode cX3_setAcross 99 = .ok (.iload 7, 2) := by decide +kernel
theorem dX3_setAcross_101 : decode cX3_setAcross 101 = .ok (.aload_n 0, 1) := by decide +kernel
theorem dX3_setAcross_102 : decode cX3_setAcross 102 = .ok (.getfield 24, 3) := by decide +kernel
theorem dX3_setAcross_105 : decode cX3_setAcross 105 = .ok (.iload 9, 2) := by decide +kernel
theorem dX3_setAcross_107 : decode cX3_setAcross 107 = .ok (.bipush 8, 2) := by decide +kernel
theorem dX3_setAcross_109 : decode cX3_setAcross 109 = .ok (.invokevirtual 69, 3) := by decide +kernel
theorem dX3_setAcross_112 : decode cX3_setAcross 112 = .ok (.invokestatic 95, 3) := by decide +kernel
theorem dX3_setAcross_115 : decode cX3_setAcross 115 = .ok (.istore 7, 2) := by decide +kernel
theorem dX3_setAcross_117 : decode cX3_setAcross 117 = .ok (.iinc 8 1, 3) := by decide +kernel
theorem dX3_setAcross_120 : decode cX3_setAcross 120 = .ok (.goto (-87), 3) := by decide +kernel
theorem dX3_setAcross_123 : decode cX3_setAcross 123 = .ok (.aload_n 0, 1) := by decide +kernel
theorem dX3_setAcross_124 : decode cX3_setAcross 124 = .ok (.getfield 18, 3) := by decide +kernel
theorem dX3_setAcross_127 : decode cX3_setAcross 127 = .ok (.iload_n 1, 1) := by decide +kernel
theorem dX3_setAcross_128 : decode cX3_setAcross 128 = .ok (.iload_n 2, 1) := by decide +kernel
theorem dX3_setAcross_129 : decode cX3_setAcross 129 = .ok (.iastore, 1) := by decide +kernel
theorem dX3_setAcross_130 : decode cX3_setAcross 130 = .ok (.aload_n 0, 1) := by decide +kernel
theorem dX3_setAcross_131 : decode cX3_setAcross 131 = .ok (.getfield 21, 3) := by decide +kernel
theorem dX3_setAcross_134 : decode cX3_setAcross 134 = .ok (.iload_n 1, 1) := by decide +kernel
theorem dX3_setAcross_135 : decode cX3_setAcross 135 = .ok (.iload 5, 2) := by decide +kernel
theorem dX3_setAcross_137 : decode cX3_setAcross 137 = .ok (.iload 6, 2) := by decide +kernel
theorem dX3_setAcross_139 : decode cX3_setAcross 139 = .ok (.iload 7, 2) := by decide +kernel
theorem dX3_setAcross_141 : decode cX3_setAcross 141 = .ok (.iadd, 1) := by decide +kernel
theorem dX3_setAcross_142 : decode cX3_setAcross 142 = .ok (.invokestatic 95, 3) := by decide +kernel
theorem dX3_setAcross_145 : decode cX3_setAcross 145 = .ok (.iastore, 1) := by decide +kernel
theorem dX3_setAcross_146 : decode cX3_setAcross 146 = .ok (.iload_n 3, 1) := by decide +kernel
theorem dX3_setAcross_147 : decode cX3_setAcross 147 = .ok (.istore 8, 2) := by decide +kernel
theorem dX3_setAcross_149 : decode cX3_setAcross 149 = .ok (.iload 8, 2) := by decide +kernel
theorem dX3_setAcross_151 : decode cX3_setAcross 151 = .ok (.iload 4, 2) := by decide +kernel
theorem dX3_setAcross_153 : decode cX3_setAcross 153 = .ok (.if_icmp .ge 40, 3) := by decide +kernel
theorem dX3_setAcross_156 : decode cX3_setAcross 156 = .ok (.aload_n 0, 1) := by decide +kernel
theorem dX3_setAcross_157 : decode cX3_setAcross 157 = .ok (.getfield 15, 3) := by decide +kernel
theorem dX3_setAcross_160 : decode cX3_setAcross 160 = .ok (.iload 8, 2) := by decide +kernel
theorem dX3_setAcross_162 : decode cX3_setAcross 162 = .ok (.iload_n 2, 1) := by decide +kernel
theorem dX3_setAcross_163 : decode cX3_setAcross 163 = .ok (.aload_n 0, 1) := by decide +kernel
theorem dX3_setAcross_164 : decode cX3_setAcross 164 = .ok (.aload_n 0, 1) := by decide +kernel
theorem dX3_setAcross_165 : decode cX3_setAcross 165 = .ok (.getfield 28, 3) := by decide +kernel
theorem dX3_setAcross_168 : decode cX3_setAcross 168 = .ok (.getfield 66, 3) := by decide +kernel
theorem dX3_setAcross_171 : decode cX3_setAcross 171 = .ok (.iload 8, 2) := by decide +kernel
theorem dX3_setAcross_173 : decode cX3_setAcross 173 = .ok (.iaload, 1) := by decide +kernel
theorem dX3_setAcross_174 : decode cX3_setAcross 174 = .ok (.aload_n 0, 1) := by decide +kernel
theorem dX3_setAcross_175 : decode cX3_setAcross 175 = .ok (.getfield 21, 3) := by decide +kernel
theorem dX3_setAcross_178 : decode cX3_setAcross 178 = .ok (.iload_n 1, 1) := by decide +kernel
theorem dX3_setAcross_179 : decode cX3_setAcross 179 = .ok (.iaload, 1) := by decide +kernel
theorem dX3_setAcross_180 : decode cX3_setAcross 180 = .ok (.iload 6, 2) := by decide +kernel
theorem dX3_setAcross_182 : decode cX3_setAcross 182 = .ok (.invokevirtual 104, 3) := by decide +kernel
theorem dX3_setAcross_185 : decode cX3_setAcross 185 = .ok (.iadd, 1) := by decide +kernel
theorem dX3_setAcross_186 : decode cX3_setAcross 186 = .ok (.iastore, 1) := by decide +kernel
theorem dX3_setAcross_187 : decode cX3_setAcross 187 = .ok (.iinc 8 1, 3) := by decide +kernel
theorem dX3_setAcross_190 : decode cX3_setAcross 190 = .ok (.goto (-41), 3) := by decide +kernel
theorem dX3_setAcross_193 : decode cX3_setAcross 193 = .ok (.return_, 1) := by decide +kernel
theorem dX3_lowered_0 : decode cX3_lowered 0 = .ok (.iload_n 2, 1) := by decide +kernel
theorem dX3_lowered_1 : decode cX3_lowered 1 = .ok (.aload_n 0, 1) := by decide +kernel
theorem dX3_lowered_2 : decode cX3_lowered 2 = .ok (.getfield 24, 3) := by decide +kernel
theorem dX3_lowered_5 : decode cX3_lowered 5 = .ok (.iload_n 1, 1) := by decide +kernel
theorem dX3_lowered_6 : decode cX3_lowered 6 = .ok (.bipush 7, 2) := by decide +kernel
theorem dX3_lowered_8 : decode cX3_lowered 8 = .ok (.invokevirtual 69, 3) := by decide +kernel
theorem dX3_lowered_11 : decode cX3_lowered 11 = .ok (.isub, 1) := by decide +kernel
theorem dX3_lowered_12 : decode cX3_lowered 12 = .ok (.istore 4, 2) := by decide +kernel
theorem dX3_lowered_14 : decode cX3_lowered 14 = .ok (.aload_n 0, 1) := by decide +kernel
theorem dX3_lowered_15 : decode cX3_lowered 15 = .ok (.getfield 24, 3) := by decide +kernel
theorem dX3_lowered_18 : decode cX3_lowered 18 = .ok (.iload_n 1, 1) := by decide +kernel
theorem dX3_lowered_19 : decode cX3_lowered 19 = .ok (.invokevirtual 98, 3) := by decide +kernel
theorem dX3_lowered_22 : decode cX3_lowered 22 = .ok (.tableswitch 47 1 3 #[26, 29, 36], 26) := by decide +kernel
theorem dX3_lowered_48 : decode cX3_lowered 48 = .ok (.iload 4, 2) := by decide +kernel
theorem dX3_lowered_50 : decode cX3_lowered 50 = .ok (.ireturn, 1) := by decide +kernel
theorem dX3_lowered_51 : decode cX3_lowered 51 = .ok (.iload 4, 2) := by decide +kernel
theorem dX3_lowered_53 : decode cX3_lowered 53 = .ok (.iconst 2, 1) := by decide +kernel
theorem dX3_lowered_54 : decode cX3_lowered 54 = .ok (.invokestatic 90, 3) := by decide +kernel
theorem dX3_lowered_57 : decode cX3_lowered 57 = .ok (.ireturn, 1) := by decide +kernel
theorem dX3_lowered_58 : decode cX3_lowered 58 = .ok (.iload_n 3, 1) := by decide +kernel
theorem dX3_lowered_59 : decode cX3_lowered 59 = .ok (.aload_n 0, 1) := by decide +kernel
theorem dX3_lowered_60 : decode cX3_lowered 60 = .ok (.getfield 24, 3) := by decide +kernel
theorem dX3_lowered_63 : decode cX3_lowered 63 = .ok (.iload_n 1, 1) := by decide +kernel
theorem dX3_lowered_64 : decode cX3_lowered 64 = .ok (.invokevirtual 101, 3) := by decide +kernel
theorem dX3_lowered_67 : decode cX3_lowered 67 = .ok (.isub, 1) := by decide +kernel
theorem dX3_lowered_68 : decode cX3_lowered 68 = .ok (.ireturn, 1) := by decide +kernel
theorem dX3_lowered_69 : decode cX3_lowered 69 = .ok (.iconst 0, 1) := by decide +kernel
theorem dX3_lowered_70 : decode cX3_lowered 70 = .ok (.ireturn, 1) := by decide +kernel
theorem dX4_init_0 : decode cX4_init 0 = .ok (.aload_n 0, 1) := by decide +kernel
theorem dX4_init_1 : decode cX4_init 1 = .ok (.invokespecial 3, 3) := by decide +kernel
theorem dX4_init_4 : decode cX4_init 4 = .ok (.aload_n 0, 1) := by decide +kernel
theorem dX4_init_5 : decode cX4_init 5 = .ok (.bipush 7, 2) := by decide +kernel
theorem dX4_init_7 : decode cX4_init 7 = .ok (.newarray .int, 2) := by decide +kernel
theorem dX4_init_9 : decode cX4_init 9 = .ok (.putfield 9, 3) := by decide +kernel
theorem dX4_init_12 : decode cX4_init 12 = .ok (.aload_n 0, 1) := by decide +kernel
theorem dX4_init_13 : decode cX4_init 13 = .ok (.sipush 176, 3) := by decide +kernel
theorem dX4_init_16 : decode cX4_init 16 = .ok (.newarray .int, 2) := by decide +kernel
theorem dX4_init_18 : decode cX4_init 18 = .ok (.putfield 15, 3) := by decide +kernel
theorem dX4_init_21 : decode cX4_init 21 = .ok (.getstatic 18, 3) := by decide +kernel
theorem dX4_init_24 : decode cX4_init 24 = .ok (.iconst 0, 1) := by decide +kernel
theorem dX4_init_25 : decode cX4_init 25 = .ok (.aload_n 0, 1) := by decide +kernel
theorem dX4_init_26 : decode cX4_init 26 = .ok (.getfield 9, 3) := by decide +kernel
theorem dX4_init_29 : decode cX4_init 29 = .ok (.iconst 0, 1) := by decide +kernel
theorem dX4_init_30 : decode cX4_init 30 = .ok (.bipush 7, 2) := by decide +kernel
theorem dX4_init_32 : decode cX4_init 32 = .ok (.invokestatic 21, 3) := by decide +kernel
theorem dX4_init_35 : decode cX4_init 35 = .ok (.return_, 1) := by decide +kernel
theorem dX4_has_0 : decode cX4_has 0 = .ok (.iload_n 1, 1) := by decide +kernel
theorem dX4_has_1 : decode cX4_has 1 = .ok (.ifCond .lt 15, 3) := by decide +kernel
theorem dX4_has_4 : decode cX4_has 4 = .ok (.iload_n 1, 1) := by decide +kernel
theorem dX4_has_5 : decode cX4_has 5 = .ok (.aload_n 0, 1) := by decide +kernel
theorem dX4_has_6 : decode cX4_has 6 = .ok (.getfield 27, 3) := by decide +kernel
theorem dX4_has_9 : decode cX4_has 9 = .ok (.if_icmp .ge 7, 3) := by decide +kernel
theorem dX4_has_12 : decode cX4_has 12 = .ok (.iconst 1, 1) := by decide +kernel
theorem dX4_has_13 : decode cX4_has 13 = .ok (.goto 4, 3) := by decide +kernel
theorem dX4_has_16 : decode cX4_has 16 = .ok (.iconst 0, 1) := by decide +kernel
theorem dX4_has_17 : decode cX4_has 17 = .ok (.ireturn, 1) := by decide +kernel
theorem dX4_number_0 : decode cX4_number 0 = .ok (.iload_n 1, 1) := by decide +kernel
theorem dX4_number_1 : decode cX4_number 1 = .ok (.ifCond .lt 18, 3) := by decide +kernel
theorem dX4_number_4 : decode cX4_number 4 = .ok (.iload_n 1, 1) := by decide +kernel
theorem dX4_number_5 : decode cX4_number 5 = .ok (.bipush 7, 2) := by decide +kernel
theorem dX4_number_7 : decode cX4_number 7 = .ok (.if_icmp .ge 12, 3) := by decide +kernel
theorem dX4_number_10 : decode cX4_number 10 = .ok (.aload_n 0, 1) := by decide +kernel
theorem dX4_number_11 : decode cX4_number 11 = .ok (.getfield 9, 3) := by decide +kernel
theorem dX4_number_14 : decode cX4_number 14 = .ok (.iload_n 1, 1) := by decide +kernel
theorem dX4_number_15 : decode cX4_number 15 = .ok (.iaload, 1) := by decide +kernel
theorem dX4_number_16 : decode cX4_number 16 = .ok (.goto 4, 3) := by decide +kernel
theorem dX4_number_19 : decode cX4_number 19 = .ok (.iconst 0, 1) := by decide +kernel
theorem dX4_number_20 : decode cX4_number 20 = .ok (.ireturn, 1) := by decide +kernel
theorem dX4_setNumber_0 : decode cX4_setNumber 0 = .ok (.iload_n 1, 1) := by decide +kernel
theorem dX4_setNumber_1 : decode cX4_setNumber 1 = .ok (.ifCond .lt 16, 3) := by decide +kernel
theorem dX4_setNumber_4 : decode cX4_setNumber 4 = .ok (.iload_n 1, 1) := by decide +kernel
theorem dX4_setNumber_5 : decode cX4_setNumber 5 = .ok (.bipush 7, 2) := by decide +kernel
theorem dX4_setNumber_7 : decode cX4_setNumber 7 = .ok (.if_icmp .ge 10, 3) := by decide +kernel
theorem dX4_setNumber_10 : decode cX4_setNumber 10 = .ok (.aload_n 0, 1) := by decide +kernel
theorem dX4_setNumber_11 : decode cX4_setNumber 11 = .ok (.getfield 9, 3) := by decide +kernel
theorem dX4_setNumber_14 : decode cX4_setNumber 14 = .ok (.iload_n 1, 1) := by decide +kernel
theorem dX4_setNumber_15 : decode cX4_setNumber 15 = .ok (.iload_n 2, 1) := by decide +kernel
theorem dX4_setNumber_16 : decode cX4_setNumber 16 = .ok (.iastore, 1) := by decide +kernel
theorem dX4_setNumber_17 : decode cX4_setNumber 17 = .ok (.return_, 1) := by decide +kernel
theorem dX4_property_0 : decode cX4_property 0 = .ok (.iload_n 1, 1) := by decide +kernel
theorem dX4_property_1 : decode cX4_property 1 = .ok (.ifCond .lt 23, 3) := by decide +kernel
theorem dX4_property_4 : decode cX4_property 4 = .ok (.iload_n 1, 1) := by decide +kernel
theorem dX4_property_5 : decode cX4_property 5 = .ok (.bipush 16, 2) := by decide +kernel
theorem dX4_property_7 : decode cX4_property 7 = .ok (.if_icmp .ge 17, 3) := by decide +kernel
theorem dX4_property_10 : decode cX4_property 10 = .ok (.iload_n 2, 1) := by decide +kernel
theorem dX4_property_11 : decode cX4_property 11 = .ok (.ifCond .lt 13, 3) := by decide +kernel
theorem dX4_property_14 : decode cX4_property 14 = .ok (.iload_n 2, 1) := by decide +kernel
theorem dX4_property_15 : decode cX4_property 15 = .ok (.bipush 11, 2) := by decide +kernel
theorem dX4_property_17 : decode cX4_property 17 = .ok (.if_icmp .ge 7, 3) := by decide +kernel
theorem dX4_property_20 : decode cX4_property 20 = .ok (.iconst 1, 1) := by decide +kernel
theorem dX4_property_21 : decode cX4_property 21 = .ok (.goto 4, 3) := by decide +kernel
theorem dX4_property_24 : decode cX4_property 24 = .ok (.iconst 0, 1) := by decide +kernel
theorem dX4_property_25 : decode cX4_property 25 = .ok (.istore_n 3, 1) := by decide +kernel
theorem dX4_property_26 : decode cX4_property 26 = .ok (.iload_n 3, 1) := by decide +kernel
theorem dX4_property_27 : decode cX4_property 27 = .ok (.ifCond .eq 17, 3) := by decide +kernel
theorem dX4_property_30 : decode cX4_property 30 = .ok (.aload_n 0, 1) := by decide +kernel
theorem dX4_property_31 : decode cX4_property 31 = .ok (.getfield 15, 3) := by decide +kernel
theorem dX4_property_34 : decode cX4_property 34 = .ok (.iload_n 1, 1) := by decide +kernel
theorem dX4_property_35 : decode cX4_property 35 = .ok (.bipush 11, 2) := by decide +kernel
theorem dX4_property_37 : decode cX4_property 37 = .ok (.imul, 1) := by decide +kernel
theorem dX4_property_38 : decode cX4_property 38 = .ok (.iload_n 2, 1) := by decide +kernel
theorem dX4_property_39 : decode cX4_property 39 = .ok (.iadd, 1) := by decide +kernel
theorem dX4_property_40 : decode cX4_property 40 = .ok (.iaload, 1) := by decide +kernel
theorem dX4_property_41 : decode cX4_property 41 = .ok (.goto 4, 3) := by decide +kernel
theorem dX4_property_44 : decode cX4_property 44 = .ok (.iconst 0, 1) := by decide +kernel
theorem dX4_property_45 : decode cX4_property 45 = .ok (.ireturn, 1) := by decide +kernel
theorem dX4_put_0 : decode cX4_put 0 = .ok (.iload_n 1, 1) := by decide +kernel
theorem dX4_put_1 : decode cX4_put 1 = .ok (.ifCond .lt 31, 3) := by decide +kernel
theorem dX4_put_4 : decode cX4_put 4 = .ok (.iload_n 1, 1) := by decide +kernel
theorem dX4_put_5 : decode cX4_put 5 = .ok (.bipush 16, 2) := by decide +kernel
theorem dX4_put_7 : decode cX4_put 7 = .ok (.if_icmp .ge 25, 3) := by decide +kernel
theorem dX4_put_10 : decode cX4_put 10 = .ok (.iload_n 2, 1) := by decide +kernel
theorem dX4_put_11 : decode cX4_put 11 = .ok (.ifCond .lt 21, 3) := by decide +kernel
theorem dX4_put_14 : decode cX4_put 14 = .ok (.iload_n 2, 1) := by decide +kernel
theorem dX4_put_15 : decode cX4_put 15 = .ok (.bipush 11, 2) := by decide +kernel
theorem dX4_put_17 : decode cX4_put 17 = .ok (.if_icmp .ge 15, 3) := by decide +kernel
theorem dX4_put_20 : decode cX4_put 20 = .ok (.aload_n 0, 1) := by decide +kernel
theorem dX4_put_21 : decode cX4_put 21 = .ok (.getfield 15, 3) := by decide +kernel
theorem dX4_put_24 : decode cX4_put 24 = .ok (.iload_n 1, 1) := by decide +kernel
theorem dX4_put_25 : decode cX4_put 25 = .ok (.bipush 11, 2) := by decide +kernel
theorem dX4_put_27 : decode cX4_put 27 = .ok (.imul, 1) := by decide +kernel
theorem dX4_put_28 : decode cX4_put 28 = .ok (.iload_n 2, 1) := by decide +kernel
theorem dX4_put_29 : decode cX4_put 29 = .ok (.iadd, 1) := by decide +kernel
theorem dX4_put_30 : decode cX4_put 30 = .ok (.iload_n 3, 1) := by decide +kernel
theorem dX4_put_31 : decode cX4_put 31 = .ok (.iastore, 1) := by decide +kernel
theorem dX4_put_32 : decode cX4_put 32 = .ok (.return_, 1) := by decide +kernel
theorem dX4_greatest_0 : decode cX4_greatest 0 = .ok (.aload_n 0, 1) := by decide +kernel
theorem dX4_greatest_1 : decode cX4_greatest 1 = .ok (.iload_n 1, 1) := by decide +kernel
theorem dX4_greatest_2 : decode cX4_greatest 2 = .ok (.iconst 3, 1) := by decide +kernel
theorem dX4_greatest_3 : decode cX4_greatest 3 = .ok (.invokevirtual 31, 3) := by decide +kernel
theorem dX4_greatest_6 : decode cX4_greatest 6 = .ok (.aload_n 0, 1) := by decide +kernel
theorem dX4_greatest_7 : decode cX4_greatest 7 = .ok (.iload_n 1, 1) := by decide +kernel
theorem dX4_greatest_8 : decode cX4_greatest 8 = .ok (.iconst 4, 1) := by decide +kernel
theorem dX4_greatest_9 : decode cX4_greatest 9 = .ok (.invokevirtual 31, 3) := by decide +kernel
theorem dX4_greatest_12 : decode cX4_greatest 12 = .ok (.invokestatic 35, 3) := by decide +kernel
theorem dX4_greatest_15 : decode cX4_greatest 15 = .ok (.ireturn, 1) := by decide +kernel
theorem dX4_wish_0 : decode cX4_wish 0 = .ok (.aload_n 0, 1) := by decide +kernel
theorem dX4_wish_1 : decode cX4_wish 1 = .ok (.iload_n 1, 1) := by decide +kernel
theorem dX4_wish_2 : decode cX4_wish 2 = .ok (.iconst 0, 1) := by decide +kernel
theorem dX4_wish_3 : decode cX4_wish 3 = .ok (.invokevirtual 31, 3) := by decide +kernel
theorem dX4_wish_6 : decode cX4_wish 6 = .ok (.aload_n 0, 1) := by decide +kernel
theorem dX4_wish_7 : decode cX4_wish 7 = .ok (.iload_n 1, 1) := by decide +kernel
theorem dX4_wish_8 : decode cX4_wish 8 = .ok (.iconst 3, 1) := by decide +kernel
theorem dX4_wish_9 : decode cX4_wish 9 = .ok (.invokevirtual 31, 3) := by decide +kernel
theorem dX4_wish_12 : decode cX4_wish 12 = .ok (.invokestatic 35, 3) := by decide +kernel
theorem dX4_wish_15 : decode cX4_wish 15 = .ok (.aload_n 0, 1) := by decide +kernel
theorem dX4_wish_16 : decode cX4_wish 16 = .ok (.iload_n 1, 1) := by decide +kernel
theorem dX4_wish_17 : decode cX4_wish 17 = .ok (.invokevirtual 40, 3) := by decide +kernel
theorem dX4_wish_20 : decode cX4_wish 20 = .ok (.invokestatic 44, 3) := by decide +kernel
theorem dX4_wish_23 : decode cX4_wish 23 = .ok (.ireturn, 1) := by decide +kernel
theorem dX4_above_0 : decode cX4_above 0 = .ok (.aload_n 0, 1) := by decide +kernel
theorem dX4_above_1 : decode cX4_above 1 = .ok (.iload_n 1, 1) := by decide +kernel
theorem dX4_above_2 : decode cX4_above 2 = .ok (.bipush 7, 2) := by decide +kernel
theorem dX4_above_4 : decode cX4_above 4 = .ok (.invokevirtual 31, 3) := by decide +kernel
theorem dX4_above_7 : decode cX4_above 7 = .ok (.aload_n 0, 1) := by decide +kernel
theorem dX4_above_8 : decode cX4_above 8 = .ok (.iload_n 1, 1) := by decide +kernel
theorem dX4_above_9 : decode cX4_above 9 = .ok (.bipush 8, 2) := by decide +kernel
theorem dX4_above_11 : decode cX4_above 11 = .ok (.invokevirtual 31, 3) := by decide +kernel
theorem dX4_above_14 : decode cX4_above 14 = .ok (.isub, 1) := by decide +kernel
theorem dX4_above_15 : decode cX4_above 15 = .ok (.ireturn, 1) := by decide +kernel
theorem dX4_wayAcross_0 : decode cX4_wayAcross 0 = .ok (.aload_n 0, 1) := by decide +kernel
theorem dX4_wayAcross_1 : decode cX4_wayAcross 1 = .ok (.iload_n 1, 1) := by decide +kernel
theorem dX4_wayAcross_2 : decode cX4_wayAcross 2 = .ok (.bipush 9, 2) := by decide +kernel
theorem dX4_wayAcross_4 : decode cX4_wayAcross 4 = .ok (.invokevirtual 31, 3) := by decide +kernel
theorem dX4_wayAcross_7 : decode cX4_wayAcross 7 = .ok (.istore_n 2, 1) := by decide +kernel
theorem dX4_wayAcross_8 : decode cX4_wayAcross 8 = .ok (.iload_n 2, 1) := by decide +kernel
theorem dX4_wayAcross_9 : decode cX4_wayAcross 9 = .ok (.iconst 4, 1) := by decide +kernel
theorem dX4_wayAcross_10 : decode cX4_wayAcross 10 = .ok (.if_icmp .ne 11, 3) := by decide +kernel
theorem dX4_wayAcross_13 : decode cX4_wayAcross 13 = .ok (.aload_n 0, 1) := by decide +kernel
theorem dX4_wayAcross_14 : decode cX4_wayAcross 14 = .ok (.iconst 5, 1) := by decide +kernel
theorem dX4_wayAcross_15 : decode cX4_wayAcross 15 = .ok (.invokevirtual 47, 3) := by decide +kernel
theorem dX4_wayAcross_18 : decode cX4_wayAcross 18 = .ok (.goto 4, 3) := by decide +kernel
theorem dX4_wayAcross_21 : decode cX4_wayAcross 21 = .ok (.iload_n 2, 1) := by decide +kernel
theorem dX4_wayAcross_22 : decode cX4_wayAcross 22 = .ok (.ireturn, 1) := by decide +kernel
theorem dX4_append_0 : decode cX4_append 0 = .ok (.iconst 0, 1) := by decide +kernel
theorem dX4_append_1 : decode cX4_append 1 = .ok (.istore_n 2, 1) := by decide +kernel
theorem dX4_append_2 : decode cX4_append 2 = .ok (.iload_n 2, 1) := by decide +kernel
theorem dX4_append_3 : decode cX4_append 3 = .ok (.bipush 10, 2) := by decide +kernel
theorem dX4_append_5 : decode cX4_append 5 = .ok (.if_icmp .ge 27, 3) := by decide +kernel
theorem dX4_append_8 : decode cX4_append 8 = .ok (.iload_n 2, 1) := by decide +kernel
theorem dX4_append_9 : decode cX4_append 9 = .ok (.aload_n 1, 1) := by decide +kernel
theorem dX4_append_10 : decode cX4_append 10 = .ok (.arraylength, 1) := by decide +kernel
theorem dX4_append_11 : decode cX4_append 11 = .ok (.if_icmp .ge 21, 3) := by decide +kernel
theorem dX4_append_14 : decode cX4_append 14 = .ok (.aload_n 0, 1) := by decide +kernel
theorem dX4_append_15 : decode cX4_append 15 = .ok (.aload_n 0, 1) := by decide +kernel
theorem dX4_append_16 : decode cX4_append 16 = .ok (.getfield 27, 3) := by decide +kernel
theorem dX4_append_19 : decode cX4_append 19 = .ok (.iload_n 2, 1) := by decide +kernel
theorem dX4_append_20 : decode cX4_append 20 = .ok (.aload_n 1, 1) := by decide +kernel
theorem dX4_append_21 : decode cX4_append 21 = .ok (.iload_n 2, 1) := by decide +kernel
theorem dX4_append_22 : decode cX4_append 22 = .ok (.iaload, 1) := by decide +kernel
theorem dX4_append_23 : decode cX4_append 23 = .ok (.invokevirtual 50, 3) := by decide +kernel
theorem dX4_append_26 : decode cX4_append 26 = .ok (.iinc 2 1, 3) := by decide +kernel
theorem dX4_append_29 : decode cX4_append 29 = .ok (.goto (-27), 3) := by decide +kernel
theorem dX4_append_32 : decode cX4_append 32 = .ok (.aload_n 0, 1) := by decide +kernel
theorem dX4_append_33 : decode cX4_append 33 = .ok (.aload_n 0, 1) := by decide +kernel
theorem dX4_append_34 : decode cX4_append 34 = .ok (.getfield 27, 3) := by decide +kernel
theorem dX4_append_37 : decode cX4_append 37 = .ok (.bipush 10, 2) := by decide +kernel
theorem dX4_append_39 : decode cX4_append 39 = .ok (.iconst 0, 1) := by decide +kernel
theorem dX4_append_40 : decode cX4_append 40 = .ok (.invokevirtual 50, 3) := by decide +kernel
theorem dX4_append_43 : decode cX4_append 43 = .ok (.aload_n 0, 1) := by decide +kernel
theorem dX4_append_44 : decode cX4_append 44 = .ok (.dup, 1) := by decide +kernel
theorem dX4_append_45 : decode cX4_append 45 = .ok (.getfield 27, 3) := by decide +kernel
theorem dX4_append_48 : decode cX4_append 48 = .ok (.iconst 1, 1) := by decide +kernel
theorem dX4_append_49 : decode cX4_append 49 = .ok (.iadd, 1) := by decide +kernel
theorem dX4_append_50 : decode cX4_append 50 = .ok (.putfield 27, 3) := by decide +kernel
theorem dX4_append_53 : decode cX4_append 53 = .ok (.return_, 1) := by decide +kernel
theorem dX4_carry_0 : decode cX4_carry 0 = .ok (.iload_n 1, 1) := by decide +kernel
theorem dX4_carry_1 : decode cX4_carry 1 = .ok (.istore_n 3, 1) := by decide +kernel
theorem dX4_carry_2 : decode cX4_carry 2 = .ok (.iload_n 3, 1) := by decide +kernel
theorem dX4_carry_3 : decode cX4_carry 3 = .ok (.iload_n 2, 1) := by decide +kernel
theorem dX4_carry_4 : decode cX4_carry 4 = .ok (.if_icmp .ge 17, 3) := by decide +kernel
theorem dX4_carry_7 : decode cX4_carry 7 = .ok (.aload_n 0, 1) := by decide +kernel
theorem dX4_carry_8 : decode cX4_carry 8 = .ok (.iload_n 3, 1) := by decide +kernel
theorem dX4_carry_9 : decode cX4_carry 9 = .ok (.iload_n 3, 1) := by decide +kernel
theorem dX4_carry_10 : decode cX4_carry 10 = .ok (.iconst 1, 1) := by decide +kernel
theorem dX4_carry_11 : decode cX4_carry 11 = .ok (.iadd, 1) := by decide +kernel
theorem dX4_carry_12 : decode cX4_carry 12 = .ok (.invokevirtual 54, 3) := by decide +kernel
theorem dX4_carry_15 : decode cX4_carry 15 = .ok (.iinc 3 1, 3) := by decide +kernel
theorem dX4_carry_18 : decode cX4_carry 18 = .ok (.goto (-16), 3) := by decide +kernel
theorem dX4_carry_21 : decode cX4_carry 21 = .ok (.iload_n 1, 1) := by decide +kernel
theorem dX4_carry_22 : decode cX4_carry 22 = .ok (.istore_n 3, 1) := by decide +kernel
theorem dX4_carry_23 : decode cX4_carry 23 = .ok (.iload_n 3, 1) := by decide +kernel
theorem dX4_carry_24 : decode cX4_carry 24 = .ok (.iload_n 2, 1) := by decide +kernel
theorem dX4_carry_25 : decode cX4_carry 25 = .ok (.if_icmp .le 17, 3) := by decide +kernel
theorem dX4_carry_28 : decode cX4_carry 28 = .ok (.aload_n 0, 1) := by decide +kernel
theorem dX4_carry_29 : decode cX4_carry 29 = .ok (.iload_n 3, 1) := by decide +kernel
theorem dX4_carry_30 : decode cX4_carry 30 = .ok (.iload_n 3, 1) := by decide +kernel
theorem dX4_carry_31 : decode cX4_carry 31 = .ok (.iconst 1, 1) := by decide +kernel
theorem dX4_carry_32 : decode cX4_carry 32 = .ok (.isub, 1) := by decide +kernel
theorem dX4_carry_33 : decode cX4_carry 33 = .ok (.invokevirtual 54, 3) := by decide +kernel
theorem dX4_carry_36 : decode cX4_carry 36 = .ok (.iinc 3 (-1), 3) := by decide +kernel
theorem dX4_carry_39 : decode cX4_carry 39 = .ok (.goto (-16), 3) := by decide +kernel
theorem dX4_carry_42 : decode cX4_carry 42 = .ok (.return_, 1) := by decide +kernel
theorem dX4_swap_0 : decode cX4_swap 0 = .ok (.iconst 0, 1) := by decide +kernel
theorem dX4_swap_1 : decode cX4_swap 1 = .ok (.istore_n 3, 1) := by decide +kernel
theorem dX4_swap_2 : decode cX4_swap 2 = .ok (.iload_n 3, 1) := by decide +kernel
theorem dX4_swap_3 : decode cX4_swap 3 = .ok (.bipush 11, 2) := by decide +kernel
theorem dX4_swap_5 : decode cX4_swap 5 = .ok (.if_icmp .ge 37, 3) := by decide +kernel
theorem dX4_swap_8 : decode cX4_swap 8 = .ok (.aload_n 0, 1) := by decide +kernel
theorem dX4_swap_9 : decode cX4_swap 9 = .ok (.iload_n 1, 1) := by decide +kernel
theorem dX4_swap_10 : decode cX4_swap 10 = .ok (.iload_n 3, 1) := by decide +kernel
theorem dX4_swap_11 : decode cX4_swap 11 = .ok (.invokevirtual 31, 3) := by decide +kernel
theorem dX4_swap_14 : decode cX4_swap 14 = .ok (.istore 4, 2) := by decide +kernel
theorem dX4_swap_16 : decode cX4_swap 16 = .ok (.aload_n 0, 1) := by decide +kernel
theorem dX4_swap_17 : decode cX4_swap 17 = .ok (.iload_n 1, 1) := by decide +kernel
theorem dX4_swap_18 : decode cX4_swap 18 = .ok (.iload_n 3, 1) := by decide +kernel
theorem dX4_swap_19 : decode cX4_swap 19 = .ok (.aload_n 0, 1) := by decide +kernel
theorem dX4_swap_20 : decode cX4_swap 20 = .ok (.iload_n 2, 1) := by decide +kernel
theorem dX4_swap_21 : decode cX4_swap 21 = .ok (.iload_n 3, 1) := by decide +kernel
theorem dX4_swap_22 : decode cX4_swap 22 = .ok (.invokevirtual 31, 3) := by decide +kernel
theorem dX4_swap_25 : decode cX4_swap 25 = .ok (.invokevirtual 50, 3) := by decide +kernel
theorem dX4_swap_28 : decode cX4_swap 28 = .ok (.aload_n 0, 1) := by decide +kernel
theorem dX4_swap_29 : decode cX4_swap 29 = .ok (.iload_n 2, 1) := by decide +kernel
theorem dX4_swap_30 : decode cX4_swap 30 = .ok (.iload_n 3, 1) := by decide +kernel
theorem dX4_swap_31 : decode cX4_swap 31 = .ok (.iload 4, 2) := by decide +kernel
theorem dX4_swap_33 : decode cX4_swap 33 = .ok (.invokevirtual 50, 3) := by decide +kernel
theorem dX4_swap_36 : decode cX4_swap 36 = .ok (.iinc 3 1, 3) := by decide +kernel
theorem dX4_swap_39 : decode cX4_swap 39 = .ok (.goto (-37), 3) := by decide +kernel
theorem dX4_swap_42 : decode cX4_swap 42 = .ok (.return_, 1) := by decide +kernel
theorem dX5_init_0 : decode cX5_init 0 = .ok (.aload_n 0, 1) := by decide +kernel
theorem dX5_init_1 : decode cX5_init 1 = .ok (.invokespecial 3, 3) := by decide +kernel
theorem dX5_init_4 : decode cX5_init 4 = .ok (.aload_n 0, 1) := by decide +kernel
theorem dX5_init_5 : decode cX5_init 5 = .ok (.bipush 80, 2) := by decide +kernel
theorem dX5_init_7 : decode cX5_init 7 = .ok (.newarray .byte, 2) := by decide +kernel
theorem dX5_init_9 : decode cX5_init 9 = .ok (.putfield 9, 3) := by decide +kernel
theorem dX5_init_12 : decode cX5_init 12 = .ok (.aload_n 0, 1) := by decide +kernel
theorem dX5_init_13 : decode cX5_init 13 = .ok (.bipush 10, 2) := by decide +kernel
theorem dX5_init_15 : decode cX5_init 15 = .ok (.newarray .int, 2) := by decide +kernel
theorem dX5_init_17 : decode cX5_init 17 = .ok (.putfield 15, 3) := by decide +kernel
theorem dX5_init_20 : decode cX5_init 20 = .ok (.return_, 1) := by decide +kernel
theorem dX5_append_0 : decode cX5_append 0 = .ok (.aload_n 0, 1) := by decide +kernel
theorem dX5_append_1 : decode cX5_append 1 = .ok (.getfield 19, 3) := by decide +kernel
theorem dX5_append_4 : decode cX5_append 4 = .ok (.ifCond .lt 12, 3) := by decide +kernel
theorem dX5_append_7 : decode cX5_append 7 = .ok (.aload_n 0, 1) := by decide +kernel
theorem dX5_append_8 : decode cX5_append 8 = .ok (.getfield 19, 3) := by decide +kernel
theorem dX5_append_11 : decode cX5_append 11 = .ok (.bipush 80, 2) := by decide +kernel
theorem dX5_append_13 : decode cX5_append 13 = .ok (.if_icmp .lt 5, 3) := by decide +kernel
theorem dX5_append_16 : decode cX5_append 16 = .ok (.iconst 0, 1) := by decide +kernel
theorem dX5_append_17 : decode cX5_append 17 = .ok (.ireturn, 1) := by decide +kernel
theorem dX5_append_18 : decode cX5_append 18 = .ok (.aload_n 0, 1) := by decide +kernel
theorem dX5_append_19 : decode cX5_append 19 = .ok (.getfield 9, 3) := by decide +kernel
theorem dX5_append_22 : decode cX5_append 22 = .ok (.aload_n 0, 1) := by decide +kernel
theorem dX5_append_23 : decode cX5_append 23 = .ok (.getfield 19, 3) := by decide +kernel
theorem dX5_append_26 : decode cX5_append 26 = .ok (.iload_n 1, 1) := by decide +kernel
theorem dX5_append_27 : decode cX5_append 27 = .ok (.i2b, 1) := by decide +kernel
theorem dX5_append_28 : decode cX5_append 28 = .ok (.bastore, 1) := by decide +kernel
theorem dX5_append_29 : decode cX5_append 29 = .ok (.aload_n 0, 1) := by decide +kernel
theorem dX5_append_30 : decode cX5_append 30 = .ok (.dup, 1) := by decide +kernel
theorem dX5_append_31 : decode cX5_append 31 = .ok (.getfield 19, 3) := by decide +kernel
theorem dX5_append_34 : decode cX5_append 34 = .ok (.iconst 1, 1) := by decide +kernel
theorem dX5_append_35 : decode cX5_append 35 = .ok (.iadd, 1) := by decide +kernel
theorem dX5_append_36 : decode cX5_append 36 = .ok (.putfield 19, 3) := by decide +kernel
theorem dX5_append_39 : decode cX5_append 39 = .ok (.iconst 1, 1) := by decide +kernel
theorem dX5_append_40 : decode cX5_append 40 = .ok (.ireturn, 1) := by decide +kernel
theorem dX5_byteAt_0 : decode cX5_byteAt 0 = .ok (.iload_n 1, 1) := by decide +kernel
theorem dX5_byteAt_1 : decode cX5_byteAt 1 = .ok (.ifCond .lt 26, 3) := by decide +kernel
theorem dX5_byteAt_4 : decode cX5_byteAt 4 = .ok (.iload_n 1, 1) := by decide +kernel
theorem dX5_byteAt_5 : decode cX5_byteAt 5 = .ok (.aload_n 0, 1) := by decide +kernel
theorem dX5_byteAt_6 : decode cX5_byteAt 6 = .ok (.getfield 19, 3) := by decide +kernel
theorem dX5_byteAt_9 : decode cX5_byteAt 9 = .ok (.if_icmp .ge 18, 3) := by decide +kernel
theorem dX5_byteAt_12 : decode cX5_byteAt 12 = .ok (.iload_n 1, 1) := by decide +kernel
theorem dX5_byteAt_13 : decode cX5_byteAt 13 = .ok (.bipush 80, 2) := by decide +kernel
theorem dX5_byteAt_15 : decode cX5_byteAt 15 = .ok (.if_icmp .ge 12, 3) := by decide +kernel
theorem dX5_byteAt_18 : decode cX5_byteAt 18 = .ok (.aload_n 0, 1) := by decide +kernel
theorem dX5_byteAt_19 : decode cX5_byteAt 19 = .ok (.getfield 9, 3) := by decide +kernel
theorem dX5_byteAt_22 : decode cX5_byteAt 22 = .ok (.iload_n 1, 1) := by decide +kernel
theorem dX5_byteAt_23 : decode cX5_byteAt 23 = .ok (.baload, 1) := by decide +kernel
theorem dX5_byteAt_24 : decode cX5_byteAt 24 = .ok (.goto 4, 3) := by decide +kernel
theorem dX5_byteAt_27 : decode cX5_byteAt 27 = .ok (.iconst (-1), 1) := by decide +kernel
