theorem dX3_init_0 : decode cX3_init 0 = .ok (.aload_n 0, 1) := by decide +kernel
theorem dX3_init_1 : decode cX3_init 1 = .ok (.invokespecial 3, 3) := by decide +kernel
theorem dX3_init_4 : decode cX3_init 4 = .ok (.aload_n 0, 1) := by decide +kernel
theorem dX3_init_5 : decode cX3_init 5 = .ok (.bipush 120, 2) := by decide +kernel
theorem dX3_init_7 : decode cX3_init 7 = .ok (.newarray .int, 2) := by decide +kernel
theorem dX3_init_9 : decode cX3_init 9 = .ok (.putfield 11, 3) := by decide +kernel
theorem dX3_init_12 : decode cX3_init 12 = .ok (.aload_n 0, 1) := by decide +kernel
theorem dX3_init_13 : decode cX3_init 13 = .ok (.bipush 120, 2) := by decide +kernel
theorem dX3_init_15 : decode cX3_init 15 = .ok (.newarray .int, 2) := by decide +kernel
theorem dX3_init_17 : decode cX3_init 17 = .ok (.putfield 15, 3) := by decide +kernel
theorem dX3_init_20 : decode cX3_init 20 = .ok (.aload_n 0, 1) := by decide +kernel
theorem dX3_init_21 : decode cX3_init 21 = .ok (.sipush 3125, 3) := by decide +kernel
theorem dX3_init_24 : decode cX3_init 24 = .ok (.newarray .int, 2) := by decide +kernel
theorem dX3_init_26 : decode cX3_init 26 = .ok (.putfield 18, 3) := by decide +kernel
theorem dX3_init_29 : decode cX3_init 29 = .ok (.aload_n 0, 1) := by decide +kernel
theorem dX3_init_30 : decode cX3_init 30 = .ok (.iconst 5, 1) := by decide +kernel
theorem dX3_init_31 : decode cX3_init 31 = .ok (.newarray .int, 2) := by decide +kernel
theorem dX3_init_33 : decode cX3_init 33 = .ok (.putfield 21, 3) := by decide +kernel
theorem dX3_init_36 : decode cX3_init 36 = .ok (.aload_n 0, 1) := by decide +kernel
theorem dX3_init_37 : decode cX3_init 37 = .ok (.bipush 25, 2) := by decide +kernel
theorem dX3_init_39 : decode cX3_init 39 = .ok (.newarray .boolean, 2) := by decide +kernel
theorem dX3_init_41 : decode cX3_init 41 = .ok (.putfield 24, 3) := by decide +kernel
theorem dX3_init_44 : decode cX3_init 44 = .ok (.aload_n 0, 1) := by decide +kernel
theorem dX3_init_45 : decode cX3_init 45 = .ok (.iconst 5, 1) := by decide +kernel
theorem dX3_init_46 : decode cX3_init 46 = .ok (.newarray .int, 2) := by decide +kernel
theorem dX3_init_48 : decode cX3_init 48 = .ok (.putfield 28, 3) := by decide +kernel
theorem dX3_init_51 : decode cX3_init 51 = .ok (.aload_n 0, 1) := by decide +kernel
theorem dX3_init_52 : decode cX3_init 52 = .ok (.iconst 5, 1) := by decide +kernel
theorem dX3_init_53 : decode cX3_init 53 = .ok (.newarray .int, 2) := by decide +kernel
theorem dX3_init_55 : decode cX3_init 55 = .ok (.putfield 31, 3) := by decide +kernel
theorem dX3_init_58 : decode cX3_init 58 = .ok (.aload_n 0, 1) := by decide +kernel
theorem dX3_init_59 : decode cX3_init 59 = .ok (.aload_n 1, 1) := by decide +kernel
theorem dX3_init_60 : decode cX3_init 60 = .ok (.putfield 34, 3) := by decide +kernel
theorem dX3_init_63 : decode cX3_init 63 = .ok (.return_, 1) := by decide +kernel
theorem dX3_find_0 : decode cX3_find 0 = .ok (.aload_n 0, 1) := by decide +kernel
theorem dX3_find_1 : decode cX3_find 1 = .ok (.aload_n 1, 1) := by decide +kernel
theorem dX3_find_2 : decode cX3_find 2 = .ok (.putfield 38, 3) := by decide +kernel
theorem dX3_find_5 : decode cX3_find 5 = .ok (.aload_n 0, 1) := by decide +kernel
theorem dX3_find_6 : decode cX3_find 6 = .ok (.iconst 0, 1) := by decide +kernel
theorem dX3_find_7 : decode cX3_find 7 = .ok (.aload_n 1, 1) := by decide +kernel
theorem dX3_find_8 : decode cX3_find 8 = .ok (.getfield 42, 3) := by decide +kernel
theorem dX3_find_11 : decode cX3_find 11 = .ok (.iconst 5, 1) := by decide +kernel
theorem dX3_find_12 : decode cX3_find 12 = .ok (.invokestatic 48, 3) := by decide +kernel
theorem dX3_find_15 : decode cX3_find 15 = .ok (.invokestatic 54, 3) := by decide +kernel
theorem dX3_find_18 : decode cX3_find 18 = .ok (.putfield 57, 3) := by decide +kernel
theorem dX3_find_21 : decode cX3_find 21 = .ok (.aload_n 0, 1) := by decide +kernel
theorem dX3_find_22 : decode cX3_find 22 = .ok (.iconst 0, 1) := by decide +kernel
theorem dX3_find_23 : decode cX3_find 23 = .ok (.putfield 58, 3) := by decide +kernel
theorem dX3_find_26 : decode cX3_find 26 = .ok (.aload_n 0, 1) := by decide +kernel
theorem dX3_find_27 : decode cX3_find 27 = .ok (.iconst 0, 1) := by decide +kernel
theorem dX3_find_28 : decode cX3_find 28 = .ok (.putfield 61, 3) := by decide +kernel
theorem dX3_find_31 : decode cX3_find 31 = .ok (.aload_n 0, 1) := by decide +kernel
theorem dX3_find_32 : decode cX3_find 32 = .ok (.dup, 1) := by decide +kernel
theorem dX3_find_33 : decode cX3_find 33 = .ok (.getfield 64, 3) := by decide +kernel
theorem dX3_find_36 : decode cX3_find 36 = .ok (.iconst 1, 1) := by decide +kernel
theorem dX3_find_37 : decode cX3_find 37 = .ok (.iadd, 1) := by decide +kernel
theorem dX3_find_38 : decode cX3_find 38 = .ok (.putfield 64, 3) := by decide +kernel
theorem dX3_find_41 : decode cX3_find 41 = .ok (.aload_n 0, 1) := by decide +kernel
theorem dX3_find_42 : decode cX3_find 42 = .ok (.invokevirtual 67, 3) := by decide +kernel
theorem dX3_find_45 : decode cX3_find 45 = .ok (.iconst 0, 1) := by decide +kernel
theorem dX3_find_46 : decode cX3_find 46 = .ok (.istore_n 2, 1) := by decide +kernel
theorem dX3_find_47 : decode cX3_find 47 = .ok (.iload_n 2, 1) := by decide +kernel
theorem dX3_find_48 : decode cX3_find 48 = .ok (.aload_n 0, 1) := by decide +kernel
theorem dX3_find_49 : decode cX3_find 49 = .ok (.getfield 57, 3) := by decide +kernel
theorem dX3_find_52 : decode cX3_find 52 = .ok (.if_icmp .ge 20, 3) := by decide +kernel
theorem dX3_find_55 : decode cX3_find 55 = .ok (.aload_n 0, 1) := by decide +kernel
theorem dX3_find_56 : decode cX3_find 56 = .ok (.getfield 21, 3) := by decide +kernel
theorem dX3_find_59 : decode cX3_find 59 = .ok (.iload_n 2, 1) := by decide +kernel
theorem dX3_find_60 : decode cX3_find 60 = .ok (.aload_n 1, 1) := by decide +kernel
theorem dX3_find_61 : decode cX3_find 61 = .ok (.iload_n 2, 1) := by decide +kernel
theorem dX3_find_62 : decode cX3_find 62 = .ok (.invokevirtual 70, 3) := by decide +kernel
theorem dX3_find_65 : decode cX3_find 65 = .ok (.iastore, 1) := by decide +kernel
theorem dX3_find_66 : decode cX3_find 66 = .ok (.iinc 2 1, 3) := by decide +kernel
theorem dX3_find_69 : decode cX3_find 69 = .ok (.goto (-22), 3) := by decide +kernel
theorem dX3_find_72 : decode cX3_find 72 = .ok (.aload_n 0, 1) := by decide +kernel
theorem dX3_find_73 : decode cX3_find 73 = .ok (.iconst 0, 1) := by decide +kernel
theorem dX3_find_74 : decode cX3_find 74 = .ok (.invokevirtual 74, 3) := by decide +kernel
theorem dX3_find_77 : decode cX3_find 77 = .ok (.iconst 0, 1) := by decide +kernel
theorem dX3_find_78 : decode cX3_find 78 = .ok (.istore_n 2, 1) := by decide +kernel
theorem dX3_find_79 : decode cX3_find 79 = .ok (.iload_n 2, 1) := by decide +kernel
theorem dX3_find_80 : decode cX3_find 80 = .ok (.aload_n 0, 1) := by decide +kernel
theorem dX3_find_81 : decode cX3_find 81 = .ok (.getfield 58, 3) := by decide +kernel
theorem dX3_find_84 : decode cX3_find 84 = .ok (.if_icmp .ge 20, 3) := by decide +kernel
theorem dX3_find_87 : decode cX3_find 87 = .ok (.iload_n 2, 1) := by decide +kernel
theorem dX3_find_88 : decode cX3_find 88 = .ok (.bipush 120, 2) := by decide +kernel
theorem dX3_find_90 : decode cX3_find 90 = .ok (.if_icmp .ge 14, 3) := by decide +kernel
theorem dX3_find_93 : decode cX3_find 93 = .ok (.aload_n 0, 1) := by decide +kernel
theorem dX3_find_94 : decode cX3_find 94 = .ok (.iload_n 2, 1) := by decide +kernel
theorem dX3_find_95 : decode cX3_find 95 = .ok (.invokevirtual 78, 3) := by decide +kernel
theorem dX3_find_98 : decode cX3_find 98 = .ok (.iinc 2 1, 3) := by decide +kernel
theorem dX3_find_101 : decode cX3_find 101 = .ok (.goto (-22), 3) := by decide +kernel
theorem dX3_find_104 : decode cX3_find 104 = .ok (.return_, 1) := by decide +kernel
theorem dX3_learn_0 : decode cX3_learn 0 = .ok (.iconst 0, 1) := by decide +kernel
theorem dX3_learn_1 : decode cX3_learn 1 = .ok (.istore_n 1, 1) := by decide +kernel
theorem dX3_learn_2 : decode cX3_learn 2 = .ok (.iload_n 1, 1) := by decide +kernel
theorem dX3_learn_3 : decode cX3_learn 3 = .ok (.aload_n 0, 1) := by decide +kernel
theorem dX3_learn_4 : decode cX3_learn 4 = .ok (.getfield 57, 3) := by decide +kernel
theorem dX3_learn_7 : decode cX3_learn 7 = .ok (.if_icmp .ge 131, 3) := by decide +kernel
theorem dX3_learn_10 : decode cX3_learn 10 = .ok (.aload_n 0, 1) := by decide +kernel
theorem dX3_learn_11 : decode cX3_learn 11 = .ok (.getfield 38, 3) := by decide +kernel
theorem dX3_learn_14 : decode cX3_learn 14 = .ok (.iload_n 1, 1) := by decide +kernel
theorem dX3_learn_15 : decode cX3_learn 15 = .ok (.invokevirtual 70, 3) := by decide +kernel
theorem dX3_learn_18 : decode cX3_learn 18 = .ok (.istore_n 2, 1) := by decide +kernel
theorem dX3_learn_19 : decode cX3_learn 19 = .ok (.aload_n 0, 1) := by decide +kernel
theorem dX3_learn_20 : decode cX3_learn 20 = .ok (.getfield 38, 3) := by decide +kernel
theorem dX3_learn_23 : decode cX3_learn 23 = .ok (.iload_n 2, 1) := by decide +kernel
theorem dX3_learn_24 : decode cX3_learn 24 = .ok (.invokevirtual 81, 3) := by decide +kernel
theorem dX3_learn_27 : decode cX3_learn 27 = .ok (.ifCond .ne 6, 3) := by decide +kernel
theorem dX3_learn_30 : decode cX3_learn 30 = .ok (.goto 102, 3) := by decide +kernel
theorem dX3_learn_33 : decode cX3_learn 33 = .ok (.aload_n 0, 1) := by decide +kernel
theorem dX3_learn_34 : decode cX3_learn 34 = .ok (.getfield 28, 3) := by decide +kernel
theorem dX3_learn_37 : decode cX3_learn 37 = .ok (.iload_n 2, 1) := by decide +kernel
theorem dX3_learn_38 : decode cX3_learn 38 = .ok (.aload_n 0, 1) := by decide +kernel
theorem dX3_learn_39 : decode cX3_learn 39 = .ok (.getfield 34, 3) := by decide +kernel
theorem dX3_learn_42 : decode cX3_learn 42 = .ok (.aload_n 0, 1) := by decide +kernel
theorem dX3_learn_43 : decode cX3_learn 43 = .ok (.getfield 38, 3) := by decide +kernel
theorem dX3_learn_46 : decode cX3_learn 46 = .ok (.iload_n 2, 1) := by decide +kernel
theorem dX3_learn_47 : decode cX3_learn 47 = .ok (.invokevirtual 85, 3) := by decide +kernel
theorem dX3_learn_50 : decode cX3_learn 50 = .ok (.iastore, 1) := by decide +kernel
theorem dX3_learn_51 : decode cX3_learn 51 = .ok (.aload_n 0, 1) := by decide +kernel
theorem dX3_learn_52 : decode cX3_learn 52 = .ok (.getfield 31, 3) := by decide +kernel
theorem dX3_learn_55 : decode cX3_learn 55 = .ok (.iload_n 2, 1) := by decide +kernel
theorem dX3_learn_56 : decode cX3_learn 56 = .ok (.aload_n 0, 1) := by decide +kernel
theorem dX3_learn_57 : decode cX3_learn 57 = .ok (.getfield 34, 3) := by decide +kernel
theorem dX3_learn_60 : decode cX3_learn 60 = .ok (.aload_n 0, 1) := by decide +kernel
theorem dX3_learn_61 : decode cX3_learn 61 = .ok (.getfield 38, 3) := by decide +kernel
theorem dX3_learn_64 : decode cX3_learn 64 = .ok (.iload_n 2, 1) := by decide +kernel
theorem dX3_learn_65 : decode cX3_learn 65 = .ok (.invokevirtual 91, 3) := by decide +kernel
theorem dX3_learn_68 : decode cX3_learn 68 = .ok (.iastore, 1) := by decide +kernel
theorem dX3_learn_69 : decode cX3_learn 69 = .ok (.iconst 0, 1) := by decide +kernel
theorem dX3_learn_70 : decode cX3_learn 70 = .ok (.istore_n 3, 1) := by decide +kernel
theorem dX3_learn_71 : decode cX3_learn 71 = .ok (.iload_n 3, 1) := by decide +kernel
theorem dX3_learn_72 : decode cX3_learn 72 = .ok (.aload_n 0, 1) := by decide +kernel
theorem dX3_learn_73 : decode cX3_learn 73 = .ok (.getfield 57, 3) := by decide +kernel
theorem dX3_learn_76 : decode cX3_learn 76 = .ok (.if_icmp .ge 56, 3) := by decide +kernel
theorem dX3_learn_79 : decode cX3_learn 79 = .ok (.aload_n 0, 1) := by decide +kernel
theorem dX3_learn_80 : decode cX3_learn 80 = .ok (.getfield 38, 3) := by decide +kernel
theorem dX3_learn_83 : decode cX3_learn 83 = .ok (.iload_n 3, 1) := by decide +kernel
theorem dX3_learn_84 : decode cX3_learn 84 = .ok (.invokevirtual 70, 3) := by decide +kernel
theorem dX3_learn_87 : decode cX3_learn 87 = .ok (.istore 4, 2) := by decide +kernel
theorem dX3_learn_89 : decode cX3_learn 89 = .ok (.aload_n 0, 1) := by decide +kernel
theorem dX3_learn_90 : decode cX3_learn 90 = .ok (.getfield 38, 3) := by decide +kernel
theorem dX3_learn_93 : decode cX3_learn 93 = .ok (.iload 4, 2) := by decide +kernel
theorem dX3_learn_95 : decode cX3_learn 95 = .ok (.invokevirtual 81, 3) := by decide +kernel
theorem dX3_learn_98 : decode cX3_learn 98 = .ok (.ifCond .eq 28, 3) := by decide +kernel
theorem dX3_learn_101 : decode cX3_learn 101 = .ok (.aload_n 0, 1) := by decide +kernel
theorem dX3_learn_102 : decode cX3_learn 102 = .ok (.getfield 24, 3) := by decide +kernel
theorem dX3_learn_105 : decode cX3_learn 105 = .ok (.iload_n 2, 1) := by decide +kernel
theorem dX3_learn_106 : decode cX3_learn 106 = .ok (.iconst 5, 1) := by decide +kernel
theorem dX3_learn_107 : decode cX3_learn 107 = .ok (.imul, 1) := by decide +kernel
theorem dX3_learn_108 : decode cX3_learn 108 = .ok (.iload 4, 2) := by decide +kernel
theorem dX3_learn_110 : decode cX3_learn 110 = .ok (.iadd, 1) := by decide +kernel
theorem dX3_learn_111 : decode cX3_learn 111 = .ok (.aload_n 0, 1) := by decide +kernel
theorem dX3_learn_112 : decode cX3_learn 112 = .ok (.getfield 34, 3) := by decide +kernel
theorem dX3_learn_115 : decode cX3_learn 115 = .ok (.aload_n 0, 1) := by decide +kernel
theorem dX3_learn_116 : decode cX3_learn 116 = .ok (.getfield 38, 3) := by decide +kernel
theorem dX3_learn_119 : decode cX3_learn 119 = .ok (.iload_n 2, 1) := by decide +kernel
theorem dX3_learn_120 : decode cX3_learn 120 = .ok (.iload 4, 2) := by decide +kernel
theorem dX3_learn_122 : decode cX3_learn 122 = .ok (.invokevirtual 94, 3) := by decide +kernel
theorem dX3_learn_125 : decode cX3_learn 125 = .ok (.bastore, 1) := by decide +kernel
theorem dX3_learn_126 : decode cX3_learn 126 = .ok (.iinc 3 1, 3) := by decide +kernel
theorem dX3_learn_129 : decode cX3_learn 129 = .ok (.goto (-58), 3) := by decide +kernel
theorem dX3_learn_132 : decode cX3_learn 132 = .ok (.iinc 1 1, 3) := by decide +kernel
theorem dX3_learn_135 : decode cX3_learn 135 = .ok (.goto (-133), 3) := by decide +kernel
theorem dX3_learn_138 : decode cX3_learn 138 = .ok (.return_, 1) := by decide +kernel
theorem dX3_minds_0 : decode cX3_minds 0 = .ok (.aload_n 0, 1) := by decide +kernel
theorem dX3_minds_1 : decode cX3_minds 1 = .ok (.getfield 38, 3) := by decide +kernel
theorem dX3_minds_4 : decode cX3_minds 4 = .ok (.iload_n 1, 1) := by decide +kernel
theorem dX3_minds_5 : decode cX3_minds 5 = .ok (.invokevirtual 81, 3) := by decide +kernel
theorem dX3_minds_8 : decode cX3_minds 8 = .ok (.ifCond .eq 27, 3) := by decide +kernel
theorem dX3_minds_11 : decode cX3_minds 11 = .ok (.aload_n 0, 1) := by decide +kernel
theorem dX3_minds_12 : decode cX3_minds 12 = .ok (.getfield 38, 3) := by decide +kernel
theorem dX3_minds_15 : decode cX3_minds 15 = .ok (.iload_n 2, 1) := by decide +kernel
theorem dX3_minds_16 : decode cX3_minds 16 = .ok (.invokevirtual 81, 3) := by decide +kernel
theorem dX3_minds_19 : decode cX3_minds 19 = .ok (.ifCond .eq 16, 3) := by decide +kernel
theorem dX3_minds_22 : decode cX3_minds 22 = .ok (.aload_n 0, 1) := by decide +kernel
theorem dX3_minds_23 : decode cX3_minds 23 = .ok (.getfield 24, 3) := by decide +kernel
theorem dX3_minds_26 : decode cX3_minds 26 = .ok (.iload_n 1, 1) := by decide +kernel
theorem dX3_minds_27 : decode cX3_minds 27 = .ok (.iconst 5, 1) := by decide +kernel
theorem dX3_minds_28 : decode cX3_minds 28 = .ok (.imul, 1) := by decide +kernel
theorem dX3_minds_29 : decode cX3_minds 29 = .ok (.iload_n 2, 1) := by decide +kernel
theorem dX3_minds_30 : decode cX3_minds 30 = .ok (.iadd, 1) := by decide +kernel
theorem dX3_minds_31 : decode cX3_minds 31 = .ok (.baload, 1) := by decide +kernel
theorem dX3_minds_32 : decode cX3_minds 32 = .ok (.ifCond .eq 7, 3) := by decide +kernel
theorem dX3_minds_35 : decode cX3_minds 35 = .ok (.iconst 1, 1) := by decide +kernel
theorem dX3_minds_36 : decode cX3_minds 36 = .ok (.goto 4, 3) := by decide +kernel
theorem dX3_minds_39 : decode cX3_minds 39 = .ok (.iconst 0, 1) := by decide +kernel
theorem dX3_minds_40 : decode cX3_minds 40 = .ok (.ireturn, 1) := by decide +kernel
theorem dX3_keep_0 : decode cX3_keep 0 = .ok (.iconst 0, 1) := by decide +kernel
theorem dX3_keep_1 : decode cX3_keep 1 = .ok (.istore_n 2, 1) := by decide +kernel
theorem dX3_keep_2 : decode cX3_keep 2 = .ok (.iconst 0, 1) := by decide +kernel
theorem dX3_keep_3 : decode cX3_keep 3 = .ok (.istore_n 3, 1) := by decide +kernel
theorem dX3_keep_4 : decode cX3_keep 4 = .ok (.iload_n 3, 1) := by decide +kernel
theorem dX3_keep_5 : decode cX3_keep 5 = .ok (.aload_n 0, 1) := by decide +kernel
theorem dX3_keep_6 : decode cX3_keep 6 = .ok (.getfield 57, 3) := by decide +kernel
theorem dX3_keep_9 : decode cX3_keep 9 = .ok (.if_icmp .ge 20, 3) := by decide +kernel
theorem dX3_keep_12 : decode cX3_keep 12 = .ok (.iload_n 2, 1) := by decide +kernel
theorem dX3_keep_13 : decode cX3_keep 13 = .ok (.iconst 5, 1) := by decide +kernel
theorem dX3_keep_14 : decode cX3_keep 14 = .ok (.imul, 1) := by decide +kernel
theorem dX3_keep_15 : decode cX3_keep 15 = .ok (.aload_n 0, 1) := by decide +kernel
theorem dX3_keep_16 : decode cX3_keep 16 = .ok (.getfield 21, 3) := by decide +kernel
theorem dX3_keep_19 : decode cX3_keep 19 = .ok (.iload_n 3, 1) := by decide +kernel
theorem dX3_keep_20 : decode cX3_keep 20 = .ok (.iaload, 1) := by decide +kernel
theorem dX3_keep_21 : decode cX3_keep 21 = .ok (.iadd, 1) := by decide +kernel
theorem dX3_keep_22 : decode cX3_keep 22 = .ok (.istore_n 2, 1) := by decide +kernel
theorem dX3_keep_23 : decode cX3_keep 23 = .ok (.iinc 3 1, 3) := by decide +kernel
theorem dX3_keep_26 : decode cX3_keep 26 = .ok (.goto (-22), 3) := by decide +kernel
theorem dX3_keep_29 : decode cX3_keep 29 = .ok (.iload_n 2, 1) := by decide +kernel
theorem dX3_keep_30 : decode cX3_keep 30 = .ok (.ifCond .lt 39, 3) := by decide +kernel
theorem dX3_keep_33 : decode cX3_keep 33 = .ok (.iload_n 2, 1) := by decide +kernel
theorem dX3_keep_34 : decode cX3_keep 34 = .ok (.sipush 3125, 3) := by decide +kernel
theorem dX3_keep_37 : decode cX3_keep 37 = .ok (.if_icmp .ge 32, 3) := by decide +kernel
theorem dX3_keep_40 : decode cX3_keep 40 = .ok (.aload_n 0, 1) := by decide +kernel
theorem dX3_keep_41 : decode cX3_keep 41 = .ok (.getfield 18, 3) := by decide +kernel
theorem dX3_keep_44 : decode cX3_keep 44 = .ok (.iload_n 2, 1) := by decide +kernel
theorem dX3_keep_45 : decode cX3_keep 45 = .ok (.iaload, 1) := by decide +kernel
theorem dX3_keep_46 : decode cX3_keep 46 = .ok (.aload_n 0, 1) := by decide +kernel
theorem dX3_keep_47 : decode cX3_keep 47 = .ok (.getfield 64, 3) := by decide +kernel
theorem dX3_keep_50 : decode cX3_keep 50 = .ok (.if_icmp .eq 19, 3) := by decide +kernel
theorem dX3_keep_53 : decode cX3_keep 53 = .ok (.aload_n 0, 1) := by decide +kernel
theorem dX3_keep_54 : decode cX3_keep 54 = .ok (.getfield 58, 3) := by decide +kernel
theorem dX3_keep_57 : decode cX3_keep 57 = .ok (.ifCond .lt 12, 3) := by decide +kernel
theorem dX3_keep_60 : decode cX3_keep 60 = .ok (.aload_n 0, 1) := by decide +kernel
theorem dX3_keep_61 : decode cX3_keep 61 = .ok (.getfield 58, 3) := by decide +kernel
theorem dX3_keep_64 : decode cX3_keep 64 = .ok (.bipush 120, 2) := by decide +kernel
theorem dX3_keep_66 : decode cX3_keep 66 = .ok (.if_icmp .lt 4, 3) := by decide +kernel
theorem dX3_keep_69 : decode cX3_keep 69 = .ok (.return_, 1) := by decide +kernel
theorem dX3_keep_70 : decode cX3_keep 70 = .ok (.aload_n 0, 1) := by decide +kernel
theorem dX3_keep_71 : decode cX3_keep 71 = .ok (.getfield 18, 3) := by decide +kernel
theorem dX3_keep_74 : decode cX3_keep 74 = .ok (.iload_n 2, 1) := by decide +kernel
theorem dX3_keep_75 : decode cX3_keep 75 = .ok (.aload_n 0, 1) := by decide +kernel
theorem dX3_keep_76 : decode cX3_keep 76 = .ok (.getfield 64, 3) := by decide +kernel
theorem dX3_keep_79 : decode cX3_keep 79 = .ok (.iastore, 1) := by decide +kernel
theorem dX3_keep_80 : decode cX3_keep 80 = .ok (.aload_n 0, 1) := by decide +kernel
theorem dX3_keep_81 : decode cX3_keep 81 = .ok (.getfield 11, 3) := by decide +kernel
theorem dX3_keep_84 : decode cX3_keep 84 = .ok (.aload_n 0, 1) := by decide +kernel
theorem dX3_keep_85 : decode cX3_keep 85 = .ok (.getfield 58, 3) := by decide +kernel
theorem dX3_keep_88 : decode cX3_keep 88 = .ok (.iload_n 2, 1) := by decide +kernel
theorem dX3_keep_89 : decode cX3_keep 89 = .ok (.iastore, 1) := by decide +kernel
theorem dX3_keep_90 : decode cX3_keep 90 = .ok (.aload_n 0, 1) := by decide +kernel
theorem dX3_keep_91 : decode cX3_keep 91 = .ok (.getfield 15, 3) := by decide +kernel
theorem dX3_keep_94 : decode cX3_keep 94 = .ok (.aload_n 0, 1) := by decide +kernel
theorem dX3_keep_95 : decode cX3_keep 95 = .ok (.getfield 58, 3) := by decide +kernel
theorem dX3_keep_98 : decode cX3_keep 98 = .ok (.iload_n 1, 1) := by decide +kernel
theorem dX3_keep_99 : decode cX3_keep 99 = .ok (.iastore, 1) := by decide +kernel
theorem dX3_keep_100 : decode cX3_keep 100 = .ok (.aload_n 0, 1) := by decide +kernel
theorem dX3_keep_101 : decode cX3_keep 101 = .ok (.dup, 1) := by decide +kernel
theorem dX3_keep_102 : decode cX3_keep 102 = .ok (.getfield 58, 3) := by decide +kernel
theorem dX3_keep_105 : decode cX3_keep 105 = .ok (.iconst 1, 1) := by decide +kernel
theorem dX3_keep_106 : decode cX3_keep 106 = .ok (.iadd, 1) := by decide +kernel
theorem dX3_keep_107 : decode cX3_keep 107 = .ok (.putfield 58, 3) := by decide +kernel
theorem dX3_keep_110 : decode cX3_keep 110 = .ok (.return_, 1) := by decide +kernel
theorem dX3_spread_0 : decode cX3_spread 0 = .ok (.aload_n 0, 1) := by decide +kernel
theorem dX3_spread_1 : decode cX3_spread 1 = .ok (.iload_n 1, 1) := by decide +kernel
theorem dX3_spread_2 : decode cX3_spread 2 = .ok (.invokevirtual 98, 3) := by decide +kernel
theorem dX3_spread_5 : decode cX3_spread 5 = .ok (.iconst 1, 1) := by decide +kernel
theorem dX3_spread_6 : decode cX3_spread 6 = .ok (.istore_n 2, 1) := by decide +kernel
theorem dX3_spread_7 : decode cX3_spread 7 = .ok (.iload_n 2, 1) := by decide +kernel
theorem dX3_spread_8 : decode cX3_spread 8 = .ok (.aload_n 0, 1) := by decide +kernel
theorem dX3_spread_9 : decode cX3_spread 9 = .ok (.getfield 57, 3) := by decide +kernel
theorem dX3_spread_12 : decode cX3_spread 12 = .ok (.if_icmp .ge 110, 3) := by decide +kernel
theorem dX3_spread_15 : decode cX3_spread 15 = .ok (.aload_n 0, 1) := by decide +kernel
theorem dX3_spread_16 : decode cX3_spread 16 = .ok (.getfield 21, 3) := by decide +kernel
theorem dX3_spread_19 : decode cX3_spread 19 = .ok (.iload_n 2, 1) := by decide +kernel
theorem dX3_spread_20 : decode cX3_spread 20 = .ok (.iconst 1, 1) := by decide +kernel
theorem dX3_spread_21 : decode cX3_spread 21 = .ok (.isub, 1) := by decide +kernel
theorem dX3_spread_22 : decode cX3_spread 22 = .ok (.iaload, 1) := by decide +kernel
theorem dX3_spread_23 : decode cX3_spread 23 = .ok (.istore_n 3, 1) := by decide +kernel
theorem dX3_spread_24 : decode cX3_spread 24 = .ok (.aload_n 0, 1) := by decide +kernel
theorem dX3_spread_25 : decode cX3_spread 25 = .ok (.getfield 21, 3) := by decide +kernel
theorem dX3_spread_28 : decode cX3_spread 28 = .ok (.iload_n 2, 1) := by decide +kernel
theorem dX3_spread_29 : decode cX3_spread 29 = .ok (.iaload, 1) := by decide +kernel
theorem dX3_spread_30 : decode cX3_spread 30 = .ok (.istore 4, 2) := by decide +kernel
theorem dX3_spread_32 : decode cX3_spread 32 = .ok (.aload_n 0, 1) := by decide +kernel
theorem dX3_spread_33 : decode cX3_spread 33 = .ok (.getfield 38, 3) := by decide +kernel
theorem dX3_spread_36 : decode cX3_spread 36 = .ok (.iload_n 2, 1) := by decide +kernel
theorem dX3_spread_37 : decode cX3_spread 37 = .ok (.iconst 1, 1) := by decide +kernel
theorem dX3_spread_38 : decode cX3_spread 38 = .ok (.isub, 1) := by decide +kernel
theorem dX3_spread_39 : decode cX3_spread 39 = .ok (.iload_n 3, 1) := by decide +kernel
theorem dX3_spread_40 : decode cX3_spread 40 = .ok (.invokevirtual 101, 3) := by decide +kernel
theorem dX3_spread_43 : decode cX3_spread 43 = .ok (.ifCond .ne 73, 3) := by decide +kernel
theorem dX3_spread_46 : decode cX3_spread 46 = .ok (.aload_n 0, 1) := by decide +kernel
theorem dX3_spread_47 : decode cX3_spread 47 = .ok (.iload_n 3, 1) := by decide +kernel
theorem dX3_spread_48 : decode cX3_spread 48 = .ok (.iload 4, 2) := by decide +kernel
theorem dX3_spread_50 : decode cX3_spread 50 = .ok (.invokevirtual 105, 3) := by decide +kernel
theorem dX3_spread_53 : decode cX3_spread 53 = .ok (.ifCond .eq 6, 3) := by decide +kernel
theorem dX3_spread_56 : decode cX3_spread 56 = .ok (.goto 60, 3) := by decide +kernel
theorem dX3_spread_59 : decode cX3_spread 59 = .ok (.aload_n 0, 1) := by decide +kernel
theorem dX3_spread_60 : decode cX3_spread 60 = .ok (.dup, 1) := by decide +kernel
theorem dX3_spread_61 : decode cX3_spread 61 = .ok (.getfield 61, 3) := by decide +kernel
theorem dX3_spread_64 : decode cX3_spread 64 = .ok (.iconst 1, 1) := by decide +kernel
theorem dX3_spread_65 : decode cX3_spread 65 = .ok (.iload_n 3, 1) := by decide +kernel
theorem dX3_spread_66 : decode cX3_spread 66 = .ok (.ishl, 1) := by decide +kernel
theorem dX3_spread_67 : decode cX3_spread 67 = .ok (.ior, 1) := by decide +kernel
theorem dX3_spread_68 : decode cX3_spread 68 = .ok (.putfield 61, 3) := by decide +kernel
theorem dX3_spread_71 : decode cX3_spread 71 = .ok (.aload_n 0, 1) := by decide +kernel
theorem dX3_spread_72 : decode cX3_spread 72 = .ok (.getfield 21, 3) := by decide +kernel
theorem dX3_spread_75 : decode cX3_spread 75 = .ok (.iload_n 2, 1) := by decide +kernel
theorem dX3_spread_76 : decode cX3_spread 76 = .ok (.iconst 1, 1) := by decide +kernel
theorem dX3_spread_77 : decode cX3_spread 77 = .ok (.isub, 1) := by decide +kernel
theorem dX3_spread_78 : decode cX3_spread 78 = .ok (.iload 4, 2) := by decide +kernel
theorem dX3_spread_80 : decode cX3_spread 80 = .ok (.iastore, 1) := by decide +kernel
theorem dX3_spread_81 : decode cX3_spread 81 = .ok (.aload_n 0, 1) := by decide +kernel
theorem dX3_spread_82 : decode cX3_spread 82 = .ok (.getfield 21, 3) := by decide +kernel
theorem dX3_spread_85 : decode cX3_spread 85 = .ok (.iload_n 2, 1) := by decide +kernel
theorem dX3_spread_86 : decode cX3_spread 86 = .ok (.iload_n 3, 1) := by decide +kernel
theorem dX3_spread_87 : decode cX3_spread 87 = .ok (.iastore, 1) := by decide +kernel
theorem dX3_spread_88 : decode cX3_spread 88 = .ok (.aload_n 0, 1) := by decide +kernel
theorem dX3_spread_89 : decode cX3_spread 89 = .ok (.aload_n 0, 1) := by decide +kernel
theorem dX3_spread_90 : decode cX3_spread 90 = .ok (.iload_n 1, 1) := by decide +kernel
theorem dX3_spread_91 : decode cX3_spread 91 = .ok (.invokevirtual 107, 3) := by decide +kernel
theorem dX3_spread_94 : decode cX3_spread 94 = .ok (.iconst 1, 1) := by decide +kernel
theorem dX3_spread_95 : decode cX3_spread 95 = .ok (.iadd, 1) := by decide +kernel
theorem dX3_spread_96 : decode cX3_spread 96 = .ok (.invokevirtual 74, 3) := by decide +kernel
theorem dX3_spread_99 : decode cX3_spread 99 = .ok (.aload_n 0, 1) := by decide +kernel
theorem dX3_spread_100 : decode cX3_spread 100 = .ok (.getfield 21, 3) := by decide +kernel
theorem dX3_spread_103 : decode cX3_spread 103 = .ok (.iload_n 2, 1) := by decide +kernel
theorem dX3_spread_104 : decode cX3_spread 104 = .ok (.iconst 1, 1) := by decide +kernel
theorem dX3_spread_105 : decode cX3_spread 105 = .ok (.isub, 1) := by decide +kernel
theorem dX3_spread_106 : decode cX3_spread 106 = .ok (.iload_n 3, 1) := by decide +kernel
theorem dX3_spread_107 : decode cX3_spread 107 = .ok (.iastore, 1) := by decide +kernel
theorem dX3_spread_108 : decode cX3_spread 108 = .ok (.aload_n 0, 1) := by decide +kernel
theorem dX3_spread_109 : decode cX3_spread 109 = .ok (.getfield 21, 3) := by decide +kernel
theorem dX3_spread_112 : decode cX3_spread 112 = .ok (.iload_n 2, 1) := by decide +kernel
theorem dX3_spread_113 : decode cX3_spread 113 = .ok (.iload 4, 2) := by decide +kernel
theorem dX3_spread_115 : decode cX3_spread 115 = .ok (.iastore, 1) := by decide +kernel
theorem dX3_spread_116 : decode cX3_spread 116 = .ok (.iinc 2 1, 3) := by decide +kernel
theorem dX3_spread_119 : decode cX3_spread 119 = .ok (.goto (-112), 3) := by decide +kernel
theorem dX3_spread_122 : decode cX3_spread 122 = .ok (.return_, 1) := by decide +kernel
theorem dX3_lay_0 : decode cX3_lay 0 = .ok (.iload_n 1, 1) := by decide +kernel
theorem dX3_lay_1 : decode cX3_lay 1 = .ok (.ifCond .lt 26, 3) := by decide +kernel
theorem dX3_lay_4 : decode cX3_lay 4 = .ok (.iload_n 1, 1) := by decide +kernel
theorem dX3_lay_5 : decode cX3_lay 5 = .ok (.aload_n 0, 1) := by decide +kernel
theorem dX3_lay_6 : decode cX3_lay 6 = .ok (.getfield 58, 3) := by decide +kernel
theorem dX3_lay_9 : decode cX3_lay 9 = .ok (.if_icmp .ge 18, 3) := by decide +kernel
theorem dX3_lay_12 : decode cX3_lay 12 = .ok (.iload_n 1, 1) := by decide +kernel
theorem dX3_lay_13 : decode cX3_lay 13 = .ok (.bipush 120, 2) := by decide +kernel
theorem dX3_lay_15 : decode cX3_lay 15 = .ok (.if_icmp .ge 12, 3) := by decide +kernel
theorem dX3_lay_18 : decode cX3_lay 18 = .ok (.aload_n 0, 1) := by decide +kernel
theorem dX3_lay_19 : decode cX3_lay 19 = .ok (.getfield 11, 3) := by decide +kernel
theorem dX3_lay_22 : decode cX3_lay 22 = .ok (.iload_n 1, 1) := by decide +kernel
theorem dX3_lay_23 : decode cX3_lay 23 = .ok (.iaload, 1) := by decide +kernel
theorem dX3_lay_24 : decode cX3_lay 24 = .ok (.goto 4, 3) := by decide +kernel
theorem dX3_lay_27 : decode cX3_lay 27 = .ok (.iconst 0, 1) := by decide +kernel
theorem dX3_lay_28 : decode cX3_lay 28 = .ok (.istore_n 2, 1) := by decide +kernel
theorem dX3_lay_29 : decode cX3_lay 29 = .ok (.aload_n 0, 1) := by decide +kernel
theorem dX3_lay_30 : decode cX3_lay 30 = .ok (.getfield 57, 3) := by decide +kernel
theorem dX3_lay_33 : decode cX3_lay 33 = .ok (.iconst 1, 1) := by decide +kernel
theorem dX3_lay_34 : decode cX3_lay 34 = .ok (.isub, 1) := by decide +kernel
theorem dX3_lay_35 : decode cX3_lay 35 = .ok (.istore_n 3, 1) := by decide +kernel
theorem dX3_lay_36 : decode cX3_lay 36 = .ok (.iload_n 3, 1) := by decide +kernel
theorem dX3_lay_37 : decode cX3_lay 37 = .ok (.ifCond .lt 22, 3) := by decide +kernel
theorem dX3_lay_40 : decode cX3_lay 40 = .ok (.aload_n 0, 1) := by decide +kernel
theorem dX3_lay_41 : decode cX3_lay 41 = .ok (.getfield 21, 3) := by decide +kernel
theorem dX3_lay_44 : decode cX3_lay 44 = .ok (.iload_n 3, 1) := by decide +kernel
theorem dX3_lay_45 : decode cX3_lay 45 = .ok (.iload_n 2, 1) := by decide +kernel
theorem dX3_lay_46 : decode cX3_lay 46 = .ok (.iconst 5, 1) := by decide +kernel
theorem dX3_lay_47 : decode cX3_lay 47 = .ok (.irem, 1) := by decide +kernel
theorem dX3_lay_48 : decode cX3_lay 48 = .ok (.iastore, 1) := by decide +kernel
theorem dX3_lay_49 : decode cX3_lay 49 = .ok (.iload_n 2, 1) := by decide +kernel
theorem dX3_lay_50 : decode cX3_lay 50 = .ok (.iconst 5, 1) := by decide +kernel
theorem dX3_lay_51 : decode cX3_lay 51 = .ok (.idiv, 1) := by decide +kernel
theorem dX3_lay_52 : decode cX3_lay 52 = .ok (.istore_n 2, 1) := by decide +kernel
theorem dX3_lay_53 : decode cX3_lay 53 = .ok (.iinc 3 (-1), 3) := by decide +kernel
theorem dX3_lay_56 : decode cX3_lay 56 = .ok (.goto (-20), 3) := by decide +kernel
theorem dX3_lay_59 : decode cX3_lay 59 = .ok (.return_, 1) := by decide +kernel
theorem dX3_passingsAt_0 : decode cX3_passingsAt 0 = .ok (.iload_n 1, 1) := by decide +kernel
theorem dX3_passingsAt_1 : decode cX3_passingsAt 1 = .ok (.ifCond .lt 26, 3) := by decide +kernel
theorem dX3_passingsAt_4 : decode cX3_passingsAt 4 = .ok (.iload_n 1, 1) := by decide +kernel
theorem dX3_passingsAt_5 : decode cX3_passingsAt 5 = .ok (.aload_n 0, 1) := by decide +kernel
theorem dX3_passingsAt_6 : decode cX3_passingsAt 6 = .ok (.getfield 58, 3) := by decide +kernel
theorem dX3_passingsAt_9 : decode cX3_passingsAt 9 = .ok (.if_icmp .ge 18, 3) := by decide +kernel
theorem dX3_passingsAt_12 : decode cX3_passingsAt 12 = .ok (.iload_n 1, 1) := by decide +kernel
theorem dX3_passingsAt_13 : decode cX3_passingsAt 13 = .ok (.bipush 120, 2) := by decide +kernel
theorem dX3_passingsAt_15 : decode cX3_passingsAt 15 = .ok (.if_icmp .ge 12, 3) := by decide +kernel
theorem dX3_passingsAt_18 : decode cX3_passingsAt 18 = .ok (.aload_n 0, 1) := by decide +kernel
theorem dX3_passingsAt_19 : decode cX3_passingsAt 19 = .ok (.getfield 15, 3) := by decide +kernel
theorem dX3_passingsAt_22 : decode cX3_passingsAt 22 = .ok (.iload_n 1, 1) := by decide +kernel
theorem dX3_passingsAt_23 : decode cX3_passingsAt 23 = .ok (.iaload, 1) := by decide +kernel
theorem dX3_passingsAt_24 : decode cX3_passingsAt 24 = .ok (.goto 4, 3) := by decide +kernel
theorem dX3_passingsAt_27 : decode cX3_passingsAt 27 = .ok (.iconst (-1), 1) := by decide +kernel
theorem dX3_passingsAt_28 : decode cX3_passingsAt 28 = .ok (.ireturn, 1) := by decide +kernel
theorem dX3_digitsAt_0 : decode cX3_digitsAt 0 = .ok (.aload_n 0, 1) := by decide +kernel
theorem dX3_digitsAt_1 : decode cX3_digitsAt 1 = .ok (.iload_n 1, 1) := by decide +kernel
theorem dX3_digitsAt_2 : decode cX3_digitsAt 2 = .ok (.invokevirtual 98, 3) := by decide +kernel
theorem dX3_digitsAt_5 : decode cX3_digitsAt 5 = .ok (.iconst 0, 1) := by decide +kernel
theorem dX3_digitsAt_6 : decode cX3_digitsAt 6 = .ok (.istore_n 2, 1) := by decide +kernel
theorem dX3_digitsAt_7 : decode cX3_digitsAt 7 = .ok (.iconst 0, 1) := by decide +kernel
theorem dX3_digitsAt_8 : decode cX3_digitsAt 8 = .ok (.istore_n 3, 1) := by decide +kernel
theorem dX3_digitsAt_9 : decode cX3_digitsAt 9 = .ok (.iload_n 3, 1) := by decide +kernel
theorem dX3_digitsAt_10 : decode cX3_digitsAt 10 = .ok (.aload_n 0, 1) := by decide +kernel
theorem dX3_digitsAt_11 : decode cX3_digitsAt 11 = .ok (.getfield 57, 3) := by decide +kernel
theorem dX3_digitsAt_14 : decode cX3_digitsAt 14 = .ok (.if_icmp .ge 23, 3) := by decide +kernel
theorem dX3_digitsAt_17 : decode cX3_digitsAt 17 = .ok (.iload_n 2, 1) := by decide +kernel
theorem dX3_digitsAt_18 : decode cX3_digitsAt 18 = .ok (.bipush 10, 2) := by decide +kernel
theorem dX3_digitsAt_20 : decode cX3_digitsAt 20 = .ok (.imul, 1) := by decide +kernel
theorem dX3_digitsAt_21 : decode cX3_digitsAt 21 = .ok (.aload_n 0, 1) := by decide +kernel
theorem dX3_digitsAt_22 : decode cX3_digitsAt 22 = .ok (.getfield 21, 3) := by decide +kernel
theorem dX3_digitsAt_25 : decode cX3_digitsAt 25 = .ok (.iload_n 3, 1) := by decide +kernel
theorem dX3_digitsAt_26 : decode cX3_digitsAt 26 = .ok (.iaload, 1) := by decide +kernel
theorem dX3_digitsAt_27 : decode cX3_digitsAt 27 = .ok (.iadd, 1) := by decide +kernel
theorem dX3_digitsAt_28 : decode cX3_digitsAt 28 = .ok (.iconst 1, 1) := by decide +kernel
theorem dX3_digitsAt_29 : decode cX3_digitsAt 29 = .ok (.iadd, 1) := by decide +kernel
theorem dX3_digitsAt_30 : decode cX3_digitsAt 30 = .ok (.istore_n 2, 1) := by decide +kernel
theorem dX3_digitsAt_31 : decode cX3_digitsAt 31 = .ok (.iinc 3 1, 3) := by decide +kernel
theorem dX3_digitsAt_34 : decode cX3_digitsAt 34 = .ok (.goto (-25), 3) := by decide +kernel
theorem dX3_digitsAt_37 : decode cX3_digitsAt 37 = .ok (.iload_n 2, 1) := by decide +kernel
theorem dX3_digitsAt_38 : decode cX3_digitsAt 38 = .ok (.ireturn, 1) := by decide +kernel
theorem dX3_waitAt_0 : decode cX3_waitAt 0 = .ok (.aload_n 0, 1) := by decide +kernel
theorem dX3_waitAt_1 : decode cX3_waitAt 1 = .ok (.iload_n 1, 1) := by decide +kernel
theorem dX3_waitAt_2 : decode cX3_waitAt 2 = .ok (.invokevirtual 98, 3) := by decide +kernel
theorem dX3_waitAt_5 : decode cX3_waitAt 5 = .ok (.iconst 0, 1) := by decide +kernel
theorem dX3_waitAt_6 : decode cX3_waitAt 6 = .ok (.istore_n 2, 1) := by decide +kernel
theorem dX3_waitAt_7 : decode cX3_waitAt 7 = .ok (.iconst 0, 1) := by decide +kernel
theorem dX3_waitAt_8 : decode cX3_waitAt 8 = .ok (.istore_n 3, 1) := by decide +kernel
theorem dX3_waitAt_9 : decode cX3_waitAt 9 = .ok (.iconst 0, 1) := by decide +kernel
theorem dX3_waitAt_10 : decode cX3_waitAt 10 = .ok (.istore 4, 2) := by decide +kernel
theorem dX3_waitAt_12 : decode cX3_waitAt 12 = .ok (.iload 4, 2) := by decide +kernel
theorem dX3_waitAt_14 : decode cX3_waitAt 14 = .ok (.aload_n 0, 1) := by decide +kernel
theorem dX3_waitAt_15 : decode cX3_waitAt 15 = .ok (.getfield 57, 3) := by decide +kernel
theorem dX3_waitAt_18 : decode cX3_waitAt 18 = .ok (.if_icmp .ge 91, 3) := by decide +kernel
theorem dX3_waitAt_21 : decode cX3_waitAt 21 = .ok (.aload_n 0, 1) := by decide +kernel
theorem dX3_waitAt_22 : decode cX3_waitAt 22 = .ok (.getfield 21, 3) := by decide +kernel
theorem dX3_waitAt_25 : decode cX3_waitAt 25 = .ok (.iload 4, 2) := by decide +kernel
theorem dX3_waitAt_27 : decode cX3_waitAt 27 = .ok (.iaload, 1) := by decide +kernel
theorem dX3_waitAt_28 : decode cX3_waitAt 28 = .ok (.istore 5, 2) := by decide +kernel
theorem dX3_waitAt_30 : decode cX3_waitAt 30 = .ok (.aload_n 0, 1) := by decide +kernel
theorem dX3_waitAt_31 : decode cX3_waitAt 31 = .ok (.getfield 38, 3) := by decide +kernel
theorem dX3_waitAt_34 : decode cX3_waitAt 34 = .ok (.iload 5, 2) := by decide +kernel
theorem dX3_waitAt_36 : decode cX3_waitAt 36 = .ok (.invokevirtual 81, 3) := by decide +kernel
theorem dX3_waitAt_39 : decode cX3_waitAt 39 = .ok (.ifCond .ne 6, 3) := by decide +kernel
theorem dX3_waitAt_42 : decode cX3_waitAt 42 = .ok (.goto 61, 3) := by decide +kernel
theorem dX3_waitAt_45 : decode cX3_waitAt 45 = .ok (.iload_n 3, 1) := by decide +kernel
theorem dX3_waitAt_46 : decode cX3_waitAt 46 = .ok (.iload_n 2, 1) := by decide +kernel
theorem dX3_waitAt_47 : decode cX3_waitAt 47 = .ok (.aload_n 0, 1) := by decide +kernel
theorem dX3_waitAt_48 : decode cX3_waitAt 48 = .ok (.getfield 31, 3) := by decide +kernel
theorem dX3_waitAt_51 : decode cX3_waitAt 51 = .ok (.iload 5, 2) := by decide +kernel
theorem dX3_waitAt_53 : decode cX3_waitAt 53 = .ok (.iaload, 1) := by decide +kernel
theorem dX3_waitAt_54 : decode cX3_waitAt 54 = .ok (.imul, 1) := by decide +kernel
theorem dX3_waitAt_55 : decode cX3_waitAt 55 = .ok (.iadd, 1) := by decide +kernel
theorem dX3_waitAt_56 : decode cX3_waitAt 56 = .ok (.istore_n 3, 1) := by decide +kernel
theorem dX3_waitAt_57 : decode cX3_waitAt 57 = .ok (.iload_n 2, 1) := by decide +kernel
theorem dX3_waitAt_58 : decode cX3_waitAt 58 = .ok (.iload 4, 2) := by decide +kernel
theorem dX3_waitAt_60 : decode cX3_waitAt 60 = .ok (.ifCond .ne 34, 3) := by decide +kernel
theorem dX3_waitAt_63 : decode cX3_waitAt 63 = .ok (.iconst 1, 1) := by decide +kernel
theorem dX3_waitAt_64 : decode cX3_waitAt 64 = .ok (.aload_n 0, 1) := by decide +kernel
theorem dX3_waitAt_65 : decode cX3_waitAt 65 = .ok (.getfield 28, 3) := by decide +kernel
theorem dX3_waitAt_68 : decode cX3_waitAt 68 = .ok (.iload 5, 2) := by decide +kernel
theorem dX3_waitAt_70 : decode cX3_waitAt 70 = .ok (.iaload, 1) := by decide +kernel
theorem dX3_waitAt_71 : decode cX3_waitAt 71 = .ok (.aload_n 0, 1) := by decide +kernel
theorem dX3_waitAt_72 : decode cX3_waitAt 72 = .ok (.getfield 38, 3) := by decide +kernel
theorem dX3_waitAt_75 : decode cX3_waitAt 75 = .ok (.aload_n 0, 1) := by decide +kernel
theorem dX3_waitAt_76 : decode cX3_waitAt 76 = .ok (.getfield 38, 3) := by decide +kernel
theorem dX3_waitAt_79 : decode cX3_waitAt 79 = .ok (.getfield 110, 3) := by decide +kernel
theorem dX3_waitAt_82 : decode cX3_waitAt 82 = .ok (.iload 5, 2) := by decide +kernel
theorem dX3_waitAt_84 : decode cX3_waitAt 84 = .ok (.invokevirtual 113, 3) := by decide +kernel
theorem dX3_waitAt_87 : decode cX3_waitAt 87 = .ok (.isub, 1) := by decide +kernel
theorem dX3_waitAt_88 : decode cX3_waitAt 88 = .ok (.invokestatic 54, 3) := by decide +kernel
theorem dX3_waitAt_91 : decode cX3_waitAt 91 = .ok (.goto 10, 3) := by decide +kernel
theorem dX3_waitAt_94 : decode cX3_waitAt 94 = .ok (.aload_n 0, 1) := by decide +kernel
theorem dX3_waitAt_95 : decode cX3_waitAt 95 = .ok (.getfield 28, 3) := by decide +kernel
theorem dX3_waitAt_98 : decode cX3_waitAt 98 = .ok (.iload 5, 2) := by decide +kernel
theorem dX3_waitAt_100 : decode cX3_waitAt 100 = .ok (.iaload, 1) := by decide +kernel
theorem dX3_waitAt_101 : decode cX3_waitAt 101 = .ok (.iadd, 1) := by decide +kernel
theorem dX3_waitAt_102 : decode cX3_waitAt 102 = .ok (.istore_n 2, 1) := by decide +kernel
theorem dX3_waitAt_103 : decode cX3_waitAt 103 = .ok (.iinc 4 1, 3) := by decide +kernel
theorem dX3_waitAt_106 : decode cX3_waitAt 106 = .ok (.goto (-94), 3) := by decide +kernel
theorem dX3_waitAt_109 : decode cX3_waitAt 109 = .ok (.iload_n 3, 1) := by decide +kernel
theorem dX3_waitAt_110 : decode cX3_waitAt 110 = .ok (.ireturn, 1) := by decide +kernel
theorem dX3_best_0 : decode cX3_best 0 = .ok (.iconst 0, 1) := by decide +kernel
theorem dX3_best_1 : decode cX3_best 1 = .ok (.istore_n 1, 1) := by decide +kernel
theorem dX3_best_2 : decode cX3_best 2 = .ok (.aload_n 0, 1) := by decide +kernel
theorem dX3_best_3 : decode cX3_best 3 = .ok (.iconst 0, 1) := by decide +kernel
theorem dX3_best_4 : decode cX3_best 4 = .ok (.invokevirtual 117, 3) := by decide +kernel
theorem dX3_best_7 : decode cX3_best 7 = .ok (.istore_n 2, 1) := by decide +kernel
theorem dX3_best_8 : decode cX3_best 8 = .ok (.iconst 1, 1) := by decide +kernel
theorem dX3_best_9 : decode cX3_best 9 = .ok (.istore_n 3, 1) := by decide +kernel
theorem dX3_best_10 : decode cX3_best 10 = .ok (.iload_n 3, 1) := by decide +kernel
theorem dX3_best_11 : decode cX3_best 11 = .ok (.aload_n 0, 1) := by decide +kernel
theorem dX3_best_12 : decode cX3_best 12 = .ok (.getfield 58, 3) := by decide +kernel
theorem dX3_best_15 : decode cX3_best 15 = .ok (.if_icmp .ge 81, 3) := by decide +kernel
theorem dX3_best_18 : decode cX3_best 18 = .ok (.iload_n 3, 1) := by decide +kernel
theorem dX3_best_19 : decode cX3_best 19 = .ok (.bipush 120, 2) := by decide +kernel
theorem dX3_best_21 : decode cX3_best 21 = .ok (.if_icmp .ge 75, 3) := by decide +kernel
theorem dX3_best_24 : decode cX3_best 24 = .ok (.aload_n 0, 1) := by decide +kernel
theorem dX3_best_25 : decode cX3_best 25 = .ok (.iload_n 3, 1) := by decide +kernel
theorem dX3_best_26 : decode cX3_best 26 = .ok (.invokevirtual 117, 3) := by decide +kernel
theorem dX3_best_29 : decode cX3_best 29 = .ok (.istore 4, 2) := by decide +kernel
theorem dX3_best_31 : decode cX3_best 31 = .ok (.aload_n 0, 1) := by decide +kernel
theorem dX3_best_32 : decode cX3_best 32 = .ok (.getfield 15, 3) := by decide +kernel
theorem dX3_best_35 : decode cX3_best 35 = .ok (.iload_n 3, 1) := by decide +kernel
theorem dX3_best_36 : decode cX3_best 36 = .ok (.iaload, 1) := by decide +kernel
theorem dX3_best_37 : decode cX3_best 37 = .ok (.aload_n 0, 1) := by decide +kernel
theorem dX3_best_38 : decode cX3_best 38 = .ok (.getfield 15, 3) := by decide +kernel
theorem dX3_best_41 : decode cX3_best 41 = .ok (.iload_n 1, 1) := by decide +kernel
theorem dX3_best_42 : decode cX3_best 42 = .ok (.iaload, 1) := by decide +kernel
theorem dX3_best_43 : decode cX3_best 43 = .ok (.if_icmp .ne 22, 3) := by decide +kernel
theorem dX3_best_46 : decode cX3_best 46 = .ok (.aload_n 0, 1) := by decide +kernel
theorem dX3_best_47 : decode cX3_best 47 = .ok (.getfield 11, 3) := by decide +kernel
theorem dX3_best_50 : decode cX3_best 50 = .ok (.iload_n 3, 1) := by decide +kernel
theorem dX3_best_51 : decode cX3_best 51 = .ok (.iaload, 1) := by decide +kernel
theorem dX3_best_52 : decode cX3_best 52 = .ok (.aload_n 0, 1) := by decide +kernel
theorem dX3_best_53 : decode cX3_best 53 = .ok (.getfield 11, 3) := by decide +kernel
theorem dX3_best_56 : decode cX3_best 56 = .ok (.iload_n 1, 1) := by decide +kernel
theorem dX3_best_57 : decode cX3_best 57 = .ok (.iaload, 1) := by decide +kernel
theorem dX3_best_58 : decode cX3_best 58 = .ok (.if_icmp .ge 7, 3) := by decide +kernel
theorem dX3_best_61 : decode cX3_best 61 = .ok (.iconst 1, 1) := by decide +kernel
theorem dX3_best_62 : decode cX3_best 62 = .ok (.goto 4, 3) := by decide +kernel
theorem dX3_best_65 : decode cX3_best 65 = .ok (.iconst 0, 1) := by decide +kernel
theorem dX3_best_66 : decode cX3_best 66 = .ok (.istore 5, 2) := by decide +kernel
theorem dX3_best_68 : decode cX3_best 68 = .ok (.iload 4, 2) := by decide +kernel
theorem dX3_best_70 : decode cX3_best 70 = .ok (.iload_n 2, 1) := by decide +kernel
theorem dX3_best_71 : decode cX3_best 71 = .ok (.if_icmp .lt 14, 3) := by decide +kernel
theorem dX3_best_74 : decode cX3_best 74 = .ok (.iload 4, 2) := by decide +kernel
theorem dX3_best_76 : decode cX3_best 76 = .ok (.iload_n 2, 1) := by decide +kernel
theorem dX3_best_77 : decode cX3_best 77 = .ok (.if_icmp .ne 13, 3) := by decide +kernel
theorem dX3_best_80 : decode cX3_best 80 = .ok (.iload 5, 2) := by decide +kernel
theorem dX3_best_82 : decode cX3_best 82 = .ok (.ifCond .eq 8, 3) := by decide +kernel
theorem dX3_best_85 : decode cX3_best 85 = .ok (.iload_n 3, 1) := by decide +kernel
theorem dX3_best_86 : decode cX3_best 86 = .ok (.istore_n 1, 1) := by decide +kernel
theorem dX3_best_87 : decode cX3_best 87 = .ok (.iload 4, 2) := by decide +kernel
theorem dX3_best_89 : decode cX3_best 89 = .ok (.istore_n 2, 1) := by decide +kernel
theorem dX3_best_90 : decode cX3_best 90 = .ok (.iinc 3 1, 3) := by decide +kernel
theorem dX3_best_93 : decode cX3_best 93 = .ok (.goto (-83), 3) := by decide +kernel
theorem dX3_best_96 : decode cX3_best 96 = .ok (.iload_n 1, 1) := by decide +kernel
theorem dX3_best_97 : decode cX3_best 97 = .ok (.ireturn, 1) := by decide +kernel
theorem dX3_passingsTo_0 : decode cX3_passingsTo 0 = .ok (.iconst 0, 1) := by decide +kernel
theorem dX3_passingsTo_1 : decode cX3_passingsTo 1 = .ok (.istore_n 2, 1) := by decide +kernel
theorem dX3_passingsTo_2 : decode cX3_passingsTo 2 = .ok (.iload_n 2, 1) := by decide +kernel
theorem dX3_passingsTo_3 : decode cX3_passingsTo 3 = .ok (.aload_n 0, 1) := by decide +kernel
theorem dX3_passingsTo_4 : decode cX3_passingsTo 4 = .ok (.getfield 58, 3) := by decide +kernel
theorem dX3_passingsTo_7 : decode cX3_passingsTo 7 = .ok (.if_icmp .ge 24, 3) := by decide +kernel
theorem dX3_passingsTo_10 : decode cX3_passingsTo 10 = .ok (.aload_n 0, 1) := by decide +kernel
theorem dX3_passingsTo_11 : decode cX3_passingsTo 11 = .ok (.iload_n 2, 1) := by decide +kernel
theorem dX3_passingsTo_12 : decode cX3_passingsTo 12 = .ok (.invokevirtual 120, 3) := by decide +kernel
theorem dX3_passingsTo_15 : decode cX3_passingsTo 15 = .ok (.iload_n 1, 1) := by decide +kernel
theorem dX3_passingsTo_16 : decode cX3_passingsTo 16 = .ok (.if_icmp .ne 9, 3) := by decide +kernel
theorem dX3_passingsTo_19 : decode cX3_passingsTo 19 = .ok (.aload_n 0, 1) := by decide +kernel
theorem dX3_passingsTo_20 : decode cX3_passingsTo 20 = .ok (.iload_n 2, 1) := by decide +kernel
theorem dX3_passingsTo_21 : decode cX3_passingsTo 21 = .ok (.invokevirtual 107, 3) := by decide +kernel
theorem dX3_passingsTo_24 : decode cX3_passingsTo 24 = .ok (.ireturn, 1) := by decide +kernel
theorem dX3_passingsTo_25 : decode cX3_passingsTo 25 = .ok (.iinc 2 1, 3) := by decide +kernel
theorem dX3_passingsTo_28 : decode cX3_passingsTo 28 = .ok (.goto (-26), 3) := by decide +kernel
theorem dX3_passingsTo_31 : decode cX3_passingsTo 31 = .ok (.iconst (-1), 1) := by decide +kernel
theorem dX3_passingsTo_32 : decode cX3_passingsTo 32 = .ok (.ireturn, 1) := by decide +kernel
theorem dX3_placeAt_0 : decode cX3_placeAt 0 = .ok (.aload_n 0, 1) := by decide +kernel
theorem dX3_placeAt_1 : decode cX3_placeAt 1 = .ok (.iload_n 1, 1) := by decide +kernel
theorem dX3_placeAt_2 : decode cX3_placeAt 2 = .ok (.invokevirtual 98, 3) := by decide +kernel
theorem dX3_placeAt_5 : decode cX3_placeAt 5 = .ok (.iconst 0, 1) := by decide +kernel
theorem dX3_placeAt_6 : decode cX3_placeAt 6 = .ok (.istore_n 3, 1) := by decide +kernel
theorem dX3_placeAt_7 : decode cX3_placeAt 7 = .ok (.iload_n 3, 1) := by decide +kernel
theorem dX3_placeAt_8 : decode cX3_placeAt 8 = .ok (.aload_n 0, 1) := by decide +kernel
theorem dX3_placeAt_9 : decode cX3_placeAt 9 = .ok (.getfield 57, 3) := by decide +kernel
theorem dX3_placeAt_12 : decode cX3_placeAt 12 = .ok (.if_icmp .ge 21, 3) := by decide +kernel
theorem dX3_placeAt_15 : decode cX3_placeAt 15 = .ok (.aload_n 0, 1) := by decide +kernel
theorem dX3_placeAt_16 : decode cX3_placeAt 16 = .ok (.getfield 21, 3) := by decide +kernel
theorem dX3_placeAt_19 : decode cX3_placeAt 19 = .ok (.iload_n 3, 1) := by decide +kernel
theorem dX3_placeAt_20 : decode cX3_placeAt 20 = .ok (.iaload, 1) := by decide +kernel
theorem dX3_placeAt_21 : decode cX3_placeAt 21 = .ok (.iload_n 2, 1) := by decide +kernel
theorem dX3_placeAt_22 : decode cX3_placeAt 22 = .ok (.if_icmp .ne 5, 3) := by decide +kernel
theorem dX3_placeAt_25 : decode cX3_placeAt 25 = .ok (.iload_n 3, 1) := by decide +kernel
theorem dX3_placeAt_26 : decode cX3_placeAt 26 = .ok (.ireturn, 1) := by decide +kernel
theorem dX3_placeAt_27 : decode cX3_placeAt 27 = .ok (.iinc 3 1, 3) := by decide +kernel
theorem dX3_placeAt_30 : decode cX3_placeAt 30 = .ok (.goto (-23), 3) := by decide +kernel
theorem dX3_placeAt_33 : decode cX3_placeAt 33 = .ok (.iconst 5, 1) := by decide +kernel
theorem dX3_placeAt_34 : decode cX3_placeAt 34 = .ok (.ireturn, 1) := by decide +kernel
theorem dX3_leastPlace_0 : decode cX3_leastPlace 0 = .ok (.iconst 5, 1) := by decide +kernel
theorem dX3_leastPlace_1 : decode cX3_leastPlace 1 = .ok (.istore_n 2, 1) := by decide +kernel
theorem dX3_leastPlace_2 : decode cX3_leastPlace 2 = .ok (.iconst 0, 1) := by decide +kernel
theorem dX3_leastPlace_3 : decode cX3_leastPlace 3 = .ok (.istore_n 3, 1) := by decide +kernel
theorem dX3_leastPlace_4 : decode cX3_leastPlace 4 = .ok (.iload_n 3, 1) := by decide +kernel
theorem dX3_leastPlace_5 : decode cX3_leastPlace 5 = .ok (.aload_n 0, 1) := by decide +kernel
theorem dX3_leastPlace_6 : decode cX3_leastPlace 6 = .ok (.getfield 58, 3) := by decide +kernel
theorem dX3_leastPlace_9 : decode cX3_leastPlace 9 = .ok (.if_icmp .ge 20, 3) := by decide +kernel
theorem dX3_leastPlace_12 : decode cX3_leastPlace 12 = .ok (.iload_n 2, 1) := by decide +kernel
theorem dX3_leastPlace_13 : decode cX3_leastPlace 13 = .ok (.aload_n 0, 1) := by decide +kernel
theorem dX3_leastPlace_14 : decode cX3_leastPlace 14 = .ok (.iload_n 3, 1) := by decide +kernel
theorem dX3_leastPlace_15 : decode cX3_leastPlace 15 = .ok (.iload_n 1, 1) := by decide +kernel
theorem dX3_leastPlace_16 : decode cX3_leastPlace 16 = .ok (.invokevirtual 123, 3) := by decide +kernel
theorem dX3_leastPlace_19 : decode cX3_leastPlace 19 = .ok (.invokestatic 48, 3) := by decide +kernel
theorem dX3_leastPlace_22 : decode cX3_leastPlace 22 = .ok (.istore_n 2, 1) := by decide +kernel
theorem dX3_leastPlace_23 : decode cX3_leastPlace 23 = .ok (.iinc 3 1, 3) := by decide +kernel
theorem dX3_leastPlace_26 : decode cX3_leastPlace 26 = .ok (.goto (-22), 3) := by decide +kernel
theorem dX3_leastPlace_29 : decode cX3_leastPlace 29 = .ok (.iload_n 2, 1) := by decide +kernel
theorem dX3_leastPlace_30 : decode cX3_leastPlace 30 = .ok (.ireturn, 1) := by decide +kernel
theorem dX3_nearest_0 : decode cX3_nearest 0 = .ok (.iconst 0, 1) := by decide +kernel
theorem dX3_nearest_1 : decode cX3_nearest 1 = .ok (.istore_n 3, 1) := by decide +kernel
theorem dX3_nearest_2 : decode cX3_nearest 2 = .ok (.iload_n 3, 1) := by decide +kernel
theorem dX3_nearest_3 : decode cX3_nearest 3 = .ok (.aload_n 0, 1) := by decide +kernel
theorem dX3_nearest_4 : decode cX3_nearest 4 = .ok (.getfield 58, 3) := by decide +kernel
theorem dX3_nearest_7 : decode cX3_nearest 7 = .ok (.if_icmp .ge 25, 3) := by decide +kernel
theorem dX3_nearest_10 : decode cX3_nearest 10 = .ok (.aload_n 0, 1) := by decide +kernel
theorem dX3_nearest_11 : decode cX3_nearest 11 = .ok (.iload_n 3, 1) := by decide +kernel
theorem dX3_nearest_12 : decode cX3_nearest 12 = .ok (.iload_n 1, 1) := by decide +kernel
theorem dX3_nearest_13 : decode cX3_nearest 13 = .ok (.invokevirtual 123, 3) := by decide +kernel
theorem dX3_nearest_16 : decode cX3_nearest 16 = .ok (.iload_n 2, 1) := by decide +kernel
theorem dX3_nearest_17 : decode cX3_nearest 17 = .ok (.if_icmp .ne 9, 3) := by decide +kernel
theorem dX3_nearest_20 : decode cX3_nearest 20 = .ok (.aload_n 0, 1) := by decide +kernel
theorem dX3_nearest_21 : decode cX3_nearest 21 = .ok (.iload_n 3, 1) := by decide +kernel
theorem dX3_nearest_22 : decode cX3_nearest 22 = .ok (.invokevirtual 107, 3) := by decide +kernel
theorem dX3_nearest_25 : decode cX3_nearest 25 = .ok (.ireturn, 1) := by decide +kernel
theorem dX3_nearest_26 : decode cX3_nearest 26 = .ok (.iinc 3 1, 3) := by decide +kernel
theorem dX3_nearest_29 : decode cX3_nearest 29 = .ok (.goto (-27), 3) := by decide +kernel
theorem dX3_nearest_32 : decode cX3_nearest 32 = .ok (.iconst (-1), 1) := by decide +kernel
theorem dX3_nearest_33 : decode cX3_nearest 33 = .ok (.ireturn, 1) := by decide +kernel
theorem dX3_walls_0 : decode cX3_walls 0 = .ok (.iconst 0, 1) := by decide +kernel
theorem dX3_walls_1 : decode cX3_walls 1 = .ok (.istore_n 1, 1) := by decide +kernel
theorem dX3_walls_2 : decode cX3_walls 2 = .ok (.iconst 0, 1) := by decide +kernel
theorem dX3_walls_3 : decode cX3_walls 3 = .ok (.istore_n 2, 1) := by decide +kernel
theorem dX3_walls_4 : decode cX3_walls 4 = .ok (.iload_n 2, 1) := by decide +kernel
theorem dX3_walls_5 : decode cX3_walls 5 = .ok (.aload_n 0, 1) := by decide +kernel
theorem dX3_walls_6 : decode cX3_walls 6 = .ok (.getfield 57, 3) := by decide +kernel
theorem dX3_walls_9 : decode cX3_walls 9 = .ok (.if_icmp .ge 35, 3) := by decide +kernel
theorem dX3_walls_12 : decode cX3_walls 12 = .ok (.aload_n 0, 1) := by decide +kernel
theorem dX3_walls_13 : decode cX3_walls 13 = .ok (.getfield 38, 3) := by decide +kernel
theorem dX3_walls_16 : decode cX3_walls 16 = .ok (.iload_n 2, 1) := by decide +kernel
theorem dX3_walls_17 : decode cX3_walls 17 = .ok (.invokevirtual 70, 3) := by decide +kernel
theorem dX3_walls_20 : decode cX3_walls 20 = .ok (.istore_n 3, 1) := by decide +kernel
theorem dX3_walls_21 : decode cX3_walls 21 = .ok (.aload_n 0, 1) := by decide +kernel
theorem dX3_walls_22 : decode cX3_walls 22 = .ok (.getfield 38, 3) := by decide +kernel
theorem dX3_walls_25 : decode cX3_walls 25 = .ok (.iload_n 3, 1) := by decide +kernel
theorem dX3_walls_26 : decode cX3_walls 26 = .ok (.invokevirtual 81, 3) := by decide +kernel
theorem dX3_walls_29 : decode cX3_walls 29 = .ok (.ifCond .eq 9, 3) := by decide +kernel
theorem dX3_walls_32 : decode cX3_walls 32 = .ok (.iload_n 1, 1) := by decide +kernel
theorem dX3_walls_33 : decode cX3_walls 33 = .ok (.iconst 1, 1) := by decide +kernel
theorem dX3_walls_34 : decode cX3_walls 34 = .ok (.iload_n 3, 1) := by decide +kernel
theorem dX3_walls_35 : decode cX3_walls 35 = .ok (.ishl, 1) := by decide +kernel
theorem dX3_walls_36 : decode cX3_walls 36 = .ok (.ior, 1) := by decide +kernel
theorem dX3_walls_37 : decode cX3_walls 37 = .ok (.istore_n 1, 1) := by decide +kernel
theorem dX3_walls_38 : decode cX3_walls 38 = .ok (.iinc 2 1, 3) := by decide +kernel
theorem dX3_walls_41 : decode cX3_walls 41 = .ok (.goto (-37), 3) := by decide +kernel
theorem dX3_walls_44 : decode cX3_walls 44 = .ok (.iload_n 1, 1) := by decide +kernel
theorem dX3_walls_45 : decode cX3_walls 45 = .ok (.aload_n 0, 1) := by decide +kernel
theorem dX3_walls_46 : decode cX3_walls 46 = .ok (.getfield 61, 3) := by decide +kernel
theorem dX3_walls_49 : decode cX3_walls 49 = .ok (.iconst (-1), 1) := by decide +kernel
theorem dX3_walls_50 : decode cX3_walls 50 = .ok (.ixor, 1) := by decide +kernel
theorem dX3_walls_51 : decode cX3_walls 51 = .ok (.iand, 1) := by decide +kernel
theorem dX3_walls_52 : decode cX3_walls 52 = .ok (.ireturn, 1) := by decide +kernel
theorem dX3_rings_0 : decode cX3_rings 0 = .ok (.iconst 0, 1) := by decide +kernel
theorem dX3_rings_1 : decode cX3_rings 1 = .ok (.istore_n 1, 1) := by decide +kernel
theorem dX3_rings_2 : decode cX3_rings 2 = .ok (.iconst 0, 1) := by decide +kernel
theorem dX3_rings_3 : decode cX3_rings 3 = .ok (.istore_n 2, 1) := by decide +kernel
theorem dX3_rings_4 : decode cX3_rings 4 = .ok (.iload_n 2, 1) := by decide +kernel
theorem dX3_rings_5 : decode cX3_rings 5 = .ok (.aload_n 0, 1) := by decide +kernel
theorem dX3_rings_6 : decode cX3_rings 6 = .ok (.getfield 57, 3) := by decide +kernel
theorem dX3_rings_9 : decode cX3_rings 9 = .ok (.if_icmp .ge 76, 3) := by decide +kernel
theorem dX3_rings_12 : decode cX3_rings 12 = .ok (.iload_n 2, 1) := by decide +kernel
theorem dX3_rings_13 : decode cX3_rings 13 = .ok (.iconst 1, 1) := by decide +kernel
theorem dX3_rings_14 : decode cX3_rings 14 = .ok (.iadd, 1) := by decide +kernel
theorem dX3_rings_15 : decode cX3_rings 15 = .ok (.istore_n 3, 1) := by decide +kernel
theorem dX3_rings_16 : decode cX3_rings 16 = .ok (.iload_n 3, 1) := by decide +kernel
theorem dX3_rings_17 : decode cX3_rings 17 = .ok (.aload_n 0, 1) := by decide +kernel
theorem dX3_rings_18 : decode cX3_rings 18 = .ok (.getfield 57, 3) := by decide +kernel
theorem dX3_rings_21 : decode cX3_rings 21 = .ok (.if_icmp .ge 58, 3) := by decide +kernel
theorem dX3_rings_24 : decode cX3_rings 24 = .ok (.aload_n 0, 1) := by decide +kernel
theorem dX3_rings_25 : decode cX3_rings 25 = .ok (.aload_n 0, 1) := by decide +kernel
theorem dX3_rings_26 : decode cX3_rings 26 = .ok (.getfield 38, 3) := by decide +kernel
theorem dX3_rings_29 : decode cX3_rings 29 = .ok (.iload_n 2, 1) := by decide +kernel
theorem dX3_rings_30 : decode cX3_rings 30 = .ok (.invokevirtual 70, 3) := by decide +kernel
theorem dX3_rings_33 : decode cX3_rings 33 = .ok (.aload_n 0, 1) := by decide +kernel
theorem dX3_rings_34 : decode cX3_rings 34 = .ok (.getfield 38, 3) := by decide +kernel
theorem dX3_rings_37 : decode cX3_rings 37 = .ok (.iload_n 3, 1) := by decide +kernel
theorem dX3_rings_38 : decode cX3_rings 38 = .ok (.invokevirtual 70, 3) := by decide +kernel
theorem dX3_rings_41 : decode cX3_rings 41 = .ok (.invokevirtual 105, 3) := by decide +kernel
theorem dX3_rings_44 : decode cX3_rings 44 = .ok (.ifCond .ne 29, 3) := by decide +kernel
theorem dX3_rings_47 : decode cX3_rings 47 = .ok (.aload_n 0, 1) := by decide +kernel
theorem dX3_rings_48 : decode cX3_rings 48 = .ok (.aload_n 0, 1) := by decide +kernel
theorem dX3_rings_49 : decode cX3_rings 49 = .ok (.getfield 38, 3) := by decide +kernel
theorem dX3_rings_52 : decode cX3_rings 52 = .ok (.iload_n 3, 1) := by decide +kernel
theorem dX3_rings_53 : decode cX3_rings 53 = .ok (.invokevirtual 70, 3) := by decide +kernel
theorem dX3_rings_56 : decode cX3_rings 56 = .ok (.aload_n 0, 1) := by decide +kernel
theorem dX3_rings_57 : decode cX3_rings 57 = .ok (.getfield 38, 3) := by decide +kernel
theorem dX3_rings_60 : decode cX3_rings 60 = .ok (.iload_n 2, 1) := by decide +kernel
theorem dX3_rings_61 : decode cX3_rings 61 = .ok (.invokevirtual 70, 3) := by decide +kernel
theorem dX3_rings_64 : decode cX3_rings 64 = .ok (.invokevirtual 105, 3) := by decide +kernel
theorem dX3_rings_67 : decode cX3_rings 67 = .ok (.ifCond .ne 6, 3) := by decide +kernel
theorem dX3_rings_70 : decode cX3_rings 70 = .ok (.iinc 1 1, 3) := by decide +kernel
theorem dX3_rings_73 : decode cX3_rings 73 = .ok (.iinc 3 1, 3) := by decide +kernel
theorem dX3_rings_76 : decode cX3_rings 76 = .ok (.goto (-60), 3) := by decide +kernel
theorem dX3_rings_79 : decode cX3_rings 79 = .ok (.iinc 2 1, 3) := by decide +kernel
theorem dX3_rings_82 : decode cX3_rings 82 = .ok (.goto (-78), 3) := by decide +kernel
theorem dX3_rings_85 : decode cX3_rings 85 = .ok (.iload_n 1, 1) := by decide +kernel
theorem dX3_rings_86 : decode cX3_rings 86 = .ok (.ireturn, 1) := by decide +kernel
theorem dX4_init_0 : decode cX4_init 0 = .ok (.aload_n 0, 1) := by decide +kernel
theorem dX4_init_1 : decode cX4_init 1 = .ok (.invokespecial 1, 3) := by decide +kernel
theorem dX4_init_4 : decode cX4_init 4 = .ok (.aload_n 0, 1) := by decide +kernel
theorem dX4_init_5 : decode cX4_init 5 = .ok (.bipush 40, 2) := by decide +kernel
theorem dX4_init_7 : decode cX4_init 7 = .ok (.newarray .int, 2) := by decide +kernel
theorem dX4_init_9 : decode cX4_init 9 = .ok (.putfield 9, 3) := by decide +kernel
theorem dX4_init_12 : decode cX4_init 12 = .ok (.aload_n 0, 1) := by decide +kernel
theorem dX4_init_13 : decode cX4_init 13 = .ok (.iconst (-1), 1) := by decide +kernel
theorem dX4_init_14 : decode cX4_init 14 = .ok (.putfield 13, 3) := by decide +kernel
theorem dX4_init_17 : decode cX4_init 17 = .ok (.return_, 1) := by decide +kernel
theorem dX4_isSort_0 : decode cX4_isSort 0 = .ok (.iload_n 0, 1) := by decide +kernel
theorem dX4_isSort_1 : decode cX4_isSort 1 = .ok (.ifCond .lt 12, 3) := by decide +kernel
theorem dX4_isSort_4 : decode cX4_isSort 4 = .ok (.iload_n 0, 1) := by decide +kernel
theorem dX4_isSort_5 : decode cX4_isSort 5 = .ok (.iconst 2, 1) := by decide +kernel
theorem dX4_isSort_6 : decode cX4_isSort 6 = .ok (.if_icmp .gt 7, 3) := by decide +kernel
theorem dX4_isSort_9 : decode cX4_isSort 9 = .ok (.iconst 1, 1) := by decide +kernel
theorem dX4_isSort_10 : decode cX4_isSort 10 = .ok (.goto 4, 3) := by decide +kernel
theorem dX4_isSort_13 : decode cX4_isSort 13 = .ok (.iconst 0, 1) := by decide +kernel
theorem dX4_isSort_14 : decode cX4_isSort 14 = .ok (.ireturn, 1) := by decide +kernel
theorem dX4_isMissing_0 : decode cX4_isMissing 0 = .ok (.aload_n 0, 1) := by decide +kernel
theorem dX4_isMissing_1 : decode cX4_isMissing 1 = .ok (.getfield 13, 3) := by decide +kernel
theorem dX4_isMissing_4 : decode cX4_isMissing 4 = .ok (.iconst (-1), 1) := by decide +kernel
theorem dX4_isMissing_5 : decode cX4_isMissing 5 = .ok (.if_icmp .ne 7, 3) := by decide +kernel
theorem dX4_isMissing_8 : decode cX4_isMissing 8 = .ok (.iconst 1, 1) := by decide +kernel
theorem dX4_isMissing_9 : decode cX4_isMissing 9 = .ok (.goto 4, 3) := by decide +kernel
theorem dX4_isMissing_12 : decode cX4_isMissing 12 = .ok (.iconst 0, 1) := by decide +kernel
theorem dX4_isMissing_13 : decode cX4_isMissing 13 = .ok (.ireturn, 1) := by decide +kernel
theorem dX4_hasItems_0 : decode cX4_hasItems 0 = .ok (.iload_n 1, 1) := by decide +kernel
theorem dX4_hasItems_1 : decode cX4_hasItems 1 = .ok (.ifCond .lt 29, 3) := by decide +kernel
theorem dX4_hasItems_4 : decode cX4_hasItems 4 = .ok (.iload_n 2, 1) := by decide +kernel
theorem dX4_hasItems_5 : decode cX4_hasItems 5 = .ok (.ifCond .lt 25, 3) := by decide +kernel
theorem dX4_hasItems_8 : decode cX4_hasItems 8 = .ok (.iload_n 1, 1) := by decide +kernel
theorem dX4_hasItems_9 : decode cX4_hasItems 9 = .ok (.aload_n 0, 1) := by decide +kernel
theorem dX4_hasItems_10 : decode cX4_hasItems 10 = .ok (.getfield 17, 3) := by decide +kernel
theorem dX4_hasItems_13 : decode cX4_hasItems 13 = .ok (.if_icmp .gt 17, 3) := by decide +kernel
theorem dX4_hasItems_16 : decode cX4_hasItems 16 = .ok (.iload_n 2, 1) := by decide +kernel
theorem dX4_hasItems_17 : decode cX4_hasItems 17 = .ok (.aload_n 0, 1) := by decide +kernel
theorem dX4_hasItems_18 : decode cX4_hasItems 18 = .ok (.getfield 17, 3) := by decide +kernel
theorem dX4_hasItems_21 : decode cX4_hasItems 21 = .ok (.iload_n 1, 1) := by decide +kernel
theorem dX4_hasItems_22 : decode cX4_hasItems 22 = .ok (.isub, 1) := by decide +kernel
theorem dX4_hasItems_23 : decode cX4_hasItems 23 = .ok (.if_icmp .gt 7, 3) := by decide +kernel
theorem dX4_hasItems_26 : decode cX4_hasItems 26 = .ok (.iconst 1, 1) := by decide +kernel
theorem dX4_hasItems_27 : decode cX4_hasItems 27 = .ok (.goto 4, 3) := by decide +kernel
theorem dX4_hasItems_30 : decode cX4_hasItems 30 = .ok (.iconst 0, 1) := by decide +kernel
theorem dX4_hasItems_31 : decode cX4_hasItems 31 = .ok (.ireturn, 1) := by decide +kernel
theorem dX4_lay_0 : decode cX4_lay 0 = .ok (.aload_n 0, 1) := by decide +kernel
theorem dX4_lay_1 : decode cX4_lay 1 = .ok (.iload_n 1, 1) := by decide +kernel
theorem dX4_lay_2 : decode cX4_lay 2 = .ok (.putfield 13, 3) := by decide +kernel
theorem dX4_lay_5 : decode cX4_lay 5 = .ok (.aload_n 0, 1) := by decide +kernel
theorem dX4_lay_6 : decode cX4_lay 6 = .ok (.iconst 0, 1) := by decide +kernel
theorem dX4_lay_7 : decode cX4_lay 7 = .ok (.iload_n 2, 1) := by decide +kernel
theorem dX4_lay_8 : decode cX4_lay 8 = .ok (.bipush 40, 2) := by decide +kernel
theorem dX4_lay_10 : decode cX4_lay 10 = .ok (.invokestatic 20, 3) := by decide +kernel
theorem dX4_lay_13 : decode cX4_lay 13 = .ok (.invokestatic 26, 3) := by decide +kernel
theorem dX4_lay_16 : decode cX4_lay 16 = .ok (.putfield 17, 3) := by decide +kernel
theorem dX4_lay_19 : decode cX4_lay 19 = .ok (.iconst 0, 1) := by decide +kernel
theorem dX4_lay_20 : decode cX4_lay 20 = .ok (.istore_n 3, 1) := by decide +kernel
theorem dX4_lay_21 : decode cX4_lay 21 = .ok (.iload_n 3, 1) := by decide +kernel
theorem dX4_lay_22 : decode cX4_lay 22 = .ok (.bipush 40, 2) := by decide +kernel
theorem dX4_lay_24 : decode cX4_lay 24 = .ok (.if_icmp .ge 16, 3) := by decide +kernel
theorem dX4_lay_27 : decode cX4_lay 27 = .ok (.aload_n 0, 1) := by decide +kernel
theorem dX4_lay_28 : decode cX4_lay 28 = .ok (.getfield 9, 3) := by decide +kernel
theorem dX4_lay_31 : decode cX4_lay 31 = .ok (.iload_n 3, 1) := by decide +kernel
theorem dX4_lay_32 : decode cX4_lay 32 = .ok (.iconst 0, 1) := by decide +kernel
theorem dX4_lay_33 : decode cX4_lay 33 = .ok (.iastore, 1) := by decide +kernel
theorem dX4_lay_34 : decode cX4_lay 34 = .ok (.iinc 3 1, 3) := by decide +kernel
theorem dX4_lay_37 : decode cX4_lay 37 = .ok (.goto (-16), 3) := by decide +kernel
theorem dX4_lay_40 : decode cX4_lay 40 = .ok (.return_, 1) := by decide +kernel
theorem dX4_item_0 : decode cX4_item 0 = .ok (.iload_n 1, 1) := by decide +kernel
theorem dX4_item_1 : decode cX4_item 1 = .ok (.ifCond .lt 26, 3) := by decide +kernel
theorem dX4_item_4 : decode cX4_item 4 = .ok (.iload_n 1, 1) := by decide +kernel
theorem dX4_item_5 : decode cX4_item 5 = .ok (.aload_n 0, 1) := by decide +kernel
theorem dX4_item_6 : decode cX4_item 6 = .ok (.getfield 17, 3) := by decide +kernel
theorem dX4_item_9 : decode cX4_item 9 = .ok (.if_icmp .ge 18, 3) := by decide +kernel
theorem dX4_item_12 : decode cX4_item 12 = .ok (.iload_n 1, 1) := by decide +kernel
theorem dX4_item_13 : decode cX4_item 13 = .ok (.bipush 40, 2) := by decide +kernel
theorem dX4_item_15 : decode cX4_item 15 = .ok (.if_icmp .ge 12, 3) := by decide +kernel
theorem dX4_item_18 : decode cX4_item 18 = .ok (.aload_n 0, 1) := by decide +kernel
theorem dX4_item_19 : decode cX4_item 19 = .ok (.getfield 9, 3) := by decide +kernel
theorem dX4_item_22 : decode cX4_item 22 = .ok (.iload_n 1, 1) := by decide +kernel
theorem dX4_item_23 : decode cX4_item 23 = .ok (.iaload, 1) := by decide +kernel
theorem dX4_item_24 : decode cX4_item 24 = .ok (.goto 4, 3) := by decide +kernel
theorem dX4_item_27 : decode cX4_item 27 = .ok (.iconst 0, 1) := by decide +kernel
theorem dX4_item_28 : decode cX4_item 28 = .ok (.ireturn, 1) := by decide +kernel
theorem dX4_put_0 : decode cX4_put 0 = .ok (.iload_n 1, 1) := by decide +kernel
theorem dX4_put_1 : decode cX4_put 1 = .ok (.ifCond .lt 49, 3) := by decide +kernel
theorem dX4_put_4 : decode cX4_put 4 = .ok (.iload_n 1, 1) := by decide +kernel
theorem dX4_put_5 : decode cX4_put 5 = .ok (.aload_n 0, 1) := by decide +kernel
theorem dX4_put_6 : decode cX4_put 6 = .ok (.getfield 17, 3) := by decide +kernel
theorem dX4_put_9 : decode cX4_put 9 = .ok (.if_icmp .ge 41, 3) := by decide +kernel
theorem dX4_put_12 : decode cX4_put 12 = .ok (.iload_n 1, 1) := by decide +kernel
theorem dX4_put_13 : decode cX4_put 13 = .ok (.bipush 40, 2) := by decide +kernel
theorem dX4_put_15 : decode cX4_put 15 = .ok (.if_icmp .ge 35, 3) := by decide +kernel
theorem dX4_put_18 : decode cX4_put 18 = .ok (.aload_n 0, 1) := by decide +kernel
theorem dX4_put_19 : decode cX4_put 19 = .ok (.getfield 9, 3) := by decide +kernel
theorem dX4_put_22 : decode cX4_put 22 = .ok (.iload_n 1, 1) := by decide +kernel
theorem dX4_put_23 : decode cX4_put 23 = .ok (.aload_n 0, 1) := by decide +kernel
theorem dX4_put_24 : decode cX4_put 24 = .ok (.getfield 13, 3) := by decide +kernel
theorem dX4_put_27 : decode cX4_put 27 = .ok (.ifCond .ne 8, 3) := by decide +kernel
theorem dX4_put_30 : decode cX4_put 30 = .ok (.iload_n 2, 1) := by decide +kernel
theorem dX4_put_31 : decode cX4_put 31 = .ok (.i2b, 1) := by decide +kernel
theorem dX4_put_32 : decode cX4_put 32 = .ok (.goto 17, 3) := by decide +kernel
theorem dX4_put_35 : decode cX4_put 35 = .ok (.aload_n 0, 1) := by decide +kernel
theorem dX4_put_36 : decode cX4_put 36 = .ok (.getfield 13, 3) := by decide +kernel
theorem dX4_put_39 : decode cX4_put 39 = .ok (.iconst 1, 1) := by decide +kernel
theorem dX4_put_40 : decode cX4_put 40 = .ok (.if_icmp .ne 8, 3) := by decide +kernel
theorem dX4_put_43 : decode cX4_put 43 = .ok (.iload_n 2, 1) := by decide +kernel
theorem dX4_put_44 : decode cX4_put 44 = .ok (.i2s, 1) := by decide +kernel
theorem dX4_put_45 : decode cX4_put 45 = .ok (.goto 4, 3) := by decide +kernel
theorem dX4_put_48 : decode cX4_put 48 = .ok (.iload_n 2, 1) := by decide +kernel
theorem dX4_put_49 : decode cX4_put 49 = .ok (.iastore, 1) := by decide +kernel
theorem dX4_put_50 : decode cX4_put 50 = .ok (.return_, 1) := by decide +kernel
theorem dX4_carry_0 : decode cX4_carry 0 = .ok (.aload_n 0, 1) := by decide +kernel
theorem dX4_carry_1 : decode cX4_carry 1 = .ok (.iload_n 1, 1) := by decide +kernel
theorem dX4_carry_2 : decode cX4_carry 2 = .ok (.iload 4, 2) := by decide +kernel
theorem dX4_carry_4 : decode cX4_carry 4 = .ok (.invokevirtual 29, 3) := by decide +kernel
theorem dX4_carry_7 : decode cX4_carry 7 = .ok (.ifCond .eq 28, 3) := by decide +kernel
theorem dX4_carry_10 : decode cX4_carry 10 = .ok (.aload_n 2, 1) := by decide +kernel
theorem dX4_carry_11 : decode cX4_carry 11 = .ok (.iload_n 3, 1) := by decide +kernel
theorem dX4_carry_12 : decode cX4_carry 12 = .ok (.iload 4, 2) := by decide +kernel
theorem dX4_carry_14 : decode cX4_carry 14 = .ok (.invokevirtual 29, 3) := by decide +kernel
theorem dX4_carry_17 : decode cX4_carry 17 = .ok (.ifCond .eq 18, 3) := by decide +kernel
theorem dX4_carry_20 : decode cX4_carry 20 = .ok (.aload_n 0, 1) := by decide +kernel
theorem dX4_carry_21 : decode cX4_carry 21 = .ok (.getfield 9, 3) := by decide +kernel
theorem dX4_carry_24 : decode cX4_carry 24 = .ok (.iload_n 1, 1) := by decide +kernel
theorem dX4_carry_25 : decode cX4_carry 25 = .ok (.aload_n 2, 1) := by decide +kernel
theorem dX4_carry_26 : decode cX4_carry 26 = .ok (.getfield 9, 3) := by decide +kernel
theorem dX4_carry_29 : decode cX4_carry 29 = .ok (.iload_n 3, 1) := by decide +kernel
theorem dX4_carry_30 : decode cX4_carry 30 = .ok (.iload 4, 2) := by decide +kernel
theorem dX4_carry_32 : decode cX4_carry 32 = .ok (.invokestatic 33, 3) := by decide +kernel
theorem dX4_carry_35 : decode cX4_carry 35 = .ok (.return_, 1) := by decide +kernel
theorem dX5_init_0 : decode cX5_init 0 = .ok (.aload_n 0, 1) := by decide +kernel
theorem dX5_init_1 : decode cX5_init 1 = .ok (.invokespecial 1, 3) := by decide +kernel
theorem dX5_init_4 : decode cX5_init 4 = .ok (.aload_n 0, 1) := by decide +kernel
theorem dX5_init_5 : decode cX5_init 5 = .ok (.sipush 160, 3) := by decide +kernel
theorem dX5_init_8 : decode cX5_init 8 = .ok (.newarray .int, 2) := by decide +kernel
theorem dX5_init_10 : decode cX5_init 10 = .ok (.putfield 9, 3) := by decide +kernel
theorem dX5_init_13 : decode cX5_init 13 = .ok (.aload_n 0, 1) := by decide +kernel
theorem dX5_init_14 : decode cX5_init 14 = .ok (.iconst 3, 1) := by decide +kernel
theorem dX5_init_15 : decode cX5_init 15 = .ok (.newarray .int, 2) := by decide +kernel
theorem dX5_init_17 : decode cX5_init 17 = .ok (.putfield 15, 3) := by decide +kernel
theorem dX5_init_20 : decode cX5_init 20 = .ok (.aload_n 0, 1) := by decide +kernel
theorem dX5_init_21 : decode cX5_init 21 = .ok (.sipush 160, 3) := by decide +kernel
theorem dX5_init_24 : decode cX5_init 24 = .ok (.newarray .int, 2) := by decide +kernel
theorem dX5_init_26 : decode cX5_init 26 = .ok (.putfield 18, 3) := by decide +kernel
theorem dX5_init_29 : decode cX5_init 29 = .ok (.return_, 1) := by decide +kernel
theorem dX5_clear_0 : decode cX5_clear 0 = .ok (.aload_n 0, 1) := by decide +kernel
theorem dX5_clear_1 : decode cX5_clear 1 = .ok (.iconst 0, 1) := by decide +kernel
theorem dX5_clear_2 : decode cX5_clear 2 = .ok (.putfield 21, 3) := by decide +kernel
theorem dX5_clear_5 : decode cX5_clear 5 = .ok (.return_, 1) := by decide +kernel
theorem dX5_write_0 : decode cX5_write 0 = .ok (.aload_n 0, 1) := by decide +kernel
theorem dX5_write_1 : decode cX5_write 1 = .ok (.getfield 21, 3) := by decide +kernel
theorem dX5_write_4 : decode cX5_write 4 = .ok (.ifCond .lt 35, 3) := by decide +kernel
theorem dX5_write_7 : decode cX5_write 7 = .ok (.aload_n 0, 1) := by decide +kernel
theorem dX5_write_8 : decode cX5_write 8 = .ok (.getfield 21, 3) := by decide +kernel
theorem dX5_write_11 : decode cX5_write 11 = .ok (.aload_n 0, 1) := by decide +kernel
theorem dX5_write_12 : decode cX5_write 12 = .ok (.getfield 9, 3) := by decide +kernel
theorem dX5_write_15 : decode cX5_write 15 = .ok (.arraylength, 1) := by decide +kernel
theorem dX5_write_16 : decode cX5_write 16 = .ok (.if_icmp .ge 23, 3) := by decide +kernel
theorem dX5_write_19 : decode cX5_write 19 = .ok (.aload_n 0, 1) := by decide +kernel
theorem dX5_write_20 : decode cX5_write 20 = .ok (.getfield 9, 3) := by decide +kernel
theorem dX5_write_23 : decode cX5_write 23 = .ok (.aload_n 0, 1) := by decide +kernel
theorem dX5_write_24 : decode cX5_write 24 = .ok (.getfield 21, 3) := by decide +kernel
theorem dX5_write_27 : decode cX5_write 27 = .ok (.iload_n 1, 1) := by decide +kernel
theorem dX5_write_28 : decode cX5_write 28 = .ok (.iastore, 1) := by decide +kernel
theorem dX5_write_29 : decode cX5_write 29 = .ok (.aload_n 0, 1) := by decide +kernel
theorem dX5_write_30 : decode cX5_write 30 = .ok (.dup, 1) := by decide +kernel
theorem dX5_write_31 : decode cX5_write 31 = .ok (.getfield 21, 3) := by decide +kernel
theorem dX5_write_34 : decode cX5_write 34 = .ok (.iconst 1, 1) := by decide +kernel
theorem dX5_write_35 : decode cX5_write 35 = .ok (.iadd, 1) := by decide +kernel
theorem dX5_write_36 : decode cX5_write 36 = .ok (.putfield 21, 3) := by decide +kernel
theorem dX5_write_39 : decode cX5_write 39 = .ok (.return_, 1) := by decide +kernel
theorem dX5_endPart_0 : decode cX5_endPart 0 = .ok (.iload_n 1, 1) := by decide +kernel
theorem dX5_endPart_1 : decode cX5_endPart 1 = .ok (.ifCond .lt 18, 3) := by decide +kernel
theorem dX5_endPart_4 : decode cX5_endPart 4 = .ok (.iload_n 1, 1) := by decide +kernel
theorem dX5_endPart_5 : decode cX5_endPart 5 = .ok (.iconst 3, 1) := by decide +kernel
theorem dX5_endPart_6 : decode cX5_endPart 6 = .ok (.if_icmp .ge 13, 3) := by decide +kernel
theorem dX5_endPart_9 : decode cX5_endPart 9 = .ok (.aload_n 0, 1) := by decide +kernel
theorem dX5_endPart_10 : decode cX5_endPart 10 = .ok (.getfield 15, 3) := by decide +kernel
theorem dX5_endPart_13 : decode cX5_endPart 13 = .ok (.iload_n 1, 1) := by decide +kernel
theorem dX5_endPart_14 : decode cX5_endPart 14 = .ok (.aload_n 0, 1) := by decide +kernel
theorem dX5_endPart_15 : decode cX5_endPart 15 = .ok (.getfield 21, 3) := by decide +kernel
theorem dX5_endPart_18 : decode cX5_endPart 18 = .ok (.iastore, 1) := by decide +kernel
theorem dX5_endPart_19 : decode cX5_endPart 19 = .ok (.return_, 1) := by decide +kernel
theorem dX5_worth_0 : decode cX5_worth 0 = .ok (.iload_n 1, 1) := by decide +kernel
theorem dX5_worth_1 : decode cX5_worth 1 = .ok (.ifCond .lt 8, 3) := by decide +kernel
theorem dX5_worth_4 : decode cX5_worth 4 = .ok (.iload_n 1, 1) := by decide +kernel
theorem dX5_worth_5 : decode cX5_worth 5 = .ok (.iconst 3, 1) := by decide +kernel
theorem dX5_worth_6 : decode cX5_worth 6 = .ok (.if_icmp .lt 5, 3) := by decide +kernel
theorem dX5_worth_9 : decode cX5_worth 9 = .ok (.iconst 0, 1) := by decide +kernel
theorem dX5_worth_10 : decode cX5_worth 10 = .ok (.ireturn, 1) := by decide +kernel
theorem dX5_worth_11 : decode cX5_worth 11 = .ok (.aload_n 0, 1) := by decide +kernel
theorem dX5_worth_12 : decode cX5_worth 12 = .ok (.iconst 0, 1) := by decide +kernel
theorem dX5_worth_13 : decode cX5_worth 13 = .ok (.putfield 25, 3) := by decide +kernel
theorem dX5_worth_16 : decode cX5_worth 16 = .ok (.iload_n 1, 1) := by decide +kernel
theorem dX5_worth_17 : decode cX5_worth 17 = .ok (.ifCond .ne 7, 3) := by decide +kernel
theorem dX5_worth_20 : decode cX5_worth 20 = .ok (.iconst 0, 1) := by decide +kernel
theorem dX5_worth_21 : decode cX5_worth 21 = .ok (.goto 11, 3) := by decide +kernel
theorem dX5_worth_24 : decode cX5_worth 24 = .ok (.aload_n 0, 1) := by decide +kernel
theorem dX5_worth_25 : decode cX5_worth 25 = .ok (.getfield 15, 3) := by decide +kernel
theorem dX5_worth_28 : decode cX5_worth 28 = .ok (.iload_n 1, 1) := by decide +kernel
theorem dX5_worth_29 : decode cX5_worth 29 = .ok (.iconst 1, 1) := by decide +kernel
theorem dX5_worth_30 : decode cX5_worth 30 = .ok (.isub, 1) := by decide +kernel
theorem dX5_worth_31 : decode cX5_worth 31 = .ok (.iaload, 1) := by decide +kernel
theorem dX5_worth_32 : decode cX5_worth 32 = .ok (.istore 5, 2) := by decide +kernel
theorem dX5_worth_34 : decode cX5_worth 34 = .ok (.iload 5, 2) := by decide +kernel
theorem dX5_worth_36 : decode cX5_worth 36 = .ok (.iconst 0, 1) := by decide +kernel
theorem dX5_worth_37 : decode cX5_worth 37 = .ok (.invokestatic 28, 3) := by decide +kernel
theorem dX5_worth_40 : decode cX5_worth 40 = .ok (.istore 6, 2) := by decide +kernel
theorem dX5_worth_42 : decode cX5_worth 42 = .ok (.iload 6, 2) := by decide +kernel
theorem dX5_worth_44 : decode cX5_worth 44 = .ok (.aload_n 0, 1) := by decide +kernel
theorem dX5_worth_45 : decode cX5_worth 45 = .ok (.getfield 15, 3) := by decide +kernel
theorem dX5_worth_48 : decode cX5_worth 48 = .ok (.iload_n 1, 1) := by decide +kernel
theorem dX5_worth_49 : decode cX5_worth 49 = .ok (.iaload, 1) := by decide +kernel
theorem dX5_worth_50 : decode cX5_worth 50 = .ok (.if_icmp .ge 80, 3) := by decide +kernel
theorem dX5_worth_53 : decode cX5_worth 53 = .ok (.iload 6, 2) := by decide +kernel
theorem dX5_worth_55 : decode cX5_worth 55 = .ok (.aload_n 0, 1) := by decide +kernel
theorem dX5_worth_56 : decode cX5_worth 56 = .ok (.getfield 9, 3) := by decide +kernel
theorem dX5_worth_59 : decode cX5_worth 59 = .ok (.arraylength, 1) := by decide +kernel
theorem dX5_worth_60 : decode cX5_worth 60 = .ok (.if_icmp .ge 70, 3) := by decide +kernel
theorem dX5_worth_63 : decode cX5_worth 63 = .ok (.aload_n 0, 1) := by decide +kernel
theorem dX5_worth_64 : decode cX5_worth 64 = .ok (.getfield 9, 3) := by decide +kernel
theorem dX5_worth_67 : decode cX5_worth 67 = .ok (.iload 6, 2) := by decide +kernel
theorem dX5_worth_69 : decode cX5_worth 69 = .ok (.iaload, 1) := by decide +kernel
theorem dX5_worth_70 : decode cX5_worth 70 = .ok (.istore 7, 2) := by decide +kernel
theorem dX5_worth_72 : decode cX5_worth 72 = .ok (.iload 7, 2) := by decide +kernel
theorem dX5_worth_74 : decode cX5_worth 74 = .ok (.ifCond .lt 12, 3) := by decide +kernel
theorem dX5_worth_77 : decode cX5_worth 77 = .ok (.aload_n 0, 1) := by decide +kernel
theorem dX5_worth_78 : decode cX5_worth 78 = .ok (.iload 7, 2) := by decide +kernel
theorem dX5_worth_80 : decode cX5_worth 80 = .ok (.invokevirtual 34, 3) := by decide +kernel
theorem dX5_worth_83 : decode cX5_worth 83 = .ok (.goto 41, 3) := by decide +kernel
theorem dX5_worth_86 : decode cX5_worth 86 = .ok (.iload 7, 2) := by decide +kernel
theorem dX5_worth_88 : decode cX5_worth 88 = .ok (.bipush (-6), 2) := by decide +kernel
theorem dX5_worth_90 : decode cX5_worth 90 = .ok (.if_icmp .lt 28, 3) := by decide +kernel
theorem dX5_worth_93 : decode cX5_worth 93 = .ok (.aload_n 0, 1) := by decide +kernel
theorem dX5_worth_94 : decode cX5_worth 94 = .ok (.iload 7, 2) := by decide +kernel
theorem dX5_worth_96 : decode cX5_worth 96 = .ok (.iload_n 1, 1) := by decide +kernel
theorem dX5_worth_97 : decode cX5_worth 97 = .ok (.ifCond .ne 7, 3) := by decide +kernel
theorem dX5_worth_100 : decode cX5_worth 100 = .ok (.iconst 1, 1) := by decide +kernel
theorem dX5_worth_101 : decode cX5_worth 101 = .ok (.goto 4, 3) := by decide +kernel
theorem dX5_worth_104 : decode cX5_worth 104 = .ok (.iconst 0, 1) := by decide +kernel
theorem dX5_worth_105 : decode cX5_worth 105 = .ok (.aload_n 2, 1) := by decide +kernel
theorem dX5_worth_106 : decode cX5_worth 106 = .ok (.iload_n 3, 1) := by decide +kernel
theorem dX5_worth_107 : decode cX5_worth 107 = .ok (.iload 4, 2) := by decide +kernel
theorem dX5_worth_109 : decode cX5_worth 109 = .ok (.invokestatic 38, 3) := by decide +kernel
theorem dX5_worth_112 : decode cX5_worth 112 = .ok (.invokevirtual 34, 3) := by decide +kernel
theorem dX5_worth_115 : decode cX5_worth 115 = .ok (.goto 9, 3) := by decide +kernel
theorem dX5_worth_118 : decode cX5_worth 118 = .ok (.aload_n 0, 1) := by decide +kernel
theorem dX5_worth_119 : decode cX5_worth 119 = .ok (.iload 7, 2) := by decide +kernel
theorem dX5_worth_121 : decode cX5_worth 121 = .ok (.invokevirtual 42, 3) := by decide +kernel
theorem dX5_worth_124 : decode cX5_worth 124 = .ok (.iinc 6 1, 3) := by decide +kernel
theorem dX5_worth_127 : decode cX5_worth 127 = .ok (.goto (-85), 3) := by decide +kernel
theorem dX5_worth_130 : decode cX5_worth 130 = .ok (.aload_n 0, 1) := by decide +kernel
theorem dX5_worth_131 : decode cX5_worth 131 = .ok (.invokevirtual 45, 3) := by decide +kernel
theorem dX5_worth_134 : decode cX5_worth 134 = .ok (.ireturn, 1) := by decide +kernel
theorem dX5_push_0 : decode cX5_push 0 = .ok (.aload_n 0, 1) := by decide +kernel
theorem dX5_push_1 : decode cX5_push 1 = .ok (.getfield 25, 3) := by decide +kernel
theorem dX5_push_4 : decode cX5_push 4 = .ok (.ifCond .lt 35, 3) := by decide +kernel
theorem dX5_push_7 : decode cX5_push 7 = .ok (.aload_n 0, 1) := by decide +kernel
theorem dX5_push_8 : decode cX5_push 8 = .ok (.getfield 25, 3) := by decide +kernel
theorem dX5_push_11 : decode cX5_push 11 = .ok (.aload_n 0, 1) := by decide +kernel
theorem dX5_push_12 : decode cX5_push 12 = .ok (.getfield 18, 3) := by decide +kernel
theorem dX5_push_15 : decode cX5_push 15 = .ok (.arraylength, 1) := by decide +kernel
theorem dX5_push_16 : decode cX5_push 16 = .ok (.if_icmp .ge 23, 3) := by decide +kernel
theorem dX5_push_19 : decode cX5_push 19 = .ok (.aload_n 0, 1) := by decide +kernel
theorem dX5_push_20 : decode cX5_push 20 = .ok (.getfield 18, 3) := by decide +kernel
theorem dX5_push_23 : decode cX5_push 23 = .ok (.aload_n 0, 1) := by decide +kernel
theorem dX5_push_24 : decode cX5_push 24 = .ok (.getfield 25, 3) := by decide +kernel
theorem dX5_push_27 : decode cX5_push 27 = .ok (.iload_n 1, 1) := by decide +kernel
theorem dX5_push_28 : decode cX5_push 28 = .ok (.iastore, 1) := by decide +kernel
theorem dX5_push_29 : decode cX5_push 29 = .ok (.aload_n 0, 1) := by decide +kernel
theorem dX5_push_30 : decode cX5_push 30 = .ok (.dup, 1) := by decide +kernel
theorem dX5_push_31 : decode cX5_push 31 = .ok (.getfield 25, 3) := by decide +kernel
theorem dX5_push_34 : decode cX5_push 34 = .ok (.iconst 1, 1) := by decide +kernel
theorem dX5_push_35 : decode cX5_push 35 = .ok (.iadd, 1) := by decide +kernel
theorem dX5_push_36 : decode cX5_push 36 = .ok (.putfield 25, 3) := by decide +kernel
theorem dX5_push_39 : decode cX5_push 39 = .ok (.return_, 1) := by decide +kernel
theorem dX5_pull_0 : decode cX5_pull 0 = .ok (.aload_n 0, 1) := by decide +kernel
theorem dX5_pull_1 : decode cX5_pull 1 = .ok (.getfield 25, 3) := by decide +kernel
theorem dX5_pull_4 : decode cX5_pull 4 = .ok (.ifCond .le 15, 3) := by decide +kernel
theorem dX5_pull_7 : decode cX5_pull 7 = .ok (.aload_n 0, 1) := by decide +kernel
theorem dX5_pull_8 : decode cX5_pull 8 = .ok (.getfield 25, 3) := by decide +kernel
theorem dX5_pull_11 : decode cX5_pull 11 = .ok (.aload_n 0, 1) := by decide +kernel
theorem dX5_pull_12 : decode cX5_pull 12 = .ok (.getfield 18, 3) := by decide +kernel
theorem dX5_pull_15 : decode cX5_pull 15 = .ok (.arraylength, 1) := by decide +kernel
theorem dX5_pull_16 : decode cX5_pull 16 = .ok (.if_icmp .le 5, 3) := by decide +kernel
theorem dX5_pull_19 : decode cX5_pull 19 = .ok (.iconst 0, 1) := by decide +kernel
theorem dX5_pull_20 : decode cX5_pull 20 = .ok (.ireturn, 1) := by decide +kernel
theorem dX5_pull_21 : decode cX5_pull 21 = .ok (.aload_n 0, 1) := by decide +kernel
theorem dX5_pull_22 : decode cX5_pull 22 = .ok (.dup, 1) := by decide +kernel
theorem dX5_pull_23 : decode cX5_pull 23 = .ok (.getfield 25, 3) := by decide +kernel
theorem dX5_pull_26 : decode cX5_pull 26 = .ok (.iconst 1, 1) := by decide +kernel
theorem dX5_pull_27 : decode cX5_pull 27 = .ok (.isub, 1) := by decide +kernel
theorem dX5_pull_28 : decode cX5_pull 28 = .ok (.putfield 25, 3) := by decide +kernel
theorem dX5_pull_31 : decode cX5_pull 31 = .ok (.aload_n 0, 1) := by decide +kernel
theorem dX5_pull_32 : decode cX5_pull 32 = .ok (.getfield 18, 3) := by decide +kernel
theorem dX5_pull_35 : decode cX5_pull 35 = .ok (.aload_n 0, 1) := by decide +kernel
theorem dX5_pull_36 : decode cX5_pull 36 = .ok (.getfield 25, 3) := by decide +kernel
theorem dX5_pull_39 : decode cX5_pull 39 = .ok (.iaload, 1) := by decide +kernel
theorem dX5_pull_40 : decode cX5_pull 40 = .ok (.ireturn, 1) := by decide +kernel
theorem dX5_work_0 : decode cX5_work 0 = .ok (.aload_n 0, 1) := by decide +kernel
theorem dX5_work_1 : decode cX5_work 1 = .ok (.invokevirtual 45, 3) := by decide +kernel
theorem dX5_work_4 : decode cX5_work 4 = .ok (.istore_n 2, 1) := by decide +kernel
theorem dX5_work_5 : decode cX5_work 5 = .ok (.iload_n 1, 1) := by decide +kernel
theorem dX5_work_6 : decode cX5_work 6 = .ok (.bipush (-9), 2) := by decide +kernel
theorem dX5_work_8 : decode cX5_work 8 = .ok (.if_icmp .ne 19, 3) := by decide +kernel
theorem dX5_work_11 : decode cX5_work 11 = .ok (.aload_n 0, 1) := by decide +kernel
theorem dX5_work_12 : decode cX5_work 12 = .ok (.iload_n 2, 1) := by decide +kernel
theorem dX5_work_13 : decode cX5_work 13 = .ok (.ifCond .ne 7, 3) := by decide +kernel
theorem dX5_work_16 : decode cX5_work 16 = .ok (.iconst 1, 1) := by decide +kernel
theorem dX5_work_17 : decode cX5_work 17 = .ok (.goto 4, 3) := by decide +kernel
theorem dX5_work_20 : decode cX5_work 20 = .ok (.iconst 0, 1) := by decide +kernel
theorem dX5_work_21 : decode cX5_work 21 = .ok (.invokevirtual 34, 3) := by decide +kernel
theorem dX5_work_24 : decode cX5_work 24 = .ok (.goto 31, 3) := by decide +kernel
theorem dX5_work_27 : decode cX5_work 27 = .ok (.iload_n 1, 1) := by decide +kernel
theorem dX5_work_28 : decode cX5_work 28 = .ok (.bipush (-15), 2) := by decide +kernel
theorem dX5_work_30 : decode cX5_work 30 = .ok (.if_icmp .ne 12, 3) := by decide +kernel
theorem dX5_work_33 : decode cX5_work 33 = .ok (.aload_n 0, 1) := by decide +kernel
theorem dX5_work_34 : decode cX5_work 34 = .ok (.iload_n 2, 1) := by decide +kernel
theorem dX5_work_35 : decode cX5_work 35 = .ok (.ineg, 1) := by decide +kernel
theorem dX5_work_36 : decode cX5_work 36 = .ok (.invokevirtual 34, 3) := by decide +kernel
theorem dX5_work_39 : decode cX5_work 39 = .ok (.goto 16, 3) := by decide +kernel
theorem dX5_work_42 : decode cX5_work 42 = .ok (.aload_n 0, 1) := by decide +kernel
theorem dX5_work_43 : decode cX5_work 43 = .ok (.iload_n 1, 1) := by decide +kernel
theorem dX5_work_44 : decode cX5_work 44 = .ok (.aload_n 0, 1) := by decide +kernel
theorem dX5_work_45 : decode cX5_work 45 = .ok (.invokevirtual 45, 3) := by decide +kernel
theorem dX5_work_48 : decode cX5_work 48 = .ok (.iload_n 2, 1) := by decide +kernel
theorem dX5_work_49 : decode cX5_work 49 = .ok (.invokestatic 49, 3) := by decide +kernel
theorem dX5_work_52 : decode cX5_work 52 = .ok (.invokevirtual 34, 3) := by decide +kernel
theorem dX5_work_55 : decode cX5_work 55 = .ok (.return_, 1) := by decide +kernel
theorem dX5_joined_0 : decode cX5_joined 0 = .ok (.iload_n 0, 1) := by decide +kernel
theorem dX5_joined_1 : decode cX5_joined 1 = .ok (.tableswitch 101 (-13) (-7) #[97, 93, 82, 71, 101, 57, 43], 43) := by decide +kernel
theorem dX5_joined_44 : decode cX5_joined 44 = .ok (.iload_n 1, 1) := by decide +kernel
theorem dX5_joined_45 : decode cX5_joined 45 = .ok (.ifCond .ne 7, 3) := by decide +kernel
theorem dX5_joined_48 : decode cX5_joined 48 = .ok (.iload_n 2, 1) := by decide +kernel
theorem dX5_joined_49 : decode cX5_joined 49 = .ok (.ifCond .eq 7, 3) := by decide +kernel
theorem dX5_joined_52 : decode cX5_joined 52 = .ok (.iconst 1, 1) := by decide +kernel
theorem dX5_joined_53 : decode cX5_joined 53 = .ok (.goto 4, 3) := by decide +kernel
theorem dX5_joined_56 : decode cX5_joined 56 = .ok (.iconst 0, 1) := by decide +kernel
theorem dX5_joined_57 : decode cX5_joined 57 = .ok (.ireturn, 1) := by decide +kernel
theorem dX5_joined_58 : decode cX5_joined 58 = .ok (.iload_n 1, 1) := by decide +kernel
theorem dX5_joined_59 : decode cX5_joined 59 = .ok (.ifCond .eq 11, 3) := by decide +kernel
theorem dX5_joined_62 : decode cX5_joined 62 = .ok (.iload_n 2, 1) := by decide +kernel
theorem dX5_joined_63 : decode cX5_joined 63 = .ok (.ifCond .eq 7, 3) := by decide +kernel
theorem dX5_joined_66 : decode cX5_joined 66 = .ok (.iconst 1, 1) := by decide +kernel
theorem dX5_joined_67 : decode cX5_joined 67 = .ok (.goto 4, 3) := by decide +kernel
theorem dX5_joined_70 : decode cX5_joined 70 = .ok (.iconst 0, 1) := by decide +kernel
theorem dX5_joined_71 : decode cX5_joined 71 = .ok (.ireturn, 1) := by decide +kernel
theorem dX5_joined_72 : decode cX5_joined 72 = .ok (.iload_n 1, 1) := by decide +kernel
theorem dX5_joined_73 : decode cX5_joined 73 = .ok (.iload_n 2, 1) := by decide +kernel
theorem dX5_joined_74 : decode cX5_joined 74 = .ok (.if_icmp .ge 7, 3) := by decide +kernel
theorem dX5_joined_77 : decode cX5_joined 77 = .ok (.iconst 1, 1) := by decide +kernel
theorem dX5_joined_78 : decode cX5_joined 78 = .ok (.goto 4, 3) := by decide +kernel
theorem dX5_joined_81 : decode cX5_joined 81 = .ok (.iconst 0, 1) := by decide +kernel
theorem dX5_joined_82 : decode cX5_joined 82 = .ok (.ireturn, 1) := by decide +kernel
theorem dX5_joined_83 : decode cX5_joined 83 = .ok (.iload_n 1, 1) := by decide +kernel
theorem dX5_joined_84 : decode cX5_joined 84 = .ok (.iload_n 2, 1) := by decide +kernel
theorem dX5_joined_85 : decode cX5_joined 85 = .ok (.if_icmp .ne 7, 3) := by decide +kernel
theorem dX5_joined_88 : decode cX5_joined 88 = .ok (.iconst 1, 1) := by decide +kernel
theorem dX5_joined_89 : decode cX5_joined 89 = .ok (.goto 4, 3) := by decide +kernel
theorem dX5_joined_92 : decode cX5_joined 92 = .ok (.iconst 0, 1) := by decide +kernel
theorem dX5_joined_93 : decode cX5_joined 93 = .ok (.ireturn, 1) := by decide +kernel
theorem dX5_joined_94 : decode cX5_joined 94 = .ok (.iload_n 1, 1) := by decide +kernel
theorem dX5_joined_95 : decode cX5_joined 95 = .ok (.iload_n 2, 1) := by decide +kernel
theorem dX5_joined_96 : decode cX5_joined 96 = .ok (.iadd, 1) := by decide +kernel
theorem dX5_joined_97 : decode cX5_joined 97 = .ok (.ireturn, 1) := by decide +kernel
theorem dX5_joined_98 : decode cX5_joined 98 = .ok (.iload_n 1, 1) := by decide +kernel
theorem dX5_joined_99 : decode cX5_joined 99 = .ok (.iload_n 2, 1) := by decide +kernel
theorem dX5_joined_100 : decode cX5_joined 100 = .ok (.isub, 1) := by decide +kernel
theorem dX5_joined_101 : decode cX5_joined 101 = .ok (.ireturn, 1) := by decide +kernel
theorem dX5_joined_102 : decode cX5_joined 102 = .ok (.iload_n 1, 1) := by decide +kernel
theorem dX5_joined_103 : decode cX5_joined 103 = .ok (.iload_n 2, 1) := by decide +kernel
theorem dX5_joined_104 : decode cX5_joined 104 = .ok (.imul, 1) := by decide +kernel
theorem dX5_joined_105 : decode cX5_joined 105 = .ok (.ireturn, 1) := by decide +kernel
theorem dX5_nameWorth_0 : decode cX5_nameWorth 0 = .ok (.iload_n 0, 1) := by decide +kernel
theorem dX5_nameWorth_1 : decode cX5_nameWorth 1 = .ok (.tableswitch 108 (-5) (-1) #[89, 84, 65, 55, 35], 35) := by decide +kernel
theorem dX5_nameWorth_36 : decode cX5_nameWorth 36 = .ok (.iload_n 1, 1) := by decide +kernel
theorem dX5_nameWorth_37 : decode cX5_nameWorth 37 = .ok (.ifCond .eq 13, 3) := by decide +kernel
theorem dX5_nameWorth_40 : decode cX5_nameWorth 40 = .ok (.aload_n 2, 1) := by decide +kernel
theorem dX5_nameWorth_41 : decode cX5_nameWorth 41 = .ok (.iload_n 3, 1) := by decide +kernel
theorem dX5_nameWorth_42 : decode cX5_nameWorth 42 = .ok (.iload 4, 2) := by decide +kernel
theorem dX5_nameWorth_44 : decode cX5_nameWorth 44 = .ok (.invokevirtual 53, 3) := by decide +kernel
theorem dX5_nameWorth_47 : decode cX5_nameWorth 47 = .ok (.goto 8, 3) := by decide +kernel
theorem dX5_nameWorth_50 : decode cX5_nameWorth 50 = .ok (.aload_n 2, 1) := by decide +kernel
theorem dX5_nameWorth_51 : decode cX5_nameWorth 51 = .ok (.iload_n 3, 1) := by decide +kernel
theorem dX5_nameWorth_52 : decode cX5_nameWorth 52 = .ok (.invokevirtual 58, 3) := by decide +kernel
theorem dX5_nameWorth_55 : decode cX5_nameWorth 55 = .ok (.ireturn, 1) := by decide +kernel
theorem dX5_nameWorth_56 : decode cX5_nameWorth 56 = .ok (.aload_n 2, 1) := by decide +kernel
theorem dX5_nameWorth_57 : decode cX5_nameWorth 57 = .ok (.aload_n 2, 1) := by decide +kernel
theorem dX5_nameWorth_58 : decode cX5_nameWorth 58 = .ok (.getfield 62, 3) := by decide +kernel
theorem dX5_nameWorth_61 : decode cX5_nameWorth 61 = .ok (.iload_n 3, 1) := by decide +kernel
theorem dX5_nameWorth_62 : decode cX5_nameWorth 62 = .ok (.invokevirtual 65, 3) := by decide +kernel
theorem dX5_nameWorth_65 : decode cX5_nameWorth 65 = .ok (.ireturn, 1) := by decide +kernel
theorem dX5_nameWorth_66 : decode cX5_nameWorth 66 = .ok (.iload_n 1, 1) := by decide +kernel
theorem dX5_nameWorth_67 : decode cX5_nameWorth 67 = .ok (.ifCond .eq 16, 3) := by decide +kernel
theorem dX5_nameWorth_70 : decode cX5_nameWorth 70 = .ok (.aload_n 2, 1) := by decide +kernel
theorem dX5_nameWorth_71 : decode cX5_nameWorth 71 = .ok (.aload_n 2, 1) := by decide +kernel
theorem dX5_nameWorth_72 : decode cX5_nameWorth 72 = .ok (.getfield 62, 3) := by decide +kernel
theorem dX5_nameWorth_75 : decode cX5_nameWorth 75 = .ok (.iload 4, 2) := by decide +kernel
theorem dX5_nameWorth_77 : decode cX5_nameWorth 77 = .ok (.invokevirtual 65, 3) := by decide +kernel
theorem dX5_nameWorth_80 : decode cX5_nameWorth 80 = .ok (.goto 4, 3) := by decide +kernel
theorem dX5_nameWorth_83 : decode cX5_nameWorth 83 = .ok (.iconst 0, 1) := by decide +kernel
theorem dX5_nameWorth_84 : decode cX5_nameWorth 84 = .ok (.ireturn, 1) := by decide +kernel
theorem dX5_nameWorth_85 : decode cX5_nameWorth 85 = .ok (.aload_n 2, 1) := by decide +kernel
theorem dX5_nameWorth_86 : decode cX5_nameWorth 86 = .ok (.getfield 69, 3) := by decide +kernel
theorem dX5_nameWorth_89 : decode cX5_nameWorth 89 = .ok (.ireturn, 1) := by decide +kernel
theorem dX5_nameWorth_90 : decode cX5_nameWorth 90 = .ok (.aload_n 2, 1) := by decide +kernel
theorem dX5_nameWorth_91 : decode cX5_nameWorth 91 = .ok (.aload_n 2, 1) := by decide +kernel
theorem dX5_nameWorth_92 : decode cX5_nameWorth 92 = .ok (.getfield 72, 3) := by decide +kernel
theorem dX5_nameWorth_95 : decode cX5_nameWorth 95 = .ok (.iload_n 1, 1) := by decide +kernel
theorem dX5_nameWorth_96 : decode cX5_nameWorth 96 = .ok (.ifCond .eq 8, 3) := by decide +kernel
theorem dX5_nameWorth_99 : decode cX5_nameWorth 99 = .ok (.iload 4, 2) := by decide +kernel
theorem dX5_nameWorth_101 : decode cX5_nameWorth 101 = .ok (.goto 4, 3) := by decide +kernel
theorem dX5_nameWorth_104 : decode cX5_nameWorth 104 = .ok (.iload_n 3, 1) := by decide +kernel
theorem dX5_nameWorth_105 : decode cX5_nameWorth 105 = .ok (.invokevirtual 65, 3) := by decide +kernel
theorem dX5_nameWorth_108 : decode cX5_nameWorth 108 = .ok (.ireturn, 1) := by decide +kernel
theorem dX5_nameWorth_109 : decode cX5_nameWorth 109 = .ok (.aload_n 2, 1) := by decide +kernel
theorem dX5_nameWorth_110 : decode cX5_nameWorth 110 = .ok (.aload_n 2, 1) := by decide +kernel
theorem dX5_nameWorth_111 : decode cX5_nameWorth 111 = .ok (.getfield 75, 3) := by decide +kernel
theorem dX5_nameWorth_114 : decode cX5_nameWorth 114 = .ok (.iload_n 3, 1) := by decide +kernel
theorem dX5_nameWorth_115 : decode cX5_nameWorth 115 = .ok (.invokevirtual 65, 3) := by decide +kernel
theorem dX5_nameWorth_118 : decode cX5_nameWorth 118 = .ok (.ireturn, 1) := by decide +kernel
theorem dX6_init_0 : decode cX6_init 0 = .ok (.aload_n 0, 1) := by decide +kernel
theorem dX6_init_1 : decode cX6_init 1 = .ok (.invokespecial 1, 3) := by decide +kernel
theorem dX6_init_4 : decode cX6_init 4 = .ok (.aload_n 0, 1) := by decide +kernel
theorem dX6_init_5 : decode cX6_init 5 = .ok (.bipush 6, 2) := by decide +kernel
theorem dX6_init_7 : decode cX6_init 7 = .ok (.anewarray 9, 3) := by decide +kernel
theorem dX6_init_10 : decode cX6_init 10 = .ok (.putfield 11, 3) := by decide +kernel
theorem dX6_init_13 : decode cX6_init 13 = .ok (.iconst 0, 1) := by decide +kernel
theorem dX6_init_14 : decode cX6_init 14 = .ok (.istore_n 1, 1) := by decide +kernel
theorem dX6_init_15 : decode cX6_init 15 = .ok (.iload_n 1, 1) := by decide +kernel
theorem dX6_init_16 : decode cX6_init 16 = .ok (.bipush 6, 2) := by decide +kernel
theorem dX6_init_18 : decode cX6_init 18 = .ok (.if_icmp .ge 22, 3) := by decide +kernel
theorem dX6_init_21 : decode cX6_init 21 = .ok (.aload_n 0, 1) := by decide +kernel
theorem dX6_init_22 : decode cX6_init 22 = .ok (.getfield 11, 3) := by decide +kernel
theorem dX6_init_25 : decode cX6_init 25 = .ok (.iload_n 1, 1) := by decide +kernel
theorem dX6_init_26 : decode cX6_init 26 = .ok (.new 9, 3) := by decide +kernel
theorem dX6_init_29 : decode cX6_init 29 = .ok (.dup, 1) := by decide +kernel
theorem dX6_init_30 : decode cX6_init 30 = .ok (.invokespecial 15, 3) := by decide +kernel
theorem dX6_init_33 : decode cX6_init 33 = .ok (.aastore, 1) := by decide +kernel
theorem dX6_init_34 : decode cX6_init 34 = .ok (.iinc 1 1, 3) := by decide +kernel
theorem dX6_init_37 : decode cX6_init 37 = .ok (.goto (-22), 3) := by decide +kernel
theorem dX6_init_40 : decode cX6_init 40 = .ok (.return_, 1) := by decide +kernel
theorem dX6_has_0 : decode cX6_has 0 = .ok (.iload_n 1, 1) := by decide +kernel
theorem dX6_has_1 : decode cX6_has 1 = .ok (.ifCond .lt 21, 3) := by decide +kernel
theorem dX6_has_4 : decode cX6_has 4 = .ok (.iload_n 1, 1) := by decide +kernel
theorem dX6_has_5 : decode cX6_has 5 = .ok (.aload_n 0, 1) := by decide +kernel
theorem dX6_has_6 : decode cX6_has 6 = .ok (.getfield 16, 3) := by decide +kernel
theorem dX6_has_9 : decode cX6_has 9 = .ok (.if_icmp .ge 13, 3) := by decide +kernel
theorem dX6_has_12 : decode cX6_has 12 = .ok (.iload_n 1, 1) := by decide +kernel
theorem dX6_has_13 : decode cX6_has 13 = .ok (.bipush 6, 2) := by decide +kernel
theorem dX6_has_15 : decode cX6_has 15 = .ok (.if_icmp .ge 7, 3) := by decide +kernel
theorem dX6_has_18 : decode cX6_has 18 = .ok (.iconst 1, 1) := by decide +kernel
theorem dX6_has_19 : decode cX6_has 19 = .ok (.goto 4, 3) := by decide +kernel
theorem dX6_has_22 : decode cX6_has 22 = .ok (.iconst 0, 1) := by decide +kernel
theorem dX6_has_23 : decode cX6_has 23 = .ok (.ireturn, 1) := by decide +kernel
theorem dX6_isFull_0 : decode cX6_isFull 0 = .ok (.aload_n 0, 1) := by decide +kernel
theorem dX6_isFull_1 : decode cX6_isFull 1 = .ok (.getfield 16, 3) := by decide +kernel
theorem dX6_isFull_4 : decode cX6_isFull 4 = .ok (.bipush 6, 2) := by decide +kernel
theorem dX6_isFull_6 : decode cX6_isFull 6 = .ok (.if_icmp .lt 7, 3) := by decide +kernel
theorem dX6_isFull_9 : decode cX6_isFull 9 = .ok (.iconst 1, 1) := by decide +kernel
theorem dX6_isFull_10 : decode cX6_isFull 10 = .ok (.goto 4, 3) := by decide +kernel
theorem dX6_isFull_13 : decode cX6_isFull 13 = .ok (.iconst 0, 1) := by decide +kernel
theorem dX6_isFull_14 : decode cX6_isFull 14 = .ok (.ireturn, 1) := by decide +kernel
theorem dX6_spare_0 : decode cX6_spare 0 = .ok (.aload_n 0, 1) := by decide +kernel
theorem dX6_spare_1 : decode cX6_spare 1 = .ok (.getfield 11, 3) := by decide +kernel
theorem dX6_spare_4 : decode cX6_spare 4 = .ok (.aload_n 0, 1) := by decide +kernel
theorem dX6_spare_5 : decode cX6_spare 5 = .ok (.getfield 16, 3) := by decide +kernel
theorem dX6_spare_8 : decode cX6_spare 8 = .ok (.ifCond .lt 12, 3) := by decide +kernel
theorem dX6_spare_11 : decode cX6_spare 11 = .ok (.aload_n 0, 1) := by decide +kernel
theorem dX6_spare_12 : decode cX6_spare 12 = .ok (.getfield 16, 3) := by decide +kernel
theorem dX6_spare_15 : decode cX6_spare 15 = .ok (.bipush 6, 2) := by decide +kernel
theorem dX6_spare_17 : decode cX6_spare 17 = .ok (.if_icmp .lt 7, 3) := by decide +kernel
theorem dX6_spare_20 : decode cX6_spare 20 = .ok (.iconst 0, 1) := by decide +kernel
theorem dX6_spare_21 : decode cX6_spare 21 = .ok (.goto 7, 3) := by decide +kernel
theorem dX6_spare_24 : decode cX6_spare 24 = .ok (.aload_n 0, 1) := by decide +kernel
theorem dX6_spare_25 : decode cX6_spare 25 = .ok (.getfield 16, 3) := by decide +kernel
theorem dX6_spare_28 : decode cX6_spare 28 = .ok (.aaload, 1) := by decide +kernel
theorem dX6_spare_29 : decode cX6_spare 29 = .ok (.areturn, 1) := by decide +kernel
theorem dX6_takeSpare_0 : decode cX6_takeSpare 0 = .ok (.aload_n 0, 1) := by decide +kernel
theorem dX6_takeSpare_1 : decode cX6_takeSpare 1 = .ok (.invokevirtual 20, 3) := by decide +kernel
theorem dX6_takeSpare_4 : decode cX6_takeSpare 4 = .ok (.ifCond .ne 13, 3) := by decide +kernel
theorem dX6_takeSpare_7 : decode cX6_takeSpare 7 = .ok (.aload_n 0, 1) := by decide +kernel
theorem dX6_takeSpare_8 : decode cX6_takeSpare 8 = .ok (.dup, 1) := by decide +kernel
theorem dX6_takeSpare_9 : decode cX6_takeSpare 9 = .ok (.getfield 16, 3) := by decide +kernel
theorem dX6_takeSpare_12 : decode cX6_takeSpare 12 = .ok (.iconst 1, 1) := by decide +kernel
theorem dX6_takeSpare_13 : decode cX6_takeSpare 13 = .ok (.iadd, 1) := by decide +kernel
theorem dX6_takeSpare_14 : decode cX6_takeSpare 14 = .ok (.putfield 16, 3) := by decide +kernel
theorem dX6_takeSpare_17 : decode cX6_takeSpare 17 = .ok (.aload_n 0, 1) := by decide +kernel
theorem dX6_takeSpare_18 : decode cX6_takeSpare 18 = .ok (.getfield 16, 3) := by decide +kernel
theorem dX6_takeSpare_21 : decode cX6_takeSpare 21 = .ok (.iconst 1, 1) := by decide +kernel
theorem dX6_takeSpare_22 : decode cX6_takeSpare 22 = .ok (.isub, 1) := by decide +kernel
theorem dX6_takeSpare_23 : decode cX6_takeSpare 23 = .ok (.ireturn, 1) := by decide +kernel
theorem dX6_ruleOf_0 : decode cX6_ruleOf 0 = .ok (.aload_n 0, 1) := by decide +kernel
theorem dX6_ruleOf_1 : decode cX6_ruleOf 1 = .ok (.getfield 11, 3) := by decide +kernel
theorem dX6_ruleOf_4 : decode cX6_ruleOf 4 = .ok (.aload_n 0, 1) := by decide +kernel
theorem dX6_ruleOf_5 : decode cX6_ruleOf 5 = .ok (.aload_n 1, 1) := by decide +kernel
theorem dX6_ruleOf_6 : decode cX6_ruleOf 6 = .ok (.getfield 24, 3) := by decide +kernel
theorem dX6_ruleOf_9 : decode cX6_ruleOf 9 = .ok (.invokevirtual 29, 3) := by decide +kernel
theorem dX6_ruleOf_12 : decode cX6_ruleOf 12 = .ok (.ifCond .eq 10, 3) := by decide +kernel
theorem dX6_ruleOf_15 : decode cX6_ruleOf 15 = .ok (.aload_n 1, 1) := by decide +kernel
theorem dX6_ruleOf_16 : decode cX6_ruleOf 16 = .ok (.getfield 24, 3) := by decide +kernel
theorem dX6_ruleOf_19 : decode cX6_ruleOf 19 = .ok (.goto 4, 3) := by decide +kernel
theorem dX6_ruleOf_22 : decode cX6_ruleOf 22 = .ok (.iconst 0, 1) := by decide +kernel
theorem dX6_ruleOf_23 : decode cX6_ruleOf 23 = .ok (.aaload, 1) := by decide +kernel
theorem dX6_ruleOf_24 : decode cX6_ruleOf 24 = .ok (.areturn, 1) := by decide +kernel
theorem dX7_init_0 : decode cX7_init 0 = .ok (.aload_n 0, 1) := by decide +kernel
theorem dX7_init_1 : decode cX7_init 1 = .ok (.invokespecial 1, 3) := by decide +kernel
theorem dX7_init_4 : decode cX7_init 4 = .ok (.aload_n 0, 1) := by decide +kernel
theorem dX7_init_5 : decode cX7_init 5 = .ok (.new 7, 3) := by decide +kernel
theorem dX7_init_8 : decode cX7_init 8 = .ok (.dup, 1) := by decide +kernel
theorem dX7_init_9 : decode cX7_init 9 = .ok (.invokespecial 9, 3) := by decide +kernel
theorem dX7_init_12 : decode cX7_init 12 = .ok (.putfield 10, 3) := by decide +kernel
theorem dX7_init_15 : decode cX7_init 15 = .ok (.aload_n 0, 1) := by decide +kernel
theorem dX7_init_16 : decode cX7_init 16 = .ok (.new 7, 3) := by decide +kernel
theorem dX7_init_19 : decode cX7_init 19 = .ok (.dup, 1) := by decide +kernel
theorem dX7_init_20 : decode cX7_init 20 = .ok (.invokespecial 9, 3) := by decide +kernel
theorem dX7_init_23 : decode cX7_init 23 = .ok (.putfield 16, 3) := by decide +kernel
theorem dX7_init_26 : decode cX7_init 26 = .ok (.aload_n 0, 1) := by decide +kernel
theorem dX7_init_27 : decode cX7_init 27 = .ok (.new 7, 3) := by decide +kernel
theorem dX7_init_30 : decode cX7_init 30 = .ok (.dup, 1) := by decide +kernel
theorem dX7_init_31 : decode cX7_init 31 = .ok (.invokespecial 9, 3) := by decide +kernel
theorem dX7_init_34 : decode cX7_init 34 = .ok (.putfield 19, 3) := by decide +kernel
theorem dX7_init_37 : decode cX7_init 37 = .ok (.aload_n 0, 1) := by decide +kernel
theorem dX7_init_38 : decode cX7_init 38 = .ok (.new 22, 3) := by decide +kernel
theorem dX7_init_41 : decode cX7_init 41 = .ok (.dup, 1) := by decide +kernel
theorem dX7_init_42 : decode cX7_init 42 = .ok (.invokespecial 24, 3) := by decide +kernel
theorem dX7_init_45 : decode cX7_init 45 = .ok (.putfield 25, 3) := by decide +kernel
theorem dX7_init_48 : decode cX7_init 48 = .ok (.aload_n 0, 1) := by decide +kernel
theorem dX7_init_49 : decode cX7_init 49 = .ok (.new 29, 3) := by decide +kernel
theorem dX7_init_52 : decode cX7_init 52 = .ok (.dup, 1) := by decide +kernel
theorem dX7_init_53 : decode cX7_init 53 = .ok (.invokespecial 31, 3) := by decide +kernel
theorem dX7_init_56 : decode cX7_init 56 = .ok (.putfield 32, 3) := by decide +kernel
theorem dX7_init_59 : decode cX7_init 59 = .ok (.aload_n 0, 1) := by decide +kernel
theorem dX7_init_60 : decode cX7_init 60 = .ok (.new 36, 3) := by decide +kernel
theorem dX7_init_63 : decode cX7_init 63 = .ok (.dup, 1) := by decide +kernel
theorem dX7_init_64 : decode cX7_init 64 = .ok (.aload_n 0, 1) := by decide +kernel
theorem dX7_init_65 : decode cX7_init 65 = .ok (.getfield 32, 3) := by decide +kernel
theorem dX7_init_68 : decode cX7_init 68 = .ok (.invokespecial 38, 3) := by decide +kernel
theorem dX7_init_71 : decode cX7_init 71 = .ok (.putfield 41, 3) := by decide +kernel
theorem dX7_init_74 : decode cX7_init 74 = .ok (.aload_n 0, 1) := by decide +kernel
theorem dX7_init_75 : decode cX7_init 75 = .ok (.new 45, 3) := by decide +kernel
theorem dX7_init_78 : decode cX7_init 78 = .ok (.dup, 1) := by decide +kernel
theorem dX7_init_79 : decode cX7_init 79 = .ok (.aload_n 0, 1) := by decide +kernel
theorem dX7_init_80 : decode cX7_init 80 = .ok (.getfield 41, 3) := by decide +kernel
theorem dX7_init_83 : decode cX7_init 83 = .ok (.invokespecial 47, 3) := by decide +kernel
theorem dX7_init_86 : decode cX7_init 86 = .ok (.putfield 50, 3) := by decide +kernel
theorem dX7_init_89 : decode cX7_init 89 = .ok (.aload_n 0, 1) := by decide +kernel
theorem dX7_init_90 : decode cX7_init 90 = .ok (.iconst 4, 1) := by decide +kernel
theorem dX7_init_91 : decode cX7_init 91 = .ok (.anewarray 54, 3) := by decide +kernel
theorem dX7_init_94 : decode cX7_init 94 = .ok (.putfield 56, 3) := by decide +kernel
theorem dX7_init_97 : decode cX7_init 97 = .ok (.aload_n 0, 1) := by decide +kernel
theorem dX7_init_98 : decode cX7_init 98 = .ok (.getfield 25, 3) := by decide +kernel
theorem dX7_init_101 : decode cX7_init 101 = .ok (.ldc 60, 2) := by decide +kernel
theorem dX7_init_103 : decode cX7_init 103 = .ok (.invokevirtual 62, 3) := by decide +kernel
theorem dX7_init_106 : decode cX7_init 106 = .ok (.aload_n 0, 1) := by decide +kernel
theorem dX7_init_107 : decode cX7_init 107 = .ok (.getfield 25, 3) := by decide +kernel
theorem dX7_init_110 : decode cX7_init 110 = .ok (.aload_n 0, 1) := by decide +kernel
theorem dX7_init_111 : decode cX7_init 111 = .ok (.getfield 32, 3) := by decide +kernel
theorem dX7_init_114 : decode cX7_init 114 = .ok (.invokevirtual 66, 3) := by decide +kernel
theorem dX7_init_117 : decode cX7_init 117 = .ok (.invokevirtual 70, 3) := by decide +kernel
theorem dX7_init_120 : decode cX7_init 120 = .ok (.pop, 1) := by decide +kernel
theorem dX7_init_121 : decode cX7_init 121 = .ok (.aload_n 0, 1) := by decide +kernel
theorem dX7_init_122 : decode cX7_init 122 = .ok (.getfield 32, 3) := by decide +kernel
theorem dX7_init_125 : decode cX7_init 125 = .ok (.invokevirtual 74, 3) := by decide +kernel
theorem dX7_init_128 : decode cX7_init 128 = .ok (.pop, 1) := by decide +kernel
theorem dX7_init_129 : decode cX7_init 129 = .ok (.iconst 0, 1) := by decide +kernel
theorem dX7_init_130 : decode cX7_init 130 = .ok (.istore_n 1, 1) := by decide +kernel
theorem dX7_init_131 : decode cX7_init 131 = .ok (.iload_n 1, 1) := by decide +kernel
theorem dX7_init_132 : decode cX7_init 132 = .ok (.iconst 4, 1) := by decide +kernel
theorem dX7_init_133 : decode cX7_init 133 = .ok (.if_icmp .ge 22, 3) := by decide +kernel
theorem dX7_init_136 : decode cX7_init 136 = .ok (.aload_n 0, 1) := by decide +kernel
theorem dX7_init_137 : decode cX7_init 137 = .ok (.getfield 56, 3) := by decide +kernel
theorem dX7_init_140 : decode cX7_init 140 = .ok (.iload_n 1, 1) := by decide +kernel
theorem dX7_init_141 : decode cX7_init 141 = .ok (.new 54, 3) := by decide +kernel
theorem dX7_init_144 : decode cX7_init 144 = .ok (.dup, 1) := by decide +kernel
theorem dX7_init_145 : decode cX7_init 145 = .ok (.invokespecial 78, 3) := by decide +kernel
theorem dX7_init_148 : decode cX7_init 148 = .ok (.aastore, 1) := by decide +kernel
theorem dX7_init_149 : decode cX7_init 149 = .ok (.iinc 1 1, 3) := by decide +kernel
theorem dX7_init_152 : decode cX7_init 152 = .ok (.goto (-21), 3) := by decide +kernel
theorem dX7_init_155 : decode cX7_init 155 = .ok (.return_, 1) := by decide +kernel
theorem dX7_set_0 : decode cX7_set 0 = .ok (.iload_n 1, 1) := by decide +kernel
theorem dX7_set_1 : decode cX7_set 1 = .ok (.ifCond .ne 9, 3) := by decide +kernel
theorem dX7_set_4 : decode cX7_set 4 = .ok (.aload_n 0, 1) := by decide +kernel
theorem dX7_set_5 : decode cX7_set 5 = .ok (.iload_n 3, 1) := by decide +kernel
theorem dX7_set_6 : decode cX7_set 6 = .ok (.invokevirtual 79, 3) := by decide +kernel
theorem dX7_set_9 : decode cX7_set 9 = .ok (.ireturn, 1) := by decide +kernel
theorem dX7_set_10 : decode cX7_set 10 = .ok (.aload_n 0, 1) := by decide +kernel
theorem dX7_set_11 : decode cX7_set 11 = .ok (.getfield 10, 3) := by decide +kernel
theorem dX7_set_14 : decode cX7_set 14 = .ok (.iload_n 1, 1) := by decide +kernel
theorem dX7_set_15 : decode cX7_set 15 = .ok (.invokevirtual 83, 3) := by decide +kernel
theorem dX7_set_18 : decode cX7_set 18 = .ok (.astore 4, 2) := by decide +kernel
theorem dX7_set_20 : decode cX7_set 20 = .ok (.aload 4, 2) := by decide +kernel
theorem dX7_set_22 : decode cX7_set 22 = .ok (.ifnull 23, 3) := by decide +kernel
theorem dX7_set_25 : decode cX7_set 25 = .ok (.aload_n 0, 1) := by decide +kernel
theorem dX7_set_26 : decode cX7_set 26 = .ok (.getfield 10, 3) := by decide +kernel
theorem dX7_set_29 : decode cX7_set 29 = .ok (.iload_n 2, 1) := by decide +kernel
theorem dX7_set_30 : decode cX7_set 30 = .ok (.invokevirtual 87, 3) := by decide +kernel
theorem dX7_set_33 : decode cX7_set 33 = .ok (.ifCond .eq 12, 3) := by decide +kernel
theorem dX7_set_36 : decode cX7_set 36 = .ok (.iload_n 1, 1) := by decide +kernel
theorem dX7_set_37 : decode cX7_set 37 = .ok (.iload_n 2, 1) := by decide +kernel
theorem dX7_set_38 : decode cX7_set 38 = .ok (.iload_n 3, 1) := by decide +kernel
theorem dX7_set_39 : decode cX7_set 39 = .ok (.invokestatic 91, 3) := by decide +kernel
theorem dX7_set_42 : decode cX7_set 42 = .ok (.ifCond .ne 6, 3) := by decide +kernel
theorem dX7_set_45 : decode cX7_set 45 = .ok (.bipush (-2), 2) := by decide +kernel
theorem dX7_set_47 : decode cX7_set 47 = .ok (.ireturn, 1) := by decide +kernel
theorem dX7_set_48 : decode cX7_set 48 = .ok (.aload 4, 2) := by decide +kernel
theorem dX7_set_50 : decode cX7_set 50 = .ok (.iload_n 2, 1) := by decide +kernel
theorem dX7_set_51 : decode cX7_set 51 = .ok (.iaload, 1) := by decide +kernel
theorem dX7_set_52 : decode cX7_set 52 = .ok (.istore 5, 2) := by decide +kernel
theorem dX7_set_54 : decode cX7_set 54 = .ok (.aload 4, 2) := by decide +kernel
theorem dX7_set_56 : decode cX7_set 56 = .ok (.iload_n 2, 1) := by decide +kernel
theorem dX7_set_57 : decode cX7_set 57 = .ok (.iload_n 3, 1) := by decide +kernel
theorem dX7_set_58 : decode cX7_set 58 = .ok (.iastore, 1) := by decide +kernel
theorem dX7_set_59 : decode cX7_set 59 = .ok (.iload 5, 2) := by decide +kernel
theorem dX7_set_61 : decode cX7_set 61 = .ok (.ireturn, 1) := by decide +kernel
theorem dX7_changeMinute_0 : decode cX7_changeMinute 0 = .ok (.iload_n 1, 1) := by decide +kernel
theorem dX7_changeMinute_1 : decode cX7_changeMinute 1 = .ok (.ifCond .lt 10, 3) := by decide +kernel
theorem dX7_changeMinute_4 : decode cX7_changeMinute 4 = .ok (.iload_n 1, 1) := by decide +kernel
theorem dX7_changeMinute_5 : decode cX7_changeMinute 5 = .ok (.sipush 999, 3) := by decide +kernel
theorem dX7_changeMinute_8 : decode cX7_changeMinute 8 = .ok (.if_icmp .le 6, 3) := by decide +kernel
theorem dX7_changeMinute_11 : decode cX7_changeMinute 11 = .ok (.bipush (-2), 2) := by decide +kernel
theorem dX7_changeMinute_13 : decode cX7_changeMinute 13 = .ok (.ireturn, 1) := by decide +kernel
theorem dX7_changeMinute_14 : decode cX7_changeMinute 14 = .ok (.aload_n 0, 1) := by decide +kernel
theorem dX7_changeMinute_15 : decode cX7_changeMinute 15 = .ok (.getfield 10, 3) := by decide +kernel
theorem dX7_changeMinute_18 : decode cX7_changeMinute 18 = .ok (.getfield 95, 3) := by decide +kernel
theorem dX7_changeMinute_21 : decode cX7_changeMinute 21 = .ok (.istore_n 2, 1) := by decide +kernel
theorem dX7_changeMinute_22 : decode cX7_changeMinute 22 = .ok (.aload_n 0, 1) := by decide +kernel
theorem dX7_changeMinute_23 : decode cX7_changeMinute 23 = .ok (.getfield 10, 3) := by decide +kernel
theorem dX7_changeMinute_26 : decode cX7_changeMinute 26 = .ok (.iload_n 1, 1) := by decide +kernel
theorem dX7_changeMinute_27 : decode cX7_changeMinute 27 = .ok (.putfield 95, 3) := by decide +kernel
theorem dX7_changeMinute_30 : decode cX7_changeMinute 30 = .ok (.iload_n 2, 1) := by decide +kernel
theorem dX7_changeMinute_31 : decode cX7_changeMinute 31 = .ok (.ireturn, 1) := by decide +kernel
theorem dX7_canBe_0 : decode cX7_canBe 0 = .ok (.iload_n 0, 1) := by decide +kernel
theorem dX7_canBe_1 : decode cX7_canBe 1 = .ok (.tableswitch 83 1 3 #[27, 43, 67], 27) := by decide +kernel
theorem dX7_canBe_28 : decode cX7_canBe 28 = .ok (.iload_n 2, 1) := by decide +kernel
theorem dX7_canBe_29 : decode cX7_canBe 29 = .ok (.ifCond .lt 13, 3) := by decide +kernel
theorem dX7_canBe_32 : decode cX7_canBe 32 = .ok (.iload_n 2, 1) := by decide +kernel
theorem dX7_canBe_33 : decode cX7_canBe 33 = .ok (.bipush 10, 2) := by decide +kernel
theorem dX7_canBe_35 : decode cX7_canBe 35 = .ok (.if_icmp .ge 7, 3) := by decide +kernel
theorem dX7_canBe_38 : decode cX7_canBe 38 = .ok (.iconst 1, 1) := by decide +kernel
theorem dX7_canBe_39 : decode cX7_canBe 39 = .ok (.goto 4, 3) := by decide +kernel
theorem dX7_canBe_42 : decode cX7_canBe 42 = .ok (.iconst 0, 1) := by decide +kernel
theorem dX7_canBe_43 : decode cX7_canBe 43 = .ok (.ireturn, 1) := by decide +kernel
theorem dX7_canBe_44 : decode cX7_canBe 44 = .ok (.iload_n 2, 1) := by decide +kernel
theorem dX7_canBe_45 : decode cX7_canBe 45 = .ok (.ifCond .lt 21, 3) := by decide +kernel
theorem dX7_canBe_48 : decode cX7_canBe 48 = .ok (.iload_n 2, 1) := by decide +kernel
theorem dX7_canBe_49 : decode cX7_canBe 49 = .ok (.bipush 32, 2) := by decide +kernel
theorem dX7_canBe_51 : decode cX7_canBe 51 = .ok (.if_icmp .ge 15, 3) := by decide +kernel
theorem dX7_canBe_54 : decode cX7_canBe 54 = .ok (.iload_n 2, 1) := by decide +kernel
theorem dX7_canBe_55 : decode cX7_canBe 55 = .ok (.iload_n 1, 1) := by decide +kernel
theorem dX7_canBe_56 : decode cX7_canBe 56 = .ok (.ishr, 1) := by decide +kernel
theorem dX7_canBe_57 : decode cX7_canBe 57 = .ok (.iconst 1, 1) := by decide +kernel
theorem dX7_canBe_58 : decode cX7_canBe 58 = .ok (.iand, 1) := by decide +kernel
theorem dX7_canBe_59 : decode cX7_canBe 59 = .ok (.ifCond .ne 7, 3) := by decide +kernel
theorem dX7_canBe_62 : decode cX7_canBe 62 = .ok (.iconst 1, 1) := by decide +kernel
theorem dX7_canBe_63 : decode cX7_canBe 63 = .ok (.goto 4, 3) := by decide +kernel
theorem dX7_canBe_66 : decode cX7_canBe 66 = .ok (.iconst 0, 1) := by decide +kernel
theorem dX7_canBe_67 : decode cX7_canBe 67 = .ok (.ireturn, 1) := by decide +kernel
theorem dX7_canBe_68 : decode cX7_canBe 68 = .ok (.iload_n 2, 1) := by decide +kernel
theorem dX7_canBe_69 : decode cX7_canBe 69 = .ok (.ifCond .lt 13, 3) := by decide +kernel
theorem dX7_canBe_72 : decode cX7_canBe 72 = .ok (.iload_n 2, 1) := by decide +kernel
theorem dX7_canBe_73 : decode cX7_canBe 73 = .ok (.bipush 99, 2) := by decide +kernel
theorem dX7_canBe_75 : decode cX7_canBe 75 = .ok (.if_icmp .gt 7, 3) := by decide +kernel
theorem dX7_canBe_78 : decode cX7_canBe 78 = .ok (.iconst 1, 1) := by decide +kernel
theorem dX7_canBe_79 : decode cX7_canBe 79 = .ok (.goto 4, 3) := by decide +kernel
theorem dX7_canBe_82 : decode cX7_canBe 82 = .ok (.iconst 0, 1) := by decide +kernel
theorem dX7_canBe_83 : decode cX7_canBe 83 = .ok (.ireturn, 1) := by decide +kernel
theorem dX7_canBe_84 : decode cX7_canBe 84 = .ok (.iload_n 2, 1) := by decide +kernel
theorem dX7_canBe_85 : decode cX7_canBe 85 = .ok (.ifCond .lt 13, 3) := by decide +kernel
theorem dX7_canBe_88 : decode cX7_canBe 88 = .ok (.iload_n 2, 1) := by decide +kernel
theorem dX7_canBe_89 : decode cX7_canBe 89 = .ok (.bipush 40, 2) := by decide +kernel
theorem dX7_canBe_91 : decode cX7_canBe 91 = .ok (.if_icmp .gt 7, 3) := by decide +kernel
theorem dX7_canBe_94 : decode cX7_canBe 94 = .ok (.iconst 1, 1) := by decide +kernel
theorem dX7_canBe_95 : decode cX7_canBe 95 = .ok (.goto 4, 3) := by decide +kernel
theorem dX7_canBe_98 : decode cX7_canBe 98 = .ok (.iconst 0, 1) := by decide +kernel
theorem dX7_canBe_99 : decode cX7_canBe 99 = .ok (.ireturn, 1) := by decide +kernel
theorem dX7_person_0 : decode cX7_person 0 = .ok (.iload_n 1, 1) := by decide +kernel
theorem dX7_person_1 : decode cX7_person 1 = .ok (.ifCond .lt 19, 3) := by decide +kernel
theorem dX7_person_4 : decode cX7_person 4 = .ok (.iload_n 1, 1) := by decide +kernel
theorem dX7_person_5 : decode cX7_person 5 = .ok (.bipush 6, 2) := by decide +kernel
theorem dX7_person_7 : decode cX7_person 7 = .ok (.if_icmp .ge 13, 3) := by decide +kernel
theorem dX7_person_10 : decode cX7_person 10 = .ok (.iload_n 2, 1) := by decide +kernel
theorem dX7_person_11 : decode cX7_person 11 = .ok (.ifCond .lt 9, 3) := by decide +kernel
theorem dX7_person_14 : decode cX7_person 14 = .ok (.iload_n 2, 1) := by decide +kernel
theorem dX7_person_15 : decode cX7_person 15 = .ok (.bipush 10, 2) := by decide +kernel
theorem dX7_person_17 : decode cX7_person 17 = .ok (.if_icmp .lt 6, 3) := by decide +kernel
theorem dX7_person_20 : decode cX7_person 20 = .ok (.bipush (-2), 2) := by decide +kernel
theorem dX7_person_22 : decode cX7_person 22 = .ok (.ireturn, 1) := by decide +kernel
theorem dX7_person_23 : decode cX7_person 23 = .ok (.aload_n 0, 1) := by decide +kernel
theorem dX7_person_24 : decode cX7_person 24 = .ok (.getfield 10, 3) := by decide +kernel
theorem dX7_person_27 : decode cX7_person 27 = .ok (.iload_n 1, 1) := by decide +kernel
theorem dX7_person_28 : decode cX7_person 28 = .ok (.iload_n 2, 1) := by decide +kernel
theorem dX7_person_29 : decode cX7_person 29 = .ok (.invokevirtual 99, 3) := by decide +kernel
theorem dX7_person_32 : decode cX7_person 32 = .ok (.ireturn, 1) := by decide +kernel
