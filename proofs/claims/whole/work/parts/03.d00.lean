theorem dX0_init_0 : decode cX0_init 0 = .ok (.aload_n 0, 1) := by decide +kernel
theorem dX0_init_1 : decode cX0_init 1 = .ok (.invokespecial 3, 3) := by decide +kernel
theorem dX0_init_4 : decode cX0_init 4 = .ok (.aload_n 0, 1) := by decide +kernel
theorem dX0_init_5 : decode cX0_init 5 = .ok (.iconst 5, 1) := by decide +kernel
theorem dX0_init_6 : decode cX0_init 6 = .ok (.newarray .int, 2) := by decide +kernel
theorem dX0_init_8 : decode cX0_init 8 = .ok (.putfield 9, 3) := by decide +kernel
theorem dX0_init_11 : decode cX0_init 11 = .ok (.aload_n 0, 1) := by decide +kernel
theorem dX0_init_12 : decode cX0_init 12 = .ok (.iconst 5, 1) := by decide +kernel
theorem dX0_init_13 : decode cX0_init 13 = .ok (.newarray .int, 2) := by decide +kernel
theorem dX0_init_15 : decode cX0_init 15 = .ok (.putfield 15, 3) := by decide +kernel
theorem dX0_init_18 : decode cX0_init 18 = .ok (.aload_n 0, 1) := by decide +kernel
theorem dX0_init_19 : decode cX0_init 19 = .ok (.iconst 5, 1) := by decide +kernel
theorem dX0_init_20 : decode cX0_init 20 = .ok (.newarray .int, 2) := by decide +kernel
theorem dX0_init_22 : decode cX0_init 22 = .ok (.putfield 18, 3) := by decide +kernel
theorem dX0_init_25 : decode cX0_init 25 = .ok (.aload_n 0, 1) := by decide +kernel
theorem dX0_init_26 : decode cX0_init 26 = .ok (.iconst 5, 1) := by decide +kernel
theorem dX0_init_27 : decode cX0_init 27 = .ok (.newarray .int, 2) := by decide +kernel
theorem dX0_init_29 : decode cX0_init 29 = .ok (.putfield 21, 3) := by decide +kernel
theorem dX0_init_32 : decode cX0_init 32 = .ok (.aload_n 0, 1) := by decide +kernel
theorem dX0_init_33 : decode cX0_init 33 = .ok (.iconst 5, 1) := by decide +kernel
theorem dX0_init_34 : decode cX0_init 34 = .ok (.newarray .int, 2) := by decide +kernel
theorem dX0_init_36 : decode cX0_init 36 = .ok (.putfield 24, 3) := by decide +kernel
theorem dX0_init_39 : decode cX0_init 39 = .ok (.aload_n 0, 1) := by decide +kernel
theorem dX0_init_40 : decode cX0_init 40 = .ok (.iconst 5, 1) := by decide +kernel
theorem dX0_init_41 : decode cX0_init 41 = .ok (.newarray .int, 2) := by decide +kernel
theorem dX0_init_43 : decode cX0_init 43 = .ok (.putfield 27, 3) := by decide +kernel
theorem dX0_init_46 : decode cX0_init 46 = .ok (.return_, 1) := by decide +kernel
theorem dX0_has_0 : decode cX0_has 0 = .ok (.iload_n 1, 1) := by decide +kernel
theorem dX0_has_1 : decode cX0_has 1 = .ok (.ifCond .lt 20, 3) := by decide +kernel
theorem dX0_has_4 : decode cX0_has 4 = .ok (.iload_n 1, 1) := by decide +kernel
theorem dX0_has_5 : decode cX0_has 5 = .ok (.aload_n 0, 1) := by decide +kernel
theorem dX0_has_6 : decode cX0_has 6 = .ok (.getfield 30, 3) := by decide +kernel
theorem dX0_has_9 : decode cX0_has 9 = .ok (.if_icmp .ge 12, 3) := by decide +kernel
theorem dX0_has_12 : decode cX0_has 12 = .ok (.iload_n 1, 1) := by decide +kernel
theorem dX0_has_13 : decode cX0_has 13 = .ok (.iconst 5, 1) := by decide +kernel
theorem dX0_has_14 : decode cX0_has 14 = .ok (.if_icmp .ge 7, 3) := by decide +kernel
theorem dX0_has_17 : decode cX0_has 17 = .ok (.iconst 1, 1) := by decide +kernel
theorem dX0_has_18 : decode cX0_has 18 = .ok (.goto 4, 3) := by decide +kernel
theorem dX0_has_21 : decode cX0_has 21 = .ok (.iconst 0, 1) := by decide +kernel
theorem dX0_has_22 : decode cX0_has 22 = .ok (.ireturn, 1) := by decide +kernel
theorem dX0_of_0 : decode cX0_of 0 = .ok (.aload_n 1, 1) := by decide +kernel
theorem dX0_of_1 : decode cX0_of 1 = .ok (.ifnull 27, 3) := by decide +kernel
theorem dX0_of_4 : decode cX0_of 4 = .ok (.iload_n 2, 1) := by decide +kernel
theorem dX0_of_5 : decode cX0_of 5 = .ok (.ifCond .lt 23, 3) := by decide +kernel
theorem dX0_of_8 : decode cX0_of 8 = .ok (.iload_n 2, 1) := by decide +kernel
theorem dX0_of_9 : decode cX0_of 9 = .ok (.aload_n 0, 1) := by decide +kernel
theorem dX0_of_10 : decode cX0_of 10 = .ok (.getfield 30, 3) := by decide +kernel
theorem dX0_of_13 : decode cX0_of 13 = .ok (.if_icmp .ge 15, 3) := by decide +kernel
theorem dX0_of_16 : decode cX0_of 16 = .ok (.iload_n 2, 1) := by decide +kernel
theorem dX0_of_17 : decode cX0_of 17 = .ok (.aload_n 1, 1) := by decide +kernel
theorem dX0_of_18 : decode cX0_of 18 = .ok (.arraylength, 1) := by decide +kernel
theorem dX0_of_19 : decode cX0_of 19 = .ok (.if_icmp .ge 9, 3) := by decide +kernel
theorem dX0_of_22 : decode cX0_of 22 = .ok (.aload_n 1, 1) := by decide +kernel
theorem dX0_of_23 : decode cX0_of 23 = .ok (.iload_n 2, 1) := by decide +kernel
theorem dX0_of_24 : decode cX0_of 24 = .ok (.iaload, 1) := by decide +kernel
theorem dX0_of_25 : decode cX0_of 25 = .ok (.goto 4, 3) := by decide +kernel
theorem dX0_of_28 : decode cX0_of 28 = .ok (.iconst 0, 1) := by decide +kernel
theorem dX0_of_29 : decode cX0_of 29 = .ok (.ireturn, 1) := by decide +kernel
theorem dX0_rowOf_0 : decode cX0_rowOf 0 = .ok (.iload_n 1, 1) := by decide +kernel
theorem dX0_rowOf_1 : decode cX0_rowOf 1 = .ok (.tableswitch 51 1 4 #[31, 36, 41, 46], 31) := by decide +kernel
theorem dX0_rowOf_32 : decode cX0_rowOf 32 = .ok (.aload_n 0, 1) := by decide +kernel
theorem dX0_rowOf_33 : decode cX0_rowOf 33 = .ok (.getfield 15, 3) := by decide +kernel
theorem dX0_rowOf_36 : decode cX0_rowOf 36 = .ok (.areturn, 1) := by decide +kernel
theorem dX0_rowOf_37 : decode cX0_rowOf 37 = .ok (.aload_n 0, 1) := by decide +kernel
theorem dX0_rowOf_38 : decode cX0_rowOf 38 = .ok (.getfield 18, 3) := by decide +kernel
theorem dX0_rowOf_41 : decode cX0_rowOf 41 = .ok (.areturn, 1) := by decide +kernel
theorem dX0_rowOf_42 : decode cX0_rowOf 42 = .ok (.aload_n 0, 1) := by decide +kernel
theorem dX0_rowOf_43 : decode cX0_rowOf 43 = .ok (.getfield 21, 3) := by decide +kernel
theorem dX0_rowOf_46 : decode cX0_rowOf 46 = .ok (.areturn, 1) := by decide +kernel
theorem dX0_rowOf_47 : decode cX0_rowOf 47 = .ok (.aload_n 0, 1) := by decide +kernel
theorem dX0_rowOf_48 : decode cX0_rowOf 48 = .ok (.getfield 24, 3) := by decide +kernel
theorem dX0_rowOf_51 : decode cX0_rowOf 51 = .ok (.areturn, 1) := by decide +kernel
theorem dX0_rowOf_52 : decode cX0_rowOf 52 = .ok (.aconst_null, 1) := by decide +kernel
theorem dX0_rowOf_53 : decode cX0_rowOf 53 = .ok (.areturn, 1) := by decide +kernel
theorem dX0_become_0 : decode cX0_become 0 = .ok (.aload_n 0, 1) := by decide +kernel
theorem dX0_become_1 : decode cX0_become 1 = .ok (.aload_n 1, 1) := by decide +kernel
theorem dX0_become_2 : decode cX0_become 2 = .ok (.getfield 34, 3) := by decide +kernel
theorem dX0_become_5 : decode cX0_become 5 = .ok (.putfield 34, 3) := by decide +kernel
theorem dX0_become_8 : decode cX0_become 8 = .ok (.aload_n 0, 1) := by decide +kernel
theorem dX0_become_9 : decode cX0_become 9 = .ok (.aload_n 1, 1) := by decide +kernel
theorem dX0_become_10 : decode cX0_become 10 = .ok (.getfield 37, 3) := by decide +kernel
theorem dX0_become_13 : decode cX0_become 13 = .ok (.putfield 37, 3) := by decide +kernel
theorem dX0_become_16 : decode cX0_become 16 = .ok (.aload_n 0, 1) := by decide +kernel
theorem dX0_become_17 : decode cX0_become 17 = .ok (.aload_n 1, 1) := by decide +kernel
theorem dX0_become_18 : decode cX0_become 18 = .ok (.getfield 30, 3) := by decide +kernel
theorem dX0_become_21 : decode cX0_become 21 = .ok (.putfield 30, 3) := by decide +kernel
theorem dX0_become_24 : decode cX0_become 24 = .ok (.aload_n 0, 1) := by decide +kernel
theorem dX0_become_25 : decode cX0_become 25 = .ok (.aload_n 1, 1) := by decide +kernel
theorem dX0_become_26 : decode cX0_become 26 = .ok (.getfield 40, 3) := by decide +kernel
theorem dX0_become_29 : decode cX0_become 29 = .ok (.putfield 40, 3) := by decide +kernel
theorem dX0_become_32 : decode cX0_become 32 = .ok (.iconst 0, 1) := by decide +kernel
theorem dX0_become_33 : decode cX0_become 33 = .ok (.istore_n 2, 1) := by decide +kernel
theorem dX0_become_34 : decode cX0_become 34 = .ok (.iload_n 2, 1) := by decide +kernel
theorem dX0_become_35 : decode cX0_become 35 = .ok (.iconst 5, 1) := by decide +kernel
theorem dX0_become_36 : decode cX0_become 36 = .ok (.if_icmp .ge 81, 3) := by decide +kernel
theorem dX0_become_39 : decode cX0_become 39 = .ok (.aload_n 0, 1) := by decide +kernel
theorem dX0_become_40 : decode cX0_become 40 = .ok (.getfield 9, 3) := by decide +kernel
theorem dX0_become_43 : decode cX0_become 43 = .ok (.iload_n 2, 1) := by decide +kernel
theorem dX0_become_44 : decode cX0_become 44 = .ok (.aload_n 1, 1) := by decide +kernel
theorem dX0_become_45 : decode cX0_become 45 = .ok (.getfield 9, 3) := by decide +kernel
theorem dX0_become_48 : decode cX0_become 48 = .ok (.iload_n 2, 1) := by decide +kernel
theorem dX0_become_49 : decode cX0_become 49 = .ok (.iaload, 1) := by decide +kernel
theorem dX0_become_50 : decode cX0_become 50 = .ok (.iastore, 1) := by decide +kernel
theorem dX0_become_51 : decode cX0_become 51 = .ok (.aload_n 0, 1) := by decide +kernel
theorem dX0_become_52 : decode cX0_become 52 = .ok (.getfield 15, 3) := by decide +kernel
theorem dX0_become_55 : decode cX0_become 55 = .ok (.iload_n 2, 1) := by decide +kernel
theorem dX0_become_56 : decode cX0_become 56 = .ok (.aload_n 1, 1) := by decide +kernel
theorem dX0_become_57 : decode cX0_become 57 = .ok (.getfield 15, 3) := by decide +kernel
theorem dX0_become_60 : decode cX0_become 60 = .ok (.iload_n 2, 1) := by decide +kernel
theorem dX0_become_61 : decode cX0_become 61 = .ok (.iaload, 1) := by decide +kernel
theorem dX0_become_62 : decode cX0_become 62 = .ok (.iastore, 1) := by decide +kernel
theorem dX0_become_63 : decode cX0_become 63 = .ok (.aload_n 0, 1) := by decide +kernel
theorem dX0_become_64 : decode cX0_become 64 = .ok (.getfield 18, 3) := by decide +kernel
theorem dX0_become_67 : decode cX0_become 67 = .ok (.iload_n 2, 1) := by decide +kernel
theorem dX0_become_68 : decode cX0_become 68 = .ok (.aload_n 1, 1) := by decide +kernel
theorem dX0_become_69 : decode cX0_become 69 = .ok (.getfield 18, 3) := by decide +kernel
theorem dX0_become_72 : decode cX0_become 72 = .ok (.iload_n 2, 1) := by decide +kernel
theorem dX0_become_73 : decode cX0_become 73 = .ok (.iaload, 1) := by decide +kernel
theorem dX0_become_74 : decode cX0_become 74 = .ok (.iastore, 1) := by decide +kernel
theorem dX0_become_75 : decode cX0_become 75 = .ok (.aload_n 0, 1) := by decide +kernel
theorem dX0_become_76 : decode cX0_become 76 = .ok (.getfield 21, 3) := by decide +kernel
theorem dX0_become_79 : decode cX0_become 79 = .ok (.iload_n 2, 1) := by decide +kernel
theorem dX0_become_80 : decode cX0_become 80 = .ok (.aload_n 1, 1) := by decide +kernel
theorem dX0_become_81 : decode cX0_become 81 = .ok (.getfield 21, 3) := by decide +kernel
theorem dX0_become_84 : decode cX0_become 84 = .ok (.iload_n 2, 1) := by decide +kernel
theorem dX0_become_85 : decode cX0_become 85 = .ok (.iaload, 1) := by decide +kernel
theorem dX0_become_86 : decode cX0_become 86 = .ok (.iastore, 1) := by decide +kernel
theorem dX0_become_87 : decode cX0_become 87 = .ok (.aload_n 0, 1) := by decide +kernel
theorem dX0_become_88 : decode cX0_become 88 = .ok (.getfield 24, 3) := by decide +kernel
theorem dX0_become_91 : decode cX0_become 91 = .ok (.iload_n 2, 1) := by decide +kernel
theorem dX0_become_92 : decode cX0_become 92 = .ok (.aload_n 1, 1) := by decide +kernel
theorem dX0_become_93 : decode cX0_become 93 = .ok (.getfield 24, 3) := by decide +kernel
theorem dX0_become_96 : decode cX0_become 96 = .ok (.iload_n 2, 1) := by decide +kernel
theorem dX0_become_97 : decode cX0_become 97 = .ok (.iaload, 1) := by decide +kernel
theorem dX0_become_98 : decode cX0_become 98 = .ok (.iastore, 1) := by decide +kernel
theorem dX0_become_99 : decode cX0_become 99 = .ok (.aload_n 0, 1) := by decide +kernel
theorem dX0_become_100 : decode cX0_become 100 = .ok (.getfield 27, 3) := by decide +kernel
theorem dX0_become_103 : decode cX0_become 103 = .ok (.iload_n 2, 1) := by decide +kernel
theorem dX0_become_104 : decode cX0_become 104 = .ok (.aload_n 1, 1) := by decide +kernel
theorem dX0_become_105 : decode cX0_become 105 = .ok (.getfield 27, 3) := by decide +kernel
theorem dX0_become_108 : decode cX0_become 108 = .ok (.iload_n 2, 1) := by decide +kernel
theorem dX0_become_109 : decode cX0_become 109 = .ok (.iaload, 1) := by decide +kernel
theorem dX0_become_110 : decode cX0_become 110 = .ok (.iastore, 1) := by decide +kernel
theorem dX0_become_111 : decode cX0_become 111 = .ok (.iinc 2 1, 3) := by decide +kernel
theorem dX0_become_114 : decode cX0_become 114 = .ok (.goto (-80), 3) := by decide +kernel
theorem dX0_become_117 : decode cX0_become 117 = .ok (.return_, 1) := by decide +kernel
theorem dX0_bear_0 : decode cX0_bear 0 = .ok (.aload_n 0, 1) := by decide +kernel
theorem dX0_bear_1 : decode cX0_bear 1 = .ok (.getfield 30, 3) := by decide +kernel
theorem dX0_bear_4 : decode cX0_bear 4 = .ok (.ifCond .lt 11, 3) := by decide +kernel
theorem dX0_bear_7 : decode cX0_bear 7 = .ok (.aload_n 0, 1) := by decide +kernel
theorem dX0_bear_8 : decode cX0_bear 8 = .ok (.getfield 30, 3) := by decide +kernel
theorem dX0_bear_11 : decode cX0_bear 11 = .ok (.iconst 5, 1) := by decide +kernel
theorem dX0_bear_12 : decode cX0_bear 12 = .ok (.if_icmp .lt 6, 3) := by decide +kernel
theorem dX0_bear_15 : decode cX0_bear 15 = .ok (.bipush (-4), 2) := by decide +kernel
theorem dX0_bear_17 : decode cX0_bear 17 = .ok (.ireturn, 1) := by decide +kernel
theorem dX0_bear_18 : decode cX0_bear 18 = .ok (.aload_n 0, 1) := by decide +kernel
theorem dX0_bear_19 : decode cX0_bear 19 = .ok (.getfield 30, 3) := by decide +kernel
theorem dX0_bear_22 : decode cX0_bear 22 = .ok (.istore_n 3, 1) := by decide +kernel
theorem dX0_bear_23 : decode cX0_bear 23 = .ok (.aload_n 0, 1) := by decide +kernel
theorem dX0_bear_24 : decode cX0_bear 24 = .ok (.getfield 9, 3) := by decide +kernel
theorem dX0_bear_27 : decode cX0_bear 27 = .ok (.iload_n 3, 1) := by decide +kernel
theorem dX0_bear_28 : decode cX0_bear 28 = .ok (.iload_n 1, 1) := by decide +kernel
theorem dX0_bear_29 : decode cX0_bear 29 = .ok (.iastore, 1) := by decide +kernel
theorem dX0_bear_30 : decode cX0_bear 30 = .ok (.aload_n 0, 1) := by decide +kernel
theorem dX0_bear_31 : decode cX0_bear 31 = .ok (.getfield 15, 3) := by decide +kernel
theorem dX0_bear_34 : decode cX0_bear 34 = .ok (.iload_n 3, 1) := by decide +kernel
theorem dX0_bear_35 : decode cX0_bear 35 = .ok (.iload_n 2, 1) := by decide +kernel
theorem dX0_bear_36 : decode cX0_bear 36 = .ok (.iastore, 1) := by decide +kernel
theorem dX0_bear_37 : decode cX0_bear 37 = .ok (.aload_n 0, 1) := by decide +kernel
theorem dX0_bear_38 : decode cX0_bear 38 = .ok (.getfield 18, 3) := by decide +kernel
theorem dX0_bear_41 : decode cX0_bear 41 = .ok (.iload_n 3, 1) := by decide +kernel
theorem dX0_bear_42 : decode cX0_bear 42 = .ok (.iconst 0, 1) := by decide +kernel
theorem dX0_bear_43 : decode cX0_bear 43 = .ok (.iastore, 1) := by decide +kernel
theorem dX0_bear_44 : decode cX0_bear 44 = .ok (.aload_n 0, 1) := by decide +kernel
theorem dX0_bear_45 : decode cX0_bear 45 = .ok (.getfield 21, 3) := by decide +kernel
theorem dX0_bear_48 : decode cX0_bear 48 = .ok (.iload_n 3, 1) := by decide +kernel
theorem dX0_bear_49 : decode cX0_bear 49 = .ok (.iconst 0, 1) := by decide +kernel
theorem dX0_bear_50 : decode cX0_bear 50 = .ok (.iastore, 1) := by decide +kernel
theorem dX0_bear_51 : decode cX0_bear 51 = .ok (.aload_n 0, 1) := by decide +kernel
theorem dX0_bear_52 : decode cX0_bear 52 = .ok (.getfield 24, 3) := by decide +kernel
theorem dX0_bear_55 : decode cX0_bear 55 = .ok (.iload_n 3, 1) := by decide +kernel
theorem dX0_bear_56 : decode cX0_bear 56 = .ok (.iconst 0, 1) := by decide +kernel
theorem dX0_bear_57 : decode cX0_bear 57 = .ok (.iastore, 1) := by decide +kernel
theorem dX0_bear_58 : decode cX0_bear 58 = .ok (.aload_n 0, 1) := by decide +kernel
theorem dX0_bear_59 : decode cX0_bear 59 = .ok (.dup, 1) := by decide +kernel
theorem dX0_bear_60 : decode cX0_bear 60 = .ok (.getfield 30, 3) := by decide +kernel
theorem dX0_bear_63 : decode cX0_bear 63 = .ok (.iconst 1, 1) := by decide +kernel
theorem dX0_bear_64 : decode cX0_bear 64 = .ok (.iadd, 1) := by decide +kernel
theorem dX0_bear_65 : decode cX0_bear 65 = .ok (.putfield 30, 3) := by decide +kernel
theorem dX0_bear_68 : decode cX0_bear 68 = .ok (.aload_n 0, 1) := by decide +kernel
theorem dX0_bear_69 : decode cX0_bear 69 = .ok (.iload_n 3, 1) := by decide +kernel
theorem dX0_bear_70 : decode cX0_bear 70 = .ok (.invokevirtual 43, 3) := by decide +kernel
theorem dX0_bear_73 : decode cX0_bear 73 = .ok (.pop, 1) := by decide +kernel
theorem dX0_bear_74 : decode cX0_bear 74 = .ok (.iload_n 3, 1) := by decide +kernel
theorem dX0_bear_75 : decode cX0_bear 75 = .ok (.ireturn, 1) := by decide +kernel
theorem dX0_join_0 : decode cX0_join 0 = .ok (.aload_n 0, 1) := by decide +kernel
theorem dX0_join_1 : decode cX0_join 1 = .ok (.getfield 40, 3) := by decide +kernel
theorem dX0_join_4 : decode cX0_join 4 = .ok (.ifCond .lt 11, 3) := by decide +kernel
theorem dX0_join_7 : decode cX0_join 7 = .ok (.aload_n 0, 1) := by decide +kernel
theorem dX0_join_8 : decode cX0_join 8 = .ok (.getfield 40, 3) := by decide +kernel
theorem dX0_join_11 : decode cX0_join 11 = .ok (.iconst 5, 1) := by decide +kernel
theorem dX0_join_12 : decode cX0_join 12 = .ok (.if_icmp .lt 5, 3) := by decide +kernel
theorem dX0_join_15 : decode cX0_join 15 = .ok (.iconst (-1), 1) := by decide +kernel
theorem dX0_join_16 : decode cX0_join 16 = .ok (.ireturn, 1) := by decide +kernel
theorem dX0_join_17 : decode cX0_join 17 = .ok (.aload_n 0, 1) := by decide +kernel
theorem dX0_join_18 : decode cX0_join 18 = .ok (.getfield 27, 3) := by decide +kernel
theorem dX0_join_21 : decode cX0_join 21 = .ok (.aload_n 0, 1) := by decide +kernel
theorem dX0_join_22 : decode cX0_join 22 = .ok (.getfield 40, 3) := by decide +kernel
theorem dX0_join_25 : decode cX0_join 25 = .ok (.iload_n 1, 1) := by decide +kernel
theorem dX0_join_26 : decode cX0_join 26 = .ok (.iastore, 1) := by decide +kernel
theorem dX0_join_27 : decode cX0_join 27 = .ok (.aload_n 0, 1) := by decide +kernel
theorem dX0_join_28 : decode cX0_join 28 = .ok (.dup, 1) := by decide +kernel
theorem dX0_join_29 : decode cX0_join 29 = .ok (.getfield 40, 3) := by decide +kernel
theorem dX0_join_32 : decode cX0_join 32 = .ok (.iconst 1, 1) := by decide +kernel
theorem dX0_join_33 : decode cX0_join 33 = .ok (.iadd, 1) := by decide +kernel
theorem dX0_join_34 : decode cX0_join 34 = .ok (.putfield 40, 3) := by decide +kernel
theorem dX0_join_37 : decode cX0_join 37 = .ok (.aload_n 0, 1) := by decide +kernel
theorem dX0_join_38 : decode cX0_join 38 = .ok (.getfield 40, 3) := by decide +kernel
theorem dX0_join_41 : decode cX0_join 41 = .ok (.iconst 1, 1) := by decide +kernel
theorem dX0_join_42 : decode cX0_join 42 = .ok (.isub, 1) := by decide +kernel
theorem dX0_join_43 : decode cX0_join 43 = .ok (.ireturn, 1) := by decide +kernel
theorem dX0_dropFirst_0 : decode cX0_dropFirst 0 = .ok (.aload_n 0, 1) := by decide +kernel
theorem dX0_dropFirst_1 : decode cX0_dropFirst 1 = .ok (.getfield 40, 3) := by decide +kernel
theorem dX0_dropFirst_4 : decode cX0_dropFirst 4 = .ok (.ifCond .gt 4, 3) := by decide +kernel
theorem dX0_dropFirst_7 : decode cX0_dropFirst 7 = .ok (.return_, 1) := by decide +kernel
theorem dX0_dropFirst_8 : decode cX0_dropFirst 8 = .ok (.iconst 1, 1) := by decide +kernel
theorem dX0_dropFirst_9 : decode cX0_dropFirst 9 = .ok (.istore_n 1, 1) := by decide +kernel
theorem dX0_dropFirst_10 : decode cX0_dropFirst 10 = .ok (.iload_n 1, 1) := by decide +kernel
theorem dX0_dropFirst_11 : decode cX0_dropFirst 11 = .ok (.aload_n 0, 1) := by decide +kernel
theorem dX0_dropFirst_12 : decode cX0_dropFirst 12 = .ok (.getfield 40, 3) := by decide +kernel
theorem dX0_dropFirst_15 : decode cX0_dropFirst 15 = .ok (.if_icmp .ge 28, 3) := by decide +kernel
theorem dX0_dropFirst_18 : decode cX0_dropFirst 18 = .ok (.iload_n 1, 1) := by decide +kernel
theorem dX0_dropFirst_19 : decode cX0_dropFirst 19 = .ok (.iconst 5, 1) := by decide +kernel
theorem dX0_dropFirst_20 : decode cX0_dropFirst 20 = .ok (.if_icmp .ge 23, 3) := by decide +kernel
theorem dX0_dropFirst_23 : decode cX0_dropFirst 23 = .ok (.aload_n 0, 1) := by decide +kernel
theorem dX0_dropFirst_24 : decode cX0_dropFirst 24 = .ok (.getfield 27, 3) := by decide +kernel
theorem dX0_dropFirst_27 : decode cX0_dropFirst 27 = .ok (.iload_n 1, 1) := by decide +kernel
theorem dX0_dropFirst_28 : decode cX0_dropFirst 28 = .ok (.iconst 1, 1) := by decide +kernel
theorem dX0_dropFirst_29 : decode cX0_dropFirst 29 = .ok (.isub, 1) := by decide +kernel
theorem dX0_dropFirst_30 : decode cX0_dropFirst 30 = .ok (.aload_n 0, 1) := by decide +kernel
theorem dX0_dropFirst_31 : decode cX0_dropFirst 31 = .ok (.getfield 27, 3) := by decide +kernel
theorem dX0_dropFirst_34 : decode cX0_dropFirst 34 = .ok (.iload_n 1, 1) := by decide +kernel
theorem dX0_dropFirst_35 : decode cX0_dropFirst 35 = .ok (.iaload, 1) := by decide +kernel
theorem dX0_dropFirst_36 : decode cX0_dropFirst 36 = .ok (.iastore, 1) := by decide +kernel
theorem dX0_dropFirst_37 : decode cX0_dropFirst 37 = .ok (.iinc 1 1, 3) := by decide +kernel
theorem dX0_dropFirst_40 : decode cX0_dropFirst 40 = .ok (.goto (-30), 3) := by decide +kernel
theorem dX0_dropFirst_43 : decode cX0_dropFirst 43 = .ok (.aload_n 0, 1) := by decide +kernel
theorem dX0_dropFirst_44 : decode cX0_dropFirst 44 = .ok (.dup, 1) := by decide +kernel
theorem dX0_dropFirst_45 : decode cX0_dropFirst 45 = .ok (.getfield 40, 3) := by decide +kernel
theorem dX0_dropFirst_48 : decode cX0_dropFirst 48 = .ok (.iconst 1, 1) := by decide +kernel
theorem dX0_dropFirst_49 : decode cX0_dropFirst 49 = .ok (.isub, 1) := by decide +kernel
theorem dX0_dropFirst_50 : decode cX0_dropFirst 50 = .ok (.putfield 40, 3) := by decide +kernel
theorem dX0_dropFirst_53 : decode cX0_dropFirst 53 = .ok (.return_, 1) := by decide +kernel
theorem dX0_moveUp_0 : decode cX0_moveUp 0 = .ok (.iload_n 1, 1) := by decide +kernel
theorem dX0_moveUp_1 : decode cX0_moveUp 1 = .ok (.iconst 1, 1) := by decide +kernel
theorem dX0_moveUp_2 : decode cX0_moveUp 2 = .ok (.if_icmp .lt 16, 3) := by decide +kernel
theorem dX0_moveUp_5 : decode cX0_moveUp 5 = .ok (.iload_n 1, 1) := by decide +kernel
theorem dX0_moveUp_6 : decode cX0_moveUp 6 = .ok (.aload_n 0, 1) := by decide +kernel
theorem dX0_moveUp_7 : decode cX0_moveUp 7 = .ok (.getfield 40, 3) := by decide +kernel
theorem dX0_moveUp_10 : decode cX0_moveUp 10 = .ok (.if_icmp .ge 8, 3) := by decide +kernel
theorem dX0_moveUp_13 : decode cX0_moveUp 13 = .ok (.iload_n 1, 1) := by decide +kernel
theorem dX0_moveUp_14 : decode cX0_moveUp 14 = .ok (.iconst 5, 1) := by decide +kernel
theorem dX0_moveUp_15 : decode cX0_moveUp 15 = .ok (.if_icmp .lt 4, 3) := by decide +kernel
theorem dX0_moveUp_18 : decode cX0_moveUp 18 = .ok (.return_, 1) := by decide +kernel
theorem dX0_moveUp_19 : decode cX0_moveUp 19 = .ok (.aload_n 0, 1) := by decide +kernel
theorem dX0_moveUp_20 : decode cX0_moveUp 20 = .ok (.getfield 27, 3) := by decide +kernel
theorem dX0_moveUp_23 : decode cX0_moveUp 23 = .ok (.iload_n 1, 1) := by decide +kernel
theorem dX0_moveUp_24 : decode cX0_moveUp 24 = .ok (.iaload, 1) := by decide +kernel
theorem dX0_moveUp_25 : decode cX0_moveUp 25 = .ok (.istore_n 2, 1) := by decide +kernel
theorem dX0_moveUp_26 : decode cX0_moveUp 26 = .ok (.aload_n 0, 1) := by decide +kernel
theorem dX0_moveUp_27 : decode cX0_moveUp 27 = .ok (.getfield 27, 3) := by decide +kernel
theorem dX0_moveUp_30 : decode cX0_moveUp 30 = .ok (.iload_n 1, 1) := by decide +kernel
theorem dX0_moveUp_31 : decode cX0_moveUp 31 = .ok (.aload_n 0, 1) := by decide +kernel
theorem dX0_moveUp_32 : decode cX0_moveUp 32 = .ok (.getfield 27, 3) := by decide +kernel
theorem dX0_moveUp_35 : decode cX0_moveUp 35 = .ok (.iload_n 1, 1) := by decide +kernel
theorem dX0_moveUp_36 : decode cX0_moveUp 36 = .ok (.iconst 1, 1) := by decide +kernel
theorem dX0_moveUp_37 : decode cX0_moveUp 37 = .ok (.isub, 1) := by decide +kernel
theorem dX0_moveUp_38 : decode cX0_moveUp 38 = .ok (.iaload, 1) := by decide +kernel
theorem dX0_moveUp_39 : decode cX0_moveUp 39 = .ok (.iastore, 1) := by decide +kernel
theorem dX0_moveUp_40 : decode cX0_moveUp 40 = .ok (.aload_n 0, 1) := by decide +kernel
theorem dX0_moveUp_41 : decode cX0_moveUp 41 = .ok (.getfield 27, 3) := by decide +kernel
theorem dX0_moveUp_44 : decode cX0_moveUp 44 = .ok (.iload_n 1, 1) := by decide +kernel
theorem dX0_moveUp_45 : decode cX0_moveUp 45 = .ok (.iconst 1, 1) := by decide +kernel
theorem dX0_moveUp_46 : decode cX0_moveUp 46 = .ok (.isub, 1) := by decide +kernel
theorem dX0_moveUp_47 : decode cX0_moveUp 47 = .ok (.iload_n 2, 1) := by decide +kernel
theorem dX0_moveUp_48 : decode cX0_moveUp 48 = .ok (.iastore, 1) := by decide +kernel
theorem dX0_moveUp_49 : decode cX0_moveUp 49 = .ok (.return_, 1) := by decide +kernel
theorem dX0_at_0 : decode cX0_at 0 = .ok (.iload_n 1, 1) := by decide +kernel
theorem dX0_at_1 : decode cX0_at 1 = .ok (.ifCond .lt 25, 3) := by decide +kernel
theorem dX0_at_4 : decode cX0_at 4 = .ok (.iload_n 1, 1) := by decide +kernel
theorem dX0_at_5 : decode cX0_at 5 = .ok (.aload_n 0, 1) := by decide +kernel
theorem dX0_at_6 : decode cX0_at 6 = .ok (.getfield 40, 3) := by decide +kernel
theorem dX0_at_9 : decode cX0_at 9 = .ok (.if_icmp .ge 17, 3) := by decide +kernel
theorem dX0_at_12 : decode cX0_at 12 = .ok (.iload_n 1, 1) := by decide +kernel
theorem dX0_at_13 : decode cX0_at 13 = .ok (.iconst 5, 1) := by decide +kernel
theorem dX0_at_14 : decode cX0_at 14 = .ok (.if_icmp .ge 12, 3) := by decide +kernel
theorem dX0_at_17 : decode cX0_at 17 = .ok (.aload_n 0, 1) := by decide +kernel
theorem dX0_at_18 : decode cX0_at 18 = .ok (.getfield 27, 3) := by decide +kernel
theorem dX0_at_21 : decode cX0_at 21 = .ok (.iload_n 1, 1) := by decide +kernel
theorem dX0_at_22 : decode cX0_at 22 = .ok (.iaload, 1) := by decide +kernel
theorem dX0_at_23 : decode cX0_at 23 = .ok (.goto 4, 3) := by decide +kernel
theorem dX0_at_26 : decode cX0_at 26 = .ok (.iconst (-1), 1) := by decide +kernel
theorem dX0_at_27 : decode cX0_at 27 = .ok (.ireturn, 1) := by decide +kernel
theorem dX0_isHeld_0 : decode cX0_isHeld 0 = .ok (.iload_n 1, 1) := by decide +kernel
theorem dX0_isHeld_1 : decode cX0_isHeld 1 = .ok (.ifCond .ne 19, 3) := by decide +kernel
theorem dX0_isHeld_4 : decode cX0_isHeld 4 = .ok (.aload_n 0, 1) := by decide +kernel
theorem dX0_isHeld_5 : decode cX0_isHeld 5 = .ok (.aload_n 0, 1) := by decide +kernel
theorem dX0_isHeld_6 : decode cX0_isHeld 6 = .ok (.getfield 24, 3) := by decide +kernel
theorem dX0_isHeld_9 : decode cX0_isHeld 9 = .ok (.iload_n 2, 1) := by decide +kernel
theorem dX0_isHeld_10 : decode cX0_isHeld 10 = .ok (.invokevirtual 47, 3) := by decide +kernel
theorem dX0_isHeld_13 : decode cX0_isHeld 13 = .ok (.ifCond .le 7, 3) := by decide +kernel
theorem dX0_isHeld_16 : decode cX0_isHeld 16 = .ok (.iconst 1, 1) := by decide +kernel
theorem dX0_isHeld_17 : decode cX0_isHeld 17 = .ok (.goto 4, 3) := by decide +kernel
theorem dX0_isHeld_20 : decode cX0_isHeld 20 = .ok (.iconst 0, 1) := by decide +kernel
theorem dX0_isHeld_21 : decode cX0_isHeld 21 = .ok (.ireturn, 1) := by decide +kernel
theorem dX0_placeOf_0 : decode cX0_placeOf 0 = .ok (.iconst 0, 1) := by decide +kernel
theorem dX0_placeOf_1 : decode cX0_placeOf 1 = .ok (.istore_n 2, 1) := by decide +kernel
theorem dX0_placeOf_2 : decode cX0_placeOf 2 = .ok (.iload_n 2, 1) := by decide +kernel
theorem dX0_placeOf_3 : decode cX0_placeOf 3 = .ok (.aload_n 0, 1) := by decide +kernel
theorem dX0_placeOf_4 : decode cX0_placeOf 4 = .ok (.getfield 40, 3) := by decide +kernel
theorem dX0_placeOf_7 : decode cX0_placeOf 7 = .ok (.if_icmp .ge 26, 3) := by decide +kernel
theorem dX0_placeOf_10 : decode cX0_placeOf 10 = .ok (.iload_n 2, 1) := by decide +kernel
theorem dX0_placeOf_11 : decode cX0_placeOf 11 = .ok (.iconst 5, 1) := by decide +kernel
theorem dX0_placeOf_12 : decode cX0_placeOf 12 = .ok (.if_icmp .ge 21, 3) := by decide +kernel
theorem dX0_placeOf_15 : decode cX0_placeOf 15 = .ok (.aload_n 0, 1) := by decide +kernel
theorem dX0_placeOf_16 : decode cX0_placeOf 16 = .ok (.getfield 27, 3) := by decide +kernel
theorem dX0_placeOf_19 : decode cX0_placeOf 19 = .ok (.iload_n 2, 1) := by decide +kernel
theorem dX0_placeOf_20 : decode cX0_placeOf 20 = .ok (.iaload, 1) := by decide +kernel
theorem dX0_placeOf_21 : decode cX0_placeOf 21 = .ok (.iload_n 1, 1) := by decide +kernel
theorem dX0_placeOf_22 : decode cX0_placeOf 22 = .ok (.if_icmp .ne 5, 3) := by decide +kernel
theorem dX0_placeOf_25 : decode cX0_placeOf 25 = .ok (.iload_n 2, 1) := by decide +kernel
theorem dX0_placeOf_26 : decode cX0_placeOf 26 = .ok (.ireturn, 1) := by decide +kernel
theorem dX0_placeOf_27 : decode cX0_placeOf 27 = .ok (.iinc 2 1, 3) := by decide +kernel
theorem dX0_placeOf_30 : decode cX0_placeOf 30 = .ok (.goto (-28), 3) := by decide +kernel
theorem dX0_placeOf_33 : decode cX0_placeOf 33 = .ok (.iconst (-1), 1) := by decide +kernel
theorem dX0_placeOf_34 : decode cX0_placeOf 34 = .ok (.ireturn, 1) := by decide +kernel
theorem dX0_likes_0 : decode cX0_likes 0 = .ok (.iload_n 1, 1) := by decide +kernel
theorem dX0_likes_1 : decode cX0_likes 1 = .ok (.ifCond .lt 29, 3) := by decide +kernel
theorem dX0_likes_4 : decode cX0_likes 4 = .ok (.iload_n 1, 1) := by decide +kernel
theorem dX0_likes_5 : decode cX0_likes 5 = .ok (.aload_n 0, 1) := by decide +kernel
theorem dX0_likes_6 : decode cX0_likes 6 = .ok (.getfield 30, 3) := by decide +kernel
theorem dX0_likes_9 : decode cX0_likes 9 = .ok (.if_icmp .ge 21, 3) := by decide +kernel
theorem dX0_likes_12 : decode cX0_likes 12 = .ok (.iload_n 1, 1) := by decide +kernel
theorem dX0_likes_13 : decode cX0_likes 13 = .ok (.iconst 5, 1) := by decide +kernel
theorem dX0_likes_14 : decode cX0_likes 14 = .ok (.if_icmp .ge 16, 3) := by decide +kernel
theorem dX0_likes_17 : decode cX0_likes 17 = .ok (.aload_n 0, 1) := by decide +kernel
theorem dX0_likes_18 : decode cX0_likes 18 = .ok (.getfield 18, 3) := by decide +kernel
theorem dX0_likes_21 : decode cX0_likes 21 = .ok (.iload_n 1, 1) := by decide +kernel
theorem dX0_likes_22 : decode cX0_likes 22 = .ok (.iaload, 1) := by decide +kernel
theorem dX0_likes_23 : decode cX0_likes 23 = .ok (.iload_n 2, 1) := by decide +kernel
theorem dX0_likes_24 : decode cX0_likes 24 = .ok (.ishr, 1) := by decide +kernel
theorem dX0_likes_25 : decode cX0_likes 25 = .ok (.iconst 1, 1) := by decide +kernel
theorem dX0_likes_26 : decode cX0_likes 26 = .ok (.iand, 1) := by decide +kernel
theorem dX0_likes_27 : decode cX0_likes 27 = .ok (.goto 4, 3) := by decide +kernel
theorem dX0_likes_30 : decode cX0_likes 30 = .ok (.iconst 0, 1) := by decide +kernel
theorem dX0_likes_31 : decode cX0_likes 31 = .ok (.ireturn, 1) := by decide +kernel
theorem dX0_likersOf_0 : decode cX0_likersOf 0 = .ok (.iconst 0, 1) := by decide +kernel
theorem dX0_likersOf_1 : decode cX0_likersOf 1 = .ok (.istore_n 2, 1) := by decide +kernel
theorem dX0_likersOf_2 : decode cX0_likersOf 2 = .ok (.iconst 0, 1) := by decide +kernel
theorem dX0_likersOf_3 : decode cX0_likersOf 3 = .ok (.istore_n 3, 1) := by decide +kernel
theorem dX0_likersOf_4 : decode cX0_likersOf 4 = .ok (.iload_n 3, 1) := by decide +kernel
theorem dX0_likersOf_5 : decode cX0_likersOf 5 = .ok (.aload_n 0, 1) := by decide +kernel
theorem dX0_likersOf_6 : decode cX0_likersOf 6 = .ok (.getfield 30, 3) := by decide +kernel
theorem dX0_likersOf_9 : decode cX0_likersOf 9 = .ok (.if_icmp .ge 27, 3) := by decide +kernel
theorem dX0_likersOf_12 : decode cX0_likersOf 12 = .ok (.iload_n 3, 1) := by decide +kernel
theorem dX0_likersOf_13 : decode cX0_likersOf 13 = .ok (.iconst 5, 1) := by decide +kernel
theorem dX0_likersOf_14 : decode cX0_likersOf 14 = .ok (.if_icmp .ge 22, 3) := by decide +kernel
theorem dX0_likersOf_17 : decode cX0_likersOf 17 = .ok (.iload_n 2, 1) := by decide +kernel
theorem dX0_likersOf_18 : decode cX0_likersOf 18 = .ok (.aload_n 0, 1) := by decide +kernel
theorem dX0_likersOf_19 : decode cX0_likersOf 19 = .ok (.getfield 18, 3) := by decide +kernel
theorem dX0_likersOf_22 : decode cX0_likersOf 22 = .ok (.iload_n 3, 1) := by decide +kernel
theorem dX0_likersOf_23 : decode cX0_likersOf 23 = .ok (.iaload, 1) := by decide +kernel
theorem dX0_likersOf_24 : decode cX0_likersOf 24 = .ok (.iload_n 1, 1) := by decide +kernel
theorem dX0_likersOf_25 : decode cX0_likersOf 25 = .ok (.ishr, 1) := by decide +kernel
theorem dX0_likersOf_26 : decode cX0_likersOf 26 = .ok (.iconst 1, 1) := by decide +kernel
theorem dX0_likersOf_27 : decode cX0_likersOf 27 = .ok (.iand, 1) := by decide +kernel
theorem dX0_likersOf_28 : decode cX0_likersOf 28 = .ok (.iadd, 1) := by decide +kernel
theorem dX0_likersOf_29 : decode cX0_likersOf 29 = .ok (.istore_n 2, 1) := by decide +kernel
theorem dX0_likersOf_30 : decode cX0_likersOf 30 = .ok (.iinc 3 1, 3) := by decide +kernel
theorem dX0_likersOf_33 : decode cX0_likersOf 33 = .ok (.goto (-29), 3) := by decide +kernel
theorem dX0_likersOf_36 : decode cX0_likersOf 36 = .ok (.iload_n 2, 1) := by decide +kernel
theorem dX0_likersOf_37 : decode cX0_likersOf 37 = .ok (.ireturn, 1) := by decide +kernel
theorem dX0_drawLikes_0 : decode cX0_drawLikes 0 = .ok (.iload_n 1, 1) := by decide +kernel
theorem dX0_drawLikes_1 : decode cX0_drawLikes 1 = .ok (.istore_n 2, 1) := by decide +kernel
theorem dX0_drawLikes_2 : decode cX0_drawLikes 2 = .ok (.iconst 0, 1) := by decide +kernel
theorem dX0_drawLikes_3 : decode cX0_drawLikes 3 = .ok (.istore_n 3, 1) := by decide +kernel
theorem dX0_drawLikes_4 : decode cX0_drawLikes 4 = .ok (.iload_n 3, 1) := by decide +kernel
theorem dX0_drawLikes_5 : decode cX0_drawLikes 5 = .ok (.aload_n 0, 1) := by decide +kernel
theorem dX0_drawLikes_6 : decode cX0_drawLikes 6 = .ok (.getfield 30, 3) := by decide +kernel
theorem dX0_drawLikes_9 : decode cX0_drawLikes 9 = .ok (.if_icmp .ge 55, 3) := by decide +kernel
theorem dX0_drawLikes_12 : decode cX0_drawLikes 12 = .ok (.iload_n 3, 1) := by decide +kernel
theorem dX0_drawLikes_13 : decode cX0_drawLikes 13 = .ok (.iconst 5, 1) := by decide +kernel
theorem dX0_drawLikes_14 : decode cX0_drawLikes 14 = .ok (.if_icmp .ge 50, 3) := by decide +kernel
theorem dX0_drawLikes_17 : decode cX0_drawLikes 17 = .ok (.iload_n 2, 1) := by decide +kernel
theorem dX0_drawLikes_18 : decode cX0_drawLikes 18 = .ok (.ldc 51, 2) := by decide +kernel
theorem dX0_drawLikes_20 : decode cX0_drawLikes 20 = .ok (.imul, 1) := by decide +kernel
theorem dX0_drawLikes_21 : decode cX0_drawLikes 21 = .ok (.sipush 12345, 3) := by decide +kernel
theorem dX0_drawLikes_24 : decode cX0_drawLikes 24 = .ok (.iadd, 1) := by decide +kernel
theorem dX0_drawLikes_25 : decode cX0_drawLikes 25 = .ok (.istore_n 2, 1) := by decide +kernel
theorem dX0_drawLikes_26 : decode cX0_drawLikes 26 = .ok (.iconst 1, 1) := by decide +kernel
theorem dX0_drawLikes_27 : decode cX0_drawLikes 27 = .ok (.aload_n 0, 1) := by decide +kernel
theorem dX0_drawLikes_28 : decode cX0_drawLikes 28 = .ok (.getfield 30, 3) := by decide +kernel
theorem dX0_drawLikes_31 : decode cX0_drawLikes 31 = .ok (.ishl, 1) := by decide +kernel
theorem dX0_drawLikes_32 : decode cX0_drawLikes 32 = .ok (.iconst 1, 1) := by decide +kernel
theorem dX0_drawLikes_33 : decode cX0_drawLikes 33 = .ok (.isub, 1) := by decide +kernel
theorem dX0_drawLikes_34 : decode cX0_drawLikes 34 = .ok (.iconst 1, 1) := by decide +kernel
theorem dX0_drawLikes_35 : decode cX0_drawLikes 35 = .ok (.iload_n 3, 1) := by decide +kernel
theorem dX0_drawLikes_36 : decode cX0_drawLikes 36 = .ok (.ishl, 1) := by decide +kernel
theorem dX0_drawLikes_37 : decode cX0_drawLikes 37 = .ok (.iconst (-1), 1) := by decide +kernel
theorem dX0_drawLikes_38 : decode cX0_drawLikes 38 = .ok (.ixor, 1) := by decide +kernel
theorem dX0_drawLikes_39 : decode cX0_drawLikes 39 = .ok (.iand, 1) := by decide +kernel
theorem dX0_drawLikes_40 : decode cX0_drawLikes 40 = .ok (.istore 4, 2) := by decide +kernel
theorem dX0_drawLikes_42 : decode cX0_drawLikes 42 = .ok (.aload_n 0, 1) := by decide +kernel
theorem dX0_drawLikes_43 : decode cX0_drawLikes 43 = .ok (.getfield 18, 3) := by decide +kernel
theorem dX0_drawLikes_46 : decode cX0_drawLikes 46 = .ok (.iload_n 3, 1) := by decide +kernel
theorem dX0_drawLikes_47 : decode cX0_drawLikes 47 = .ok (.iload_n 2, 1) := by decide +kernel
theorem dX0_drawLikes_48 : decode cX0_drawLikes 48 = .ok (.bipush 9, 2) := by decide +kernel
theorem dX0_drawLikes_50 : decode cX0_drawLikes 50 = .ok (.iushr, 1) := by decide +kernel
theorem dX0_drawLikes_51 : decode cX0_drawLikes 51 = .ok (.bipush 32, 2) := by decide +kernel
theorem dX0_drawLikes_53 : decode cX0_drawLikes 53 = .ok (.irem, 1) := by decide +kernel
theorem dX0_drawLikes_54 : decode cX0_drawLikes 54 = .ok (.iload 4, 2) := by decide +kernel
theorem dX0_drawLikes_56 : decode cX0_drawLikes 56 = .ok (.iand, 1) := by decide +kernel
theorem dX0_drawLikes_57 : decode cX0_drawLikes 57 = .ok (.iastore, 1) := by decide +kernel
theorem dX0_drawLikes_58 : decode cX0_drawLikes 58 = .ok (.iinc 3 1, 3) := by decide +kernel
theorem dX0_drawLikes_61 : decode cX0_drawLikes 61 = .ok (.goto (-57), 3) := by decide +kernel
theorem dX0_drawLikes_64 : decode cX0_drawLikes 64 = .ok (.return_, 1) := by decide +kernel
theorem dX1_init_0 : decode cX1_init 0 = .ok (.aload_n 0, 1) := by decide +kernel
theorem dX1_init_1 : decode cX1_init 1 = .ok (.invokespecial 3, 3) := by decide +kernel
theorem dX1_init_4 : decode cX1_init 4 = .ok (.aload_n 0, 1) := by decide +kernel
theorem dX1_init_5 : decode cX1_init 5 = .ok (.aload_n 1, 1) := by decide +kernel
theorem dX1_init_6 : decode cX1_init 6 = .ok (.putfield 9, 3) := by decide +kernel
theorem dX1_init_9 : decode cX1_init 9 = .ok (.return_, 1) := by decide +kernel
theorem dX1_isUnder_0 : decode cX1_isUnder 0 = .ok (.iload_n 0, 1) := by decide +kernel
theorem dX1_isUnder_1 : decode cX1_isUnder 1 = .ok (.istore_n 2, 1) := by decide +kernel
theorem dX1_isUnder_2 : decode cX1_isUnder 2 = .ok (.iconst 0, 1) := by decide +kernel
theorem dX1_isUnder_3 : decode cX1_isUnder 3 = .ok (.istore_n 3, 1) := by decide +kernel
theorem dX1_isUnder_4 : decode cX1_isUnder 4 = .ok (.iload_n 3, 1) := by decide +kernel
theorem dX1_isUnder_5 : decode cX1_isUnder 5 = .ok (.bipush 6, 2) := by decide +kernel
theorem dX1_isUnder_7 : decode cX1_isUnder 7 = .ok (.if_icmp .ge 34, 3) := by decide +kernel
theorem dX1_isUnder_10 : decode cX1_isUnder 10 = .ok (.iload_n 2, 1) := by decide +kernel
theorem dX1_isUnder_11 : decode cX1_isUnder 11 = .ok (.ifCond .lt 30, 3) := by decide +kernel
theorem dX1_isUnder_14 : decode cX1_isUnder 14 = .ok (.iload_n 2, 1) := by decide +kernel
theorem dX1_isUnder_15 : decode cX1_isUnder 15 = .ok (.getstatic 15, 3) := by decide +kernel
theorem dX1_isUnder_18 : decode cX1_isUnder 18 = .ok (.arraylength, 1) := by decide +kernel
theorem dX1_isUnder_19 : decode cX1_isUnder 19 = .ok (.if_icmp .ge 22, 3) := by decide +kernel
theorem dX1_isUnder_22 : decode cX1_isUnder 22 = .ok (.iload_n 2, 1) := by decide +kernel
theorem dX1_isUnder_23 : decode cX1_isUnder 23 = .ok (.iload_n 1, 1) := by decide +kernel
theorem dX1_isUnder_24 : decode cX1_isUnder 24 = .ok (.if_icmp .ne 5, 3) := by decide +kernel
theorem dX1_isUnder_27 : decode cX1_isUnder 27 = .ok (.iconst 1, 1) := by decide +kernel
theorem dX1_isUnder_28 : decode cX1_isUnder 28 = .ok (.ireturn, 1) := by decide +kernel
theorem dX1_isUnder_29 : decode cX1_isUnder 29 = .ok (.getstatic 15, 3) := by decide +kernel
theorem dX1_isUnder_32 : decode cX1_isUnder 32 = .ok (.iload_n 2, 1) := by decide +kernel
theorem dX1_isUnder_33 : decode cX1_isUnder 33 = .ok (.iaload, 1) := by decide +kernel
theorem dX1_isUnder_34 : decode cX1_isUnder 34 = .ok (.istore_n 2, 1) := by decide +kernel
theorem dX1_isUnder_35 : decode cX1_isUnder 35 = .ok (.iinc 3 1, 3) := by decide +kernel
theorem dX1_isUnder_38 : decode cX1_isUnder 38 = .ok (.goto (-34), 3) := by decide +kernel
theorem dX1_isUnder_41 : decode cX1_isUnder 41 = .ok (.iconst 0, 1) := by decide +kernel
theorem dX1_isUnder_42 : decode cX1_isUnder 42 = .ok (.ireturn, 1) := by decide +kernel
theorem dX1_minds_0 : decode cX1_minds 0 = .ok (.aload_n 1, 1) := by decide +kernel
theorem dX1_minds_1 : decode cX1_minds 1 = .ok (.iload_n 2, 1) := by decide +kernel
theorem dX1_minds_2 : decode cX1_minds 2 = .ok (.invokevirtual 19, 3) := by decide +kernel
theorem dX1_minds_5 : decode cX1_minds 5 = .ok (.ifCond .eq 16, 3) := by decide +kernel
theorem dX1_minds_8 : decode cX1_minds 8 = .ok (.aload_n 1, 1) := by decide +kernel
theorem dX1_minds_9 : decode cX1_minds 9 = .ok (.iload_n 3, 1) := by decide +kernel
theorem dX1_minds_10 : decode cX1_minds 10 = .ok (.invokevirtual 19, 3) := by decide +kernel
theorem dX1_minds_13 : decode cX1_minds 13 = .ok (.ifCond .eq 8, 3) := by decide +kernel
theorem dX1_minds_16 : decode cX1_minds 16 = .ok (.iload_n 2, 1) := by decide +kernel
theorem dX1_minds_17 : decode cX1_minds 17 = .ok (.iload_n 3, 1) := by decide +kernel
theorem dX1_minds_18 : decode cX1_minds 18 = .ok (.if_icmp .ne 5, 3) := by decide +kernel
theorem dX1_minds_21 : decode cX1_minds 21 = .ok (.iconst 1, 1) := by decide +kernel
theorem dX1_minds_22 : decode cX1_minds 22 = .ok (.ireturn, 1) := by decide +kernel
theorem dX1_minds_23 : decode cX1_minds 23 = .ok (.aload_n 0, 1) := by decide +kernel
theorem dX1_minds_24 : decode cX1_minds 24 = .ok (.getfield 9, 3) := by decide +kernel
theorem dX1_minds_27 : decode cX1_minds 27 = .ok (.aload_n 1, 1) := by decide +kernel
theorem dX1_minds_28 : decode cX1_minds 28 = .ok (.invokevirtual 25, 3) := by decide +kernel
theorem dX1_minds_31 : decode cX1_minds 31 = .ok (.iconst 0, 1) := by decide +kernel
theorem dX1_minds_32 : decode cX1_minds 32 = .ok (.aload_n 1, 1) := by decide +kernel
theorem dX1_minds_33 : decode cX1_minds 33 = .ok (.iload_n 2, 1) := by decide +kernel
theorem dX1_minds_34 : decode cX1_minds 34 = .ok (.iload_n 3, 1) := by decide +kernel
theorem dX1_minds_35 : decode cX1_minds 35 = .ok (.invokevirtual 33, 3) := by decide +kernel
theorem dX1_minds_38 : decode cX1_minds 38 = .ok (.ifCond .eq 7, 3) := by decide +kernel
theorem dX1_minds_41 : decode cX1_minds 41 = .ok (.iconst 1, 1) := by decide +kernel
theorem dX1_minds_42 : decode cX1_minds 42 = .ok (.goto 4, 3) := by decide +kernel
theorem dX1_minds_45 : decode cX1_minds 45 = .ok (.iconst 0, 1) := by decide +kernel
theorem dX1_minds_46 : decode cX1_minds 46 = .ok (.istore 4, 2) := by decide +kernel
theorem dX1_minds_48 : decode cX1_minds 48 = .ok (.aload_n 1, 1) := by decide +kernel
theorem dX1_minds_49 : decode cX1_minds 49 = .ok (.aload_n 1, 1) := by decide +kernel
theorem dX1_minds_50 : decode cX1_minds 50 = .ok (.getfield 37, 3) := by decide +kernel
theorem dX1_minds_53 : decode cX1_minds 53 = .ok (.iload_n 3, 1) := by decide +kernel
theorem dX1_minds_54 : decode cX1_minds 54 = .ok (.invokevirtual 40, 3) := by decide +kernel
theorem dX1_minds_57 : decode cX1_minds 57 = .ok (.ifCond .ne 7, 3) := by decide +kernel
theorem dX1_minds_60 : decode cX1_minds 60 = .ok (.iconst 1, 1) := by decide +kernel
theorem dX1_minds_61 : decode cX1_minds 61 = .ok (.goto 4, 3) := by decide +kernel
theorem dX1_minds_64 : decode cX1_minds 64 = .ok (.iconst 0, 1) := by decide +kernel
theorem dX1_minds_65 : decode cX1_minds 65 = .ok (.istore 5, 2) := by decide +kernel
theorem dX1_minds_67 : decode cX1_minds 67 = .ok (.aload_n 1, 1) := by decide +kernel
theorem dX1_minds_68 : decode cX1_minds 68 = .ok (.aload_n 1, 1) := by decide +kernel
theorem dX1_minds_69 : decode cX1_minds 69 = .ok (.getfield 44, 3) := by decide +kernel
theorem dX1_minds_72 : decode cX1_minds 72 = .ok (.iload_n 2, 1) := by decide +kernel
theorem dX1_minds_73 : decode cX1_minds 73 = .ok (.invokevirtual 40, 3) := by decide +kernel
theorem dX1_minds_76 : decode cX1_minds 76 = .ok (.tableswitch 113 1 5 #[36, 56, 72, 74, 111], 36) := by decide +kernel
theorem dX1_minds_112 : decode cX1_minds 112 = .ok (.iload 4, 2) := by decide +kernel
theorem dX1_minds_114 : decode cX1_minds 114 = .ok (.ifCond .eq 16, 3) := by decide +kernel
theorem dX1_minds_117 : decode cX1_minds 117 = .ok (.aload_n 1, 1) := by decide +kernel
theorem dX1_minds_118 : decode cX1_minds 118 = .ok (.iload_n 2, 1) := by decide +kernel
theorem dX1_minds_119 : decode cX1_minds 119 = .ok (.iload_n 3, 1) := by decide +kernel
theorem dX1_minds_120 : decode cX1_minds 120 = .ok (.invokevirtual 47, 3) := by decide +kernel
theorem dX1_minds_123 : decode cX1_minds 123 = .ok (.ifCond .ne 7, 3) := by decide +kernel
theorem dX1_minds_126 : decode cX1_minds 126 = .ok (.iconst 1, 1) := by decide +kernel
theorem dX1_minds_127 : decode cX1_minds 127 = .ok (.goto 4, 3) := by decide +kernel
theorem dX1_minds_130 : decode cX1_minds 130 = .ok (.iconst 0, 1) := by decide +kernel
theorem dX1_minds_131 : decode cX1_minds 131 = .ok (.ireturn, 1) := by decide +kernel
theorem dX1_minds_132 : decode cX1_minds 132 = .ok (.iload 4, 2) := by decide +kernel
theorem dX1_minds_134 : decode cX1_minds 134 = .ok (.ifCond .ne 8, 3) := by decide +kernel
theorem dX1_minds_137 : decode cX1_minds 137 = .ok (.iload 5, 2) := by decide +kernel
theorem dX1_minds_139 : decode cX1_minds 139 = .ok (.ifCond .eq 7, 3) := by decide +kernel
theorem dX1_minds_142 : decode cX1_minds 142 = .ok (.iconst 1, 1) := by decide +kernel
theorem dX1_minds_143 : decode cX1_minds 143 = .ok (.goto 4, 3) := by decide +kernel
theorem dX1_minds_146 : decode cX1_minds 146 = .ok (.iconst 0, 1) := by decide +kernel
theorem dX1_minds_147 : decode cX1_minds 147 = .ok (.ireturn, 1) := by decide +kernel
theorem dX1_minds_148 : decode cX1_minds 148 = .ok (.iconst 0, 1) := by decide +kernel
theorem dX1_minds_149 : decode cX1_minds 149 = .ok (.ireturn, 1) := by decide +kernel
theorem dX1_minds_150 : decode cX1_minds 150 = .ok (.iload 4, 2) := by decide +kernel
theorem dX1_minds_152 : decode cX1_minds 152 = .ok (.ifCond .ne 29, 3) := by decide +kernel
theorem dX1_minds_155 : decode cX1_minds 155 = .ok (.iload 5, 2) := by decide +kernel
theorem dX1_minds_157 : decode cX1_minds 157 = .ok (.ifCond .ne 24, 3) := by decide +kernel
theorem dX1_minds_160 : decode cX1_minds 160 = .ok (.aload_n 1, 1) := by decide +kernel
theorem dX1_minds_161 : decode cX1_minds 161 = .ok (.aload_n 1, 1) := by decide +kernel
theorem dX1_minds_162 : decode cX1_minds 162 = .ok (.getfield 51, 3) := by decide +kernel
theorem dX1_minds_165 : decode cX1_minds 165 = .ok (.iload_n 3, 1) := by decide +kernel
theorem dX1_minds_166 : decode cX1_minds 166 = .ok (.invokevirtual 40, 3) := by decide +kernel
theorem dX1_minds_169 : decode cX1_minds 169 = .ok (.aload_n 1, 1) := by decide +kernel
theorem dX1_minds_170 : decode cX1_minds 170 = .ok (.aload_n 1, 1) := by decide +kernel
theorem dX1_minds_171 : decode cX1_minds 171 = .ok (.getfield 51, 3) := by decide +kernel
theorem dX1_minds_174 : decode cX1_minds 174 = .ok (.iload_n 2, 1) := by decide +kernel
theorem dX1_minds_175 : decode cX1_minds 175 = .ok (.invokevirtual 40, 3) := by decide +kernel
theorem dX1_minds_178 : decode cX1_minds 178 = .ok (.if_icmp .ge 7, 3) := by decide +kernel
theorem dX1_minds_181 : decode cX1_minds 181 = .ok (.iconst 1, 1) := by decide +kernel
theorem dX1_minds_182 : decode cX1_minds 182 = .ok (.goto 4, 3) := by decide +kernel
theorem dX1_minds_185 : decode cX1_minds 185 = .ok (.iconst 0, 1) := by decide +kernel
theorem dX1_minds_186 : decode cX1_minds 186 = .ok (.ireturn, 1) := by decide +kernel
theorem dX1_minds_187 : decode cX1_minds 187 = .ok (.iconst 1, 1) := by decide +kernel
theorem dX1_minds_188 : decode cX1_minds 188 = .ok (.ireturn, 1) := by decide +kernel
theorem dX1_minds_189 : decode cX1_minds 189 = .ok (.iload 4, 2) := by decide +kernel
theorem dX1_minds_191 : decode cX1_minds 191 = .ok (.ireturn, 1) := by decide +kernel
theorem dX1_lasts_0 : decode cX1_lasts 0 = .ok (.iconst 0, 1) := by decide +kernel
theorem dX1_lasts_1 : decode cX1_lasts 1 = .ok (.bipush 40, 2) := by decide +kernel
theorem dX1_lasts_3 : decode cX1_lasts 3 = .ok (.aload_n 0, 1) := by decide +kernel
theorem dX1_lasts_4 : decode cX1_lasts 4 = .ok (.getfield 9, 3) := by decide +kernel
theorem dX1_lasts_7 : decode cX1_lasts 7 = .ok (.aload_n 1, 1) := by decide +kernel
theorem dX1_lasts_8 : decode cX1_lasts 8 = .ok (.invokevirtual 25, 3) := by decide +kernel
theorem dX1_lasts_11 : decode cX1_lasts 11 = .ok (.iconst 1, 1) := by decide +kernel
theorem dX1_lasts_12 : decode cX1_lasts 12 = .ok (.aload_n 1, 1) := by decide +kernel
theorem dX1_lasts_13 : decode cX1_lasts 13 = .ok (.iload_n 2, 1) := by decide +kernel
theorem dX1_lasts_14 : decode cX1_lasts 14 = .ok (.iconst (-1), 1) := by decide +kernel
theorem dX1_lasts_15 : decode cX1_lasts 15 = .ok (.invokevirtual 33, 3) := by decide +kernel
theorem dX1_lasts_18 : decode cX1_lasts 18 = .ok (.invokestatic 54, 3) := by decide +kernel
theorem dX1_lasts_21 : decode cX1_lasts 21 = .ok (.istore_n 3, 1) := by decide +kernel
theorem dX1_lasts_22 : decode cX1_lasts 22 = .ok (.iconst 1, 1) := by decide +kernel
theorem dX1_lasts_23 : decode cX1_lasts 23 = .ok (.bipush 40, 2) := by decide +kernel
theorem dX1_lasts_25 : decode cX1_lasts 25 = .ok (.aload_n 1, 1) := by decide +kernel
theorem dX1_lasts_26 : decode cX1_lasts 26 = .ok (.aload_n 1, 1) := by decide +kernel
theorem dX1_lasts_27 : decode cX1_lasts 27 = .ok (.getfield 44, 3) := by decide +kernel
theorem dX1_lasts_30 : decode cX1_lasts 30 = .ok (.iload_n 2, 1) := by decide +kernel
theorem dX1_lasts_31 : decode cX1_lasts 31 = .ok (.invokevirtual 40, 3) := by decide +kernel
theorem dX1_lasts_34 : decode cX1_lasts 34 = .ok (.iload_n 3, 1) := by decide +kernel
theorem dX1_lasts_35 : decode cX1_lasts 35 = .ok (.aload_n 1, 1) := by decide +kernel
theorem dX1_lasts_36 : decode cX1_lasts 36 = .ok (.aload_n 1, 1) := by decide +kernel
theorem dX1_lasts_37 : decode cX1_lasts 37 = .ok (.getfield 51, 3) := by decide +kernel
theorem dX1_lasts_40 : decode cX1_lasts 40 = .ok (.iload_n 2, 1) := by decide +kernel
theorem dX1_lasts_41 : decode cX1_lasts 41 = .ok (.invokevirtual 40, 3) := by decide +kernel
theorem dX1_lasts_44 : decode cX1_lasts 44 = .ok (.invokestatic 58, 3) := by decide +kernel
theorem dX1_lasts_47 : decode cX1_lasts 47 = .ok (.invokestatic 54, 3) := by decide +kernel
theorem dX1_lasts_50 : decode cX1_lasts 50 = .ok (.ireturn, 1) := by decide +kernel
theorem dX1_lastsOfKind_0 : decode cX1_lastsOfKind 0 = .ok (.iload_n 0, 1) := by decide +kernel
theorem dX1_lastsOfKind_1 : decode cX1_lastsOfKind 1 = .ok (.tableswitch 51 1 5 #[35, 39, 35, 43, 49], 35) := by decide +kernel
theorem dX1_lastsOfKind_36 : decode cX1_lastsOfKind 36 = .ok (.iload_n 1, 1) := by decide +kernel
theorem dX1_lastsOfKind_37 : decode cX1_lastsOfKind 37 = .ok (.iconst 2, 1) := by decide +kernel
theorem dX1_lastsOfKind_38 : decode cX1_lastsOfKind 38 = .ok (.iadd, 1) := by decide +kernel
theorem dX1_lastsOfKind_39 : decode cX1_lastsOfKind 39 = .ok (.ireturn, 1) := by decide +kernel
theorem dX1_lastsOfKind_40 : decode cX1_lastsOfKind 40 = .ok (.iload_n 1, 1) := by decide +kernel
theorem dX1_lastsOfKind_41 : decode cX1_lastsOfKind 41 = .ok (.iconst 2, 1) := by decide +kernel
theorem dX1_lastsOfKind_42 : decode cX1_lastsOfKind 42 = .ok (.idiv, 1) := by decide +kernel
theorem dX1_lastsOfKind_43 : decode cX1_lastsOfKind 43 = .ok (.ireturn, 1) := by decide +kernel
theorem dX1_lastsOfKind_44 : decode cX1_lastsOfKind 44 = .ok (.iload_n 1, 1) := by decide +kernel
theorem dX1_lastsOfKind_45 : decode cX1_lastsOfKind 45 = .ok (.iconst 2, 1) := by decide +kernel
theorem dX1_lastsOfKind_46 : decode cX1_lastsOfKind 46 = .ok (.idiv, 1) := by decide +kernel
theorem dX1_lastsOfKind_47 : decode cX1_lastsOfKind 47 = .ok (.iload_n 2, 1) := by decide +kernel
theorem dX1_lastsOfKind_48 : decode cX1_lastsOfKind 48 = .ok (.iadd, 1) := by decide +kernel
theorem dX1_lastsOfKind_49 : decode cX1_lastsOfKind 49 = .ok (.ireturn, 1) := by decide +kernel
theorem dX1_lastsOfKind_50 : decode cX1_lastsOfKind 50 = .ok (.iconst 1, 1) := by decide +kernel
theorem dX1_lastsOfKind_51 : decode cX1_lastsOfKind 51 = .ok (.ireturn, 1) := by decide +kernel
theorem dX1_lastsOfKind_52 : decode cX1_lastsOfKind 52 = .ok (.iload_n 1, 1) := by decide +kernel
theorem dX1_lastsOfKind_53 : decode cX1_lastsOfKind 53 = .ok (.ireturn, 1) := by decide +kernel
theorem dX1_irks_0 : decode cX1_irks 0 = .ok (.iconst 0, 1) := by decide +kernel
theorem dX1_irks_1 : decode cX1_irks 1 = .ok (.bipush 99, 2) := by decide +kernel
theorem dX1_irks_3 : decode cX1_irks 3 = .ok (.aload_n 0, 1) := by decide +kernel
theorem dX1_irks_4 : decode cX1_irks 4 = .ok (.getfield 9, 3) := by decide +kernel
theorem dX1_irks_7 : decode cX1_irks 7 = .ok (.aload_n 1, 1) := by decide +kernel
theorem dX1_irks_8 : decode cX1_irks 8 = .ok (.invokevirtual 25, 3) := by decide +kernel
theorem dX1_irks_11 : decode cX1_irks 11 = .ok (.iconst 2, 1) := by decide +kernel
theorem dX1_irks_12 : decode cX1_irks 12 = .ok (.aload_n 1, 1) := by decide +kernel
theorem dX1_irks_13 : decode cX1_irks 13 = .ok (.iload_n 2, 1) := by decide +kernel
theorem dX1_irks_14 : decode cX1_irks 14 = .ok (.iconst (-1), 1) := by decide +kernel
theorem dX1_irks_15 : decode cX1_irks 15 = .ok (.invokevirtual 33, 3) := by decide +kernel
theorem dX1_irks_18 : decode cX1_irks 18 = .ok (.invokestatic 54, 3) := by decide +kernel
theorem dX1_irks_21 : decode cX1_irks 21 = .ok (.istore_n 3, 1) := by decide +kernel
theorem dX1_irks_22 : decode cX1_irks 22 = .ok (.iconst 0, 1) := by decide +kernel
theorem dX1_irks_23 : decode cX1_irks 23 = .ok (.bipush 99, 2) := by decide +kernel
theorem dX1_irks_25 : decode cX1_irks 25 = .ok (.aload_n 1, 1) := by decide +kernel
theorem dX1_irks_26 : decode cX1_irks 26 = .ok (.aload_n 1, 1) := by decide +kernel
theorem dX1_irks_27 : decode cX1_irks 27 = .ok (.getfield 44, 3) := by decide +kernel
theorem dX1_irks_30 : decode cX1_irks 30 = .ok (.iload_n 2, 1) := by decide +kernel
theorem dX1_irks_31 : decode cX1_irks 31 = .ok (.invokevirtual 40, 3) := by decide +kernel
theorem dX1_irks_34 : decode cX1_irks 34 = .ok (.iload_n 3, 1) := by decide +kernel
theorem dX1_irks_35 : decode cX1_irks 35 = .ok (.aload_n 1, 1) := by decide +kernel
theorem dX1_irks_36 : decode cX1_irks 36 = .ok (.aload_n 1, 1) := by decide +kernel
theorem dX1_irks_37 : decode cX1_irks 37 = .ok (.getfield 51, 3) := by decide +kernel
theorem dX1_irks_40 : decode cX1_irks 40 = .ok (.iload_n 2, 1) := by decide +kernel
theorem dX1_irks_41 : decode cX1_irks 41 = .ok (.invokevirtual 40, 3) := by decide +kernel
theorem dX1_irks_44 : decode cX1_irks 44 = .ok (.invokestatic 61, 3) := by decide +kernel
theorem dX1_irks_47 : decode cX1_irks 47 = .ok (.invokestatic 54, 3) := by decide +kernel
theorem dX1_irks_50 : decode cX1_irks 50 = .ok (.ireturn, 1) := by decide +kernel
theorem dX1_irksOfKind_0 : decode cX1_irksOfKind 0 = .ok (.iload_n 0, 1) := by decide +kernel
theorem dX1_irksOfKind_1 : decode cX1_irksOfKind 1 = .ok (.tableswitch 41 2 5 #[31, 35, 31, 39], 31) := by decide +kernel
theorem dX1_irksOfKind_32 : decode cX1_irksOfKind 32 = .ok (.iconst 2, 1) := by decide +kernel
theorem dX1_irksOfKind_33 : decode cX1_irksOfKind 33 = .ok (.iload_n 1, 1) := by decide +kernel
theorem dX1_irksOfKind_34 : decode cX1_irksOfKind 34 = .ok (.imul, 1) := by decide +kernel
theorem dX1_irksOfKind_35 : decode cX1_irksOfKind 35 = .ok (.ireturn, 1) := by decide +kernel
theorem dX1_irksOfKind_36 : decode cX1_irksOfKind 36 = .ok (.iload_n 1, 1) := by decide +kernel
theorem dX1_irksOfKind_37 : decode cX1_irksOfKind 37 = .ok (.iload_n 2, 1) := by decide +kernel
theorem dX1_irksOfKind_38 : decode cX1_irksOfKind 38 = .ok (.iadd, 1) := by decide +kernel
theorem dX1_irksOfKind_39 : decode cX1_irksOfKind 39 = .ok (.ireturn, 1) := by decide +kernel
theorem dX1_irksOfKind_40 : decode cX1_irksOfKind 40 = .ok (.iconst 0, 1) := by decide +kernel
theorem dX1_irksOfKind_41 : decode cX1_irksOfKind 41 = .ok (.ireturn, 1) := by decide +kernel
theorem dX1_irksOfKind_42 : decode cX1_irksOfKind 42 = .ok (.iload_n 1, 1) := by decide +kernel
theorem dX1_irksOfKind_43 : decode cX1_irksOfKind 43 = .ok (.ireturn, 1) := by decide +kernel
theorem dX1_within_0 : decode cX1_within 0 = .ok (.iload_n 2, 1) := by decide +kernel
theorem dX1_within_1 : decode cX1_within 1 = .ok (.iload_n 0, 1) := by decide +kernel
theorem dX1_within_2 : decode cX1_within 2 = .ok (.if_icmp .ge 7, 3) := by decide +kernel
theorem dX1_within_5 : decode cX1_within 5 = .ok (.iload_n 0, 1) := by decide +kernel
theorem dX1_within_6 : decode cX1_within 6 = .ok (.goto 13, 3) := by decide +kernel
theorem dX1_within_9 : decode cX1_within 9 = .ok (.iload_n 2, 1) := by decide +kernel
theorem dX1_within_10 : decode cX1_within 10 = .ok (.iload_n 1, 1) := by decide +kernel
theorem dX1_within_11 : decode cX1_within 11 = .ok (.if_icmp .le 7, 3) := by decide +kernel
theorem dX1_within_14 : decode cX1_within 14 = .ok (.iload_n 1, 1) := by decide +kernel
theorem dX1_within_15 : decode cX1_within 15 = .ok (.goto 4, 3) := by decide +kernel
theorem dX1_within_18 : decode cX1_within 18 = .ok (.iload_n 2, 1) := by decide +kernel
theorem dX1_within_19 : decode cX1_within 19 = .ok (.ireturn, 1) := by decide +kernel
theorem dX1_canPass_0 : decode cX1_canPass 0 = .ok (.iload_n 2, 1) := by decide +kernel
theorem dX1_canPass_1 : decode cX1_canPass 1 = .ok (.iconst 1, 1) := by decide +kernel
theorem dX1_canPass_2 : decode cX1_canPass 2 = .ok (.if_icmp .lt 11, 3) := by decide +kernel
theorem dX1_canPass_5 : decode cX1_canPass 5 = .ok (.iload_n 2, 1) := by decide +kernel
theorem dX1_canPass_6 : decode cX1_canPass 6 = .ok (.aload_n 1, 1) := by decide +kernel
theorem dX1_canPass_7 : decode cX1_canPass 7 = .ok (.getfield 64, 3) := by decide +kernel
theorem dX1_canPass_10 : decode cX1_canPass 10 = .ok (.if_icmp .lt 5, 3) := by decide +kernel
theorem dX1_canPass_13 : decode cX1_canPass 13 = .ok (.iconst 0, 1) := by decide +kernel
theorem dX1_canPass_14 : decode cX1_canPass 14 = .ok (.ireturn, 1) := by decide +kernel
theorem dX1_canPass_15 : decode cX1_canPass 15 = .ok (.aload_n 1, 1) := by decide +kernel
theorem dX1_canPass_16 : decode cX1_canPass 16 = .ok (.iload_n 2, 1) := by decide +kernel
theorem dX1_canPass_17 : decode cX1_canPass 17 = .ok (.iconst 1, 1) := by decide +kernel
theorem dX1_canPass_18 : decode cX1_canPass 18 = .ok (.isub, 1) := by decide +kernel
theorem dX1_canPass_19 : decode cX1_canPass 19 = .ok (.invokevirtual 68, 3) := by decide +kernel
theorem dX1_canPass_22 : decode cX1_canPass 22 = .ok (.istore_n 3, 1) := by decide +kernel
theorem dX1_canPass_23 : decode cX1_canPass 23 = .ok (.aload_n 1, 1) := by decide +kernel
theorem dX1_canPass_24 : decode cX1_canPass 24 = .ok (.iload_n 2, 1) := by decide +kernel
theorem dX1_canPass_25 : decode cX1_canPass 25 = .ok (.iconst 1, 1) := by decide +kernel
theorem dX1_canPass_26 : decode cX1_canPass 26 = .ok (.isub, 1) := by decide +kernel
theorem dX1_canPass_27 : decode cX1_canPass 27 = .ok (.iload_n 3, 1) := by decide +kernel
theorem dX1_canPass_28 : decode cX1_canPass 28 = .ok (.invokevirtual 72, 3) := by decide +kernel
theorem dX1_canPass_31 : decode cX1_canPass 31 = .ok (.ifCond .ne 21, 3) := by decide +kernel
theorem dX1_canPass_34 : decode cX1_canPass 34 = .ok (.aload_n 0, 1) := by decide +kernel
theorem dX1_canPass_35 : decode cX1_canPass 35 = .ok (.aload_n 1, 1) := by decide +kernel
theorem dX1_canPass_36 : decode cX1_canPass 36 = .ok (.iload_n 3, 1) := by decide +kernel
theorem dX1_canPass_37 : decode cX1_canPass 37 = .ok (.aload_n 1, 1) := by decide +kernel
theorem dX1_canPass_38 : decode cX1_canPass 38 = .ok (.iload_n 2, 1) := by decide +kernel
theorem dX1_canPass_39 : decode cX1_canPass 39 = .ok (.invokevirtual 68, 3) := by decide +kernel
theorem dX1_canPass_42 : decode cX1_canPass 42 = .ok (.invokevirtual 76, 3) := by decide +kernel
theorem dX1_canPass_45 : decode cX1_canPass 45 = .ok (.ifCond .ne 7, 3) := by decide +kernel
theorem dX1_canPass_48 : decode cX1_canPass 48 = .ok (.iconst 1, 1) := by decide +kernel
theorem dX1_canPass_49 : decode cX1_canPass 49 = .ok (.goto 4, 3) := by decide +kernel
theorem dX1_canPass_52 : decode cX1_canPass 52 = .ok (.iconst 0, 1) := by decide +kernel
theorem dX1_canPass_53 : decode cX1_canPass 53 = .ok (.ireturn, 1) := by decide +kernel
theorem dX1_hasten_0 : decode cX1_hasten 0 = .ok (.iconst 0, 1) := by decide +kernel
theorem dX1_hasten_1 : decode cX1_hasten 1 = .ok (.istore_n 2, 1) := by decide +kernel
theorem dX1_hasten_2 : decode cX1_hasten 2 = .ok (.iconst 1, 1) := by decide +kernel
theorem dX1_hasten_3 : decode cX1_hasten 3 = .ok (.istore_n 3, 1) := by decide +kernel
theorem dX1_hasten_4 : decode cX1_hasten 4 = .ok (.iload_n 3, 1) := by decide +kernel
theorem dX1_hasten_5 : decode cX1_hasten 5 = .ok (.iconst 5, 1) := by decide +kernel
theorem dX1_hasten_6 : decode cX1_hasten 6 = .ok (.if_icmp .ge 26, 3) := by decide +kernel
theorem dX1_hasten_9 : decode cX1_hasten 9 = .ok (.aload_n 0, 1) := by decide +kernel
theorem dX1_hasten_10 : decode cX1_hasten 10 = .ok (.aload_n 1, 1) := by decide +kernel
theorem dX1_hasten_11 : decode cX1_hasten 11 = .ok (.iload_n 3, 1) := by decide +kernel
theorem dX1_hasten_12 : decode cX1_hasten 12 = .ok (.invokevirtual 80, 3) := by decide +kernel
theorem dX1_hasten_15 : decode cX1_hasten 15 = .ok (.ifCond .eq 11, 3) := by decide +kernel
theorem dX1_hasten_18 : decode cX1_hasten 18 = .ok (.aload_n 1, 1) := by decide +kernel
theorem dX1_hasten_19 : decode cX1_hasten 19 = .ok (.iload_n 3, 1) := by decide +kernel
theorem dX1_hasten_20 : decode cX1_hasten 20 = .ok (.invokevirtual 84, 3) := by decide +kernel
theorem dX1_hasten_23 : decode cX1_hasten 23 = .ok (.iinc 2 1, 3) := by decide +kernel
theorem dX1_hasten_26 : decode cX1_hasten 26 = .ok (.iinc 3 1, 3) := by decide +kernel
theorem dX1_hasten_29 : decode cX1_hasten 29 = .ok (.goto (-25), 3) := by decide +kernel
theorem dX1_hasten_32 : decode cX1_hasten 32 = .ok (.iload_n 2, 1) := by decide +kernel
theorem dX1_hasten_33 : decode cX1_hasten 33 = .ok (.ireturn, 1) := by decide +kernel
theorem dX1_goOn_0 : decode cX1_goOn 0 = .ok (.aload_n 1, 1) := by decide +kernel
theorem dX1_goOn_1 : decode cX1_goOn 1 = .ok (.iconst 0, 1) := by decide +kernel
theorem dX1_goOn_2 : decode cX1_goOn 2 = .ok (.invokevirtual 68, 3) := by decide +kernel
theorem dX1_goOn_5 : decode cX1_goOn 5 = .ok (.istore_n 2, 1) := by decide +kernel
theorem dX1_goOn_6 : decode cX1_goOn 6 = .ok (.iconst (-1), 1) := by decide +kernel
theorem dX1_goOn_7 : decode cX1_goOn 7 = .ok (.istore_n 3, 1) := by decide +kernel
theorem dX1_goOn_8 : decode cX1_goOn 8 = .ok (.aload_n 1, 1) := by decide +kernel
theorem dX1_goOn_9 : decode cX1_goOn 9 = .ok (.iload_n 2, 1) := by decide +kernel
theorem dX1_goOn_10 : decode cX1_goOn 10 = .ok (.invokevirtual 19, 3) := by decide +kernel
theorem dX1_goOn_13 : decode cX1_goOn 13 = .ok (.ifCond .eq 38, 3) := by decide +kernel
theorem dX1_goOn_16 : decode cX1_goOn 16 = .ok (.aload_n 0, 1) := by decide +kernel
theorem dX1_goOn_17 : decode cX1_goOn 17 = .ok (.aload_n 1, 1) := by decide +kernel
theorem dX1_goOn_18 : decode cX1_goOn 18 = .ok (.iload_n 2, 1) := by decide +kernel
theorem dX1_goOn_19 : decode cX1_goOn 19 = .ok (.invokevirtual 88, 3) := by decide +kernel
theorem dX1_goOn_22 : decode cX1_goOn 22 = .ok (.istore 4, 2) := by decide +kernel
theorem dX1_goOn_24 : decode cX1_goOn 24 = .ok (.aload_n 1, 1) := by decide +kernel
theorem dX1_goOn_25 : decode cX1_goOn 25 = .ok (.getfield 92, 3) := by decide +kernel
theorem dX1_goOn_28 : decode cX1_goOn 28 = .ok (.iload_n 2, 1) := by decide +kernel
theorem dX1_goOn_29 : decode cX1_goOn 29 = .ok (.dup2, 1) := by decide +kernel
theorem dX1_goOn_30 : decode cX1_goOn 30 = .ok (.iaload, 1) := by decide +kernel
theorem dX1_goOn_31 : decode cX1_goOn 31 = .ok (.iconst 1, 1) := by decide +kernel
theorem dX1_goOn_32 : decode cX1_goOn 32 = .ok (.iadd, 1) := by decide +kernel
theorem dX1_goOn_33 : decode cX1_goOn 33 = .ok (.iastore, 1) := by decide +kernel
theorem dX1_goOn_34 : decode cX1_goOn 34 = .ok (.aload_n 1, 1) := by decide +kernel
theorem dX1_goOn_35 : decode cX1_goOn 35 = .ok (.getfield 92, 3) := by decide +kernel
theorem dX1_goOn_38 : decode cX1_goOn 38 = .ok (.iload_n 2, 1) := by decide +kernel
theorem dX1_goOn_39 : decode cX1_goOn 39 = .ok (.iaload, 1) := by decide +kernel
theorem dX1_goOn_40 : decode cX1_goOn 40 = .ok (.iload 4, 2) := by decide +kernel
theorem dX1_goOn_42 : decode cX1_goOn 42 = .ok (.if_icmp .lt 9, 3) := by decide +kernel
theorem dX1_goOn_45 : decode cX1_goOn 45 = .ok (.aload_n 1, 1) := by decide +kernel
theorem dX1_goOn_46 : decode cX1_goOn 46 = .ok (.invokevirtual 95, 3) := by decide +kernel
theorem dX1_goOn_49 : decode cX1_goOn 49 = .ok (.iload_n 2, 1) := by decide +kernel
theorem dX1_goOn_50 : decode cX1_goOn 50 = .ok (.istore_n 3, 1) := by decide +kernel
theorem dX1_goOn_51 : decode cX1_goOn 51 = .ok (.aload_n 1, 1) := by decide +kernel
theorem dX1_goOn_52 : decode cX1_goOn 52 = .ok (.dup, 1) := by decide +kernel
theorem dX1_goOn_53 : decode cX1_goOn 53 = .ok (.getfield 98, 3) := by decide +kernel
theorem dX1_goOn_56 : decode cX1_goOn 56 = .ok (.iconst 1, 1) := by decide +kernel
theorem dX1_goOn_57 : decode cX1_goOn 57 = .ok (.iadd, 1) := by decide +kernel
theorem dX1_goOn_58 : decode cX1_goOn 58 = .ok (.putfield 98, 3) := by decide +kernel
theorem dX1_goOn_61 : decode cX1_goOn 61 = .ok (.iload_n 3, 1) := by decide +kernel
theorem dX1_goOn_62 : decode cX1_goOn 62 = .ok (.ireturn, 1) := by decide +kernel
theorem dX2_init_0 : decode cX2_init 0 = .ok (.aload_n 0, 1) := by decide +kernel
theorem dX2_init_1 : decode cX2_init 1 = .ok (.invokespecial 5, 3) := by decide +kernel
theorem dX2_init_4 : decode cX2_init 4 = .ok (.aload_n 0, 1) := by decide +kernel
theorem dX2_init_5 : decode cX2_init 5 = .ok (.sipush 160, 3) := by decide +kernel
theorem dX2_init_8 : decode cX2_init 8 = .ok (.newarray .int, 2) := by decide +kernel
theorem dX2_init_10 : decode cX2_init 10 = .ok (.putfield 11, 3) := by decide +kernel
theorem dX2_init_13 : decode cX2_init 13 = .ok (.return_, 1) := by decide +kernel
theorem dX2_put_0 : decode cX2_put 0 = .ok (.aload_n 0, 1) := by decide +kernel
theorem dX2_put_1 : decode cX2_put 1 = .ok (.getfield 15, 3) := by decide +kernel
theorem dX2_put_4 : decode cX2_put 4 = .ok (.ifCond .lt 13, 3) := by decide +kernel
theorem dX2_put_7 : decode cX2_put 7 = .ok (.aload_n 0, 1) := by decide +kernel
theorem dX2_put_8 : decode cX2_put 8 = .ok (.getfield 15, 3) := by decide +kernel
theorem dX2_put_11 : decode cX2_put 11 = .ok (.sipush 160, 3) := by decide +kernel
theorem dX2_put_14 : decode cX2_put 14 = .ok (.if_icmp .lt 5, 3) := by decide +kernel
theorem dX2_put_17 : decode cX2_put 17 = .ok (.iconst 0, 1) := by decide +kernel
theorem dX2_put_18 : decode cX2_put 18 = .ok (.ireturn, 1) := by decide +kernel
theorem dX2_put_19 : decode cX2_put 19 = .ok (.aload_n 0, 1) := by decide +kernel
theorem dX2_put_20 : decode cX2_put 20 = .ok (.getfield 11, 3) := by decide +kernel
theorem dX2_put_23 : decode cX2_put 23 = .ok (.aload_n 0, 1) := by decide +kernel
theorem dX2_put_24 : decode cX2_put 24 = .ok (.getfield 15, 3) := by decide +kernel
theorem dX2_put_27 : decode cX2_put 27 = .ok (.iload_n 1, 1) := by decide +kernel
theorem dX2_put_28 : decode cX2_put 28 = .ok (.iastore, 1) := by decide +kernel
theorem dX2_put_29 : decode cX2_put 29 = .ok (.aload_n 0, 1) := by decide +kernel
theorem dX2_put_30 : decode cX2_put 30 = .ok (.dup, 1) := by decide +kernel
theorem dX2_put_31 : decode cX2_put 31 = .ok (.getfield 15, 3) := by decide +kernel
theorem dX2_put_34 : decode cX2_put 34 = .ok (.iconst 1, 1) := by decide +kernel
theorem dX2_put_35 : decode cX2_put 35 = .ok (.iadd, 1) := by decide +kernel
theorem dX2_put_36 : decode cX2_put 36 = .ok (.putfield 15, 3) := by decide +kernel
theorem dX2_put_39 : decode cX2_put 39 = .ok (.iconst 1, 1) := by decide +kernel
theorem dX2_put_40 : decode cX2_put 40 = .ok (.ireturn, 1) := by decide +kernel
theorem dX2_lay_0 : decode cX2_lay 0 = .ok (.iconst 0, 1) := by decide +kernel
theorem dX2_lay_1 : decode cX2_lay 1 = .ok (.istore_n 2, 1) := by decide +kernel
theorem dX2_lay_2 : decode cX2_lay 2 = .ok (.iload_n 2, 1) := by decide +kernel
theorem dX2_lay_3 : decode cX2_lay 3 = .ok (.aload_n 1, 1) := by decide +kernel
theorem dX2_lay_4 : decode cX2_lay 4 = .ok (.invokevirtual 19, 3) := by decide +kernel
theorem dX2_lay_7 : decode cX2_lay 7 = .ok (.if_icmp .ge 19, 3) := by decide +kernel
theorem dX2_lay_10 : decode cX2_lay 10 = .ok (.aload_n 0, 1) := by decide +kernel
theorem dX2_lay_11 : decode cX2_lay 11 = .ok (.aload_n 1, 1) := by decide +kernel
theorem dX2_lay_12 : decode cX2_lay 12 = .ok (.iload_n 2, 1) := by decide +kernel
theorem dX2_lay_13 : decode cX2_lay 13 = .ok (.invokevirtual 25, 3) := by decide +kernel
theorem dX2_lay_16 : decode cX2_lay 16 = .ok (.invokevirtual 29, 3) := by decide +kernel
theorem dX2_lay_19 : decode cX2_lay 19 = .ok (.pop, 1) := by decide +kernel
theorem dX2_lay_20 : decode cX2_lay 20 = .ok (.iinc 2 1, 3) := by decide +kernel
theorem dX2_lay_23 : decode cX2_lay 23 = .ok (.goto (-21), 3) := by decide +kernel
theorem dX2_lay_26 : decode cX2_lay 26 = .ok (.return_, 1) := by decide +kernel
theorem dX2_readText_0 : decode cX2_readText 0 = .ok (.aload_n 0, 1) := by decide +kernel
theorem dX2_readText_1 : decode cX2_readText 1 = .ok (.aload_n 1, 1) := by decide +kernel
theorem dX2_readText_2 : decode cX2_readText 2 = .ok (.putfield 33, 3) := by decide +kernel
theorem dX2_readText_5 : decode cX2_readText 5 = .ok (.aload_n 0, 1) := by decide +kernel
theorem dX2_readText_6 : decode cX2_readText 6 = .ok (.getfield 33, 3) := by decide +kernel
theorem dX2_readText_9 : decode cX2_readText 9 = .ok (.invokevirtual 37, 3) := by decide +kernel
theorem dX2_readText_12 : decode cX2_readText 12 = .ok (.aload_n 0, 1) := by decide +kernel
theorem dX2_readText_13 : decode cX2_readText 13 = .ok (.iconst 0, 1) := by decide +kernel
theorem dX2_readText_14 : decode cX2_readText 14 = .ok (.putfield 42, 3) := by decide +kernel
theorem dX2_readText_17 : decode cX2_readText 17 = .ok (.aload_n 0, 1) := by decide +kernel
theorem dX2_readText_18 : decode cX2_readText 18 = .ok (.iconst 0, 1) := by decide +kernel
theorem dX2_readText_19 : decode cX2_readText 19 = .ok (.putfield 45, 3) := by decide +kernel
theorem dX2_readText_22 : decode cX2_readText 22 = .ok (.aload_n 0, 1) := by decide +kernel
theorem dX2_readText_23 : decode cX2_readText 23 = .ok (.iconst (-1), 1) := by decide +kernel
theorem dX2_readText_24 : decode cX2_readText 24 = .ok (.putfield 48, 3) := by decide +kernel
theorem dX2_readText_27 : decode cX2_readText 27 = .ok (.aload_n 0, 1) := by decide +kernel
theorem dX2_readText_28 : decode cX2_readText 28 = .ok (.invokevirtual 51, 3) := by decide +kernel
theorem dX2_readText_31 : decode cX2_readText 31 = .ok (.iconst 0, 1) := by decide +kernel
theorem dX2_readText_32 : decode cX2_readText 32 = .ok (.istore_n 2, 1) := by decide +kernel
theorem dX2_readText_33 : decode cX2_readText 33 = .ok (.iload_n 2, 1) := by decide +kernel
theorem dX2_readText_34 : decode cX2_readText 34 = .ok (.iconst 3, 1) := by decide +kernel
theorem dX2_readText_35 : decode cX2_readText 35 = .ok (.if_icmp .ge 36, 3) := by decide +kernel
theorem dX2_readText_38 : decode cX2_readText 38 = .ok (.aload_n 0, 1) := by decide +kernel
theorem dX2_readText_39 : decode cX2_readText 39 = .ok (.sipush 256, 3) := by decide +kernel
theorem dX2_readText_42 : decode cX2_readText 42 = .ok (.iload_n 2, 1) := by decide +kernel
theorem dX2_readText_43 : decode cX2_readText 43 = .ok (.iadd, 1) := by decide +kernel
theorem dX2_readText_44 : decode cX2_readText 44 = .ok (.invokevirtual 54, 3) := by decide +kernel
theorem dX2_readText_47 : decode cX2_readText 47 = .ok (.aload_n 0, 1) := by decide +kernel
theorem dX2_readText_48 : decode cX2_readText 48 = .ok (.invokevirtual 58, 3) := by decide +kernel
theorem dX2_readText_51 : decode cX2_readText 51 = .ok (.aload_n 0, 1) := by decide +kernel
theorem dX2_readText_52 : decode cX2_readText 52 = .ok (.bipush 59, 2) := by decide +kernel
theorem dX2_readText_54 : decode cX2_readText 54 = .ok (.invokevirtual 54, 3) := by decide +kernel
theorem dX2_readText_57 : decode cX2_readText 57 = .ok (.aload_n 0, 1) := by decide +kernel
theorem dX2_readText_58 : decode cX2_readText 58 = .ok (.getfield 33, 3) := by decide +kernel
theorem dX2_readText_61 : decode cX2_readText 61 = .ok (.iload_n 2, 1) := by decide +kernel
theorem dX2_readText_62 : decode cX2_readText 62 = .ok (.invokevirtual 61, 3) := by decide +kernel
theorem dX2_readText_65 : decode cX2_readText 65 = .ok (.iinc 2 1, 3) := by decide +kernel
theorem dX2_readText_68 : decode cX2_readText 68 = .ok (.goto (-35), 3) := by decide +kernel
theorem dX2_readText_71 : decode cX2_readText 71 = .ok (.aload_n 0, 1) := by decide +kernel
theorem dX2_readText_72 : decode cX2_readText 72 = .ok (.iconst 0, 1) := by decide +kernel
theorem dX2_readText_73 : decode cX2_readText 73 = .ok (.invokevirtual 54, 3) := by decide +kernel
theorem dX2_readText_76 : decode cX2_readText 76 = .ok (.aload_n 0, 1) := by decide +kernel
theorem dX2_readText_77 : decode cX2_readText 77 = .ok (.iconst 0, 1) := by decide +kernel
theorem dX2_readText_78 : decode cX2_readText 78 = .ok (.putfield 15, 3) := by decide +kernel
theorem dX2_readText_81 : decode cX2_readText 81 = .ok (.aload_n 0, 1) := by decide +kernel
theorem dX2_readText_82 : decode cX2_readText 82 = .ok (.getfield 48, 3) := by decide +kernel
theorem dX2_readText_85 : decode cX2_readText 85 = .ok (.ireturn, 1) := by decide +kernel
theorem dX2_fail_0 : decode cX2_fail 0 = .ok (.aload_n 0, 1) := by decide +kernel
theorem dX2_fail_1 : decode cX2_fail 1 = .ok (.getfield 48, 3) := by decide +kernel
theorem dX2_fail_4 : decode cX2_fail 4 = .ok (.iconst (-1), 1) := by decide +kernel
theorem dX2_fail_5 : decode cX2_fail 5 = .ok (.if_icmp .ne 11, 3) := by decide +kernel
theorem dX2_fail_8 : decode cX2_fail 8 = .ok (.aload_n 0, 1) := by decide +kernel
theorem dX2_fail_9 : decode cX2_fail 9 = .ok (.aload_n 0, 1) := by decide +kernel
theorem dX2_fail_10 : decode cX2_fail 10 = .ok (.getfield 64, 3) := by decide +kernel
theorem dX2_fail_13 : decode cX2_fail 13 = .ok (.putfield 48, 3) := by decide +kernel
theorem dX2_fail_16 : decode cX2_fail 16 = .ok (.aload_n 0, 1) := by decide +kernel
theorem dX2_fail_17 : decode cX2_fail 17 = .ok (.iconst 1, 1) := by decide +kernel
theorem dX2_fail_18 : decode cX2_fail 18 = .ok (.putfield 67, 3) := by decide +kernel
theorem dX2_fail_21 : decode cX2_fail 21 = .ok (.return_, 1) := by decide +kernel
theorem dX2_want_0 : decode cX2_want 0 = .ok (.aload_n 0, 1) := by decide +kernel
theorem dX2_want_1 : decode cX2_want 1 = .ok (.getfield 67, 3) := by decide +kernel
theorem dX2_want_4 : decode cX2_want 4 = .ok (.iload_n 1, 1) := by decide +kernel
theorem dX2_want_5 : decode cX2_want 5 = .ok (.if_icmp .ne 10, 3) := by decide +kernel
theorem dX2_want_8 : decode cX2_want 8 = .ok (.aload_n 0, 1) := by decide +kernel
theorem dX2_want_9 : decode cX2_want 9 = .ok (.invokevirtual 51, 3) := by decide +kernel
theorem dX2_want_12 : decode cX2_want 12 = .ok (.goto 7, 3) := by decide +kernel
theorem dX2_want_15 : decode cX2_want 15 = .ok (.aload_n 0, 1) := by decide +kernel
theorem dX2_want_16 : decode cX2_want 16 = .ok (.invokevirtual 70, 3) := by decide +kernel
theorem dX2_want_19 : decode cX2_want 19 = .ok (.return_, 1) := by decide +kernel
theorem dX2_opens_0 : decode cX2_opens 0 = .ok (.aload_n 0, 1) := by decide +kernel
theorem dX2_opens_1 : decode cX2_opens 1 = .ok (.getfield 45, 3) := by decide +kernel
theorem dX2_opens_4 : decode cX2_opens 4 = .ok (.iconst 5, 1) := by decide +kernel
theorem dX2_opens_5 : decode cX2_opens 5 = .ok (.if_icmp .lt 9, 3) := by decide +kernel
theorem dX2_opens_8 : decode cX2_opens 8 = .ok (.aload_n 0, 1) := by decide +kernel
theorem dX2_opens_9 : decode cX2_opens 9 = .ok (.invokevirtual 70, 3) := by decide +kernel
theorem dX2_opens_12 : decode cX2_opens 12 = .ok (.iconst 0, 1) := by decide +kernel
theorem dX2_opens_13 : decode cX2_opens 13 = .ok (.ireturn, 1) := by decide +kernel
theorem dX2_opens_14 : decode cX2_opens 14 = .ok (.aload_n 0, 1) := by decide +kernel
theorem dX2_opens_15 : decode cX2_opens 15 = .ok (.dup, 1) := by decide +kernel
theorem dX2_opens_16 : decode cX2_opens 16 = .ok (.getfield 45, 3) := by decide +kernel
theorem dX2_opens_19 : decode cX2_opens 19 = .ok (.iconst 1, 1) := by decide +kernel
theorem dX2_opens_20 : decode cX2_opens 20 = .ok (.iadd, 1) := by decide +kernel
theorem dX2_opens_21 : decode cX2_opens 21 = .ok (.putfield 45, 3) := by decide +kernel
theorem dX2_opens_24 : decode cX2_opens 24 = .ok (.iconst 1, 1) := by decide +kernel
theorem dX2_opens_25 : decode cX2_opens 25 = .ok (.ireturn, 1) := by decide +kernel
theorem dX2_readOr_0 : decode cX2_readOr 0 = .ok (.aload_n 0, 1) := by decide +kernel
theorem dX2_readOr_1 : decode cX2_readOr 1 = .ok (.invokevirtual 73, 3) := by decide +kernel
theorem dX2_readOr_4 : decode cX2_readOr 4 = .ok (.iconst 0, 1) := by decide +kernel
theorem dX2_readOr_5 : decode cX2_readOr 5 = .ok (.istore_n 1, 1) := by decide +kernel
theorem dX2_readOr_6 : decode cX2_readOr 6 = .ok (.iload_n 1, 1) := by decide +kernel
theorem dX2_readOr_7 : decode cX2_readOr 7 = .ok (.sipush 160, 3) := by decide +kernel
theorem dX2_readOr_10 : decode cX2_readOr 10 = .ok (.if_icmp .ge 36, 3) := by decide +kernel
theorem dX2_readOr_13 : decode cX2_readOr 13 = .ok (.aload_n 0, 1) := by decide +kernel
theorem dX2_readOr_14 : decode cX2_readOr 14 = .ok (.getfield 67, 3) := by decide +kernel
theorem dX2_readOr_17 : decode cX2_readOr 17 = .ok (.sipush 259, 3) := by decide +kernel
theorem dX2_readOr_20 : decode cX2_readOr 20 = .ok (.if_icmp .ne 26, 3) := by decide +kernel
theorem dX2_readOr_23 : decode cX2_readOr 23 = .ok (.aload_n 0, 1) := by decide +kernel
theorem dX2_readOr_24 : decode cX2_readOr 24 = .ok (.invokevirtual 51, 3) := by decide +kernel
theorem dX2_readOr_27 : decode cX2_readOr 27 = .ok (.aload_n 0, 1) := by decide +kernel
theorem dX2_readOr_28 : decode cX2_readOr 28 = .ok (.invokevirtual 73, 3) := by decide +kernel
theorem dX2_readOr_31 : decode cX2_readOr 31 = .ok (.aload_n 0, 1) := by decide +kernel
theorem dX2_readOr_32 : decode cX2_readOr 32 = .ok (.getfield 33, 3) := by decide +kernel
theorem dX2_readOr_35 : decode cX2_readOr 35 = .ok (.bipush (-7), 2) := by decide +kernel
theorem dX2_readOr_37 : decode cX2_readOr 37 = .ok (.invokevirtual 76, 3) := by decide +kernel
theorem dX2_readOr_40 : decode cX2_readOr 40 = .ok (.iinc 1 1, 3) := by decide +kernel
theorem dX2_readOr_43 : decode cX2_readOr 43 = .ok (.goto (-37), 3) := by decide +kernel
theorem dX2_readOr_46 : decode cX2_readOr 46 = .ok (.return_, 1) := by decide +kernel
theorem dX2_readAnd_0 : decode cX2_readAnd 0 = .ok (.aload_n 0, 1) := by decide +kernel
theorem dX2_readAnd_1 : decode cX2_readAnd 1 = .ok (.invokevirtual 79, 3) := by decide +kernel
theorem dX2_readAnd_4 : decode cX2_readAnd 4 = .ok (.iconst 0, 1) := by decide +kernel
theorem dX2_readAnd_5 : decode cX2_readAnd 5 = .ok (.istore_n 1, 1) := by decide +kernel
theorem dX2_readAnd_6 : decode cX2_readAnd 6 = .ok (.iload_n 1, 1) := by decide +kernel
theorem dX2_readAnd_7 : decode cX2_readAnd 7 = .ok (.sipush 160, 3) := by decide +kernel
theorem dX2_readAnd_10 : decode cX2_readAnd 10 = .ok (.if_icmp .ge 36, 3) := by decide +kernel
theorem dX2_readAnd_13 : decode cX2_readAnd 13 = .ok (.aload_n 0, 1) := by decide +kernel
theorem dX2_readAnd_14 : decode cX2_readAnd 14 = .ok (.getfield 67, 3) := by decide +kernel
theorem dX2_readAnd_17 : decode cX2_readAnd 17 = .ok (.sipush 260, 3) := by decide +kernel
theorem dX2_readAnd_20 : decode cX2_readAnd 20 = .ok (.if_icmp .ne 26, 3) := by decide +kernel
theorem dX2_readAnd_23 : decode cX2_readAnd 23 = .ok (.aload_n 0, 1) := by decide +kernel
theorem dX2_readAnd_24 : decode cX2_readAnd 24 = .ok (.invokevirtual 51, 3) := by decide +kernel
theorem dX2_readAnd_27 : decode cX2_readAnd 27 = .ok (.aload_n 0, 1) := by decide +kernel
theorem dX2_readAnd_28 : decode cX2_readAnd 28 = .ok (.invokevirtual 79, 3) := by decide +kernel
theorem dX2_readAnd_31 : decode cX2_readAnd 31 = .ok (.aload_n 0, 1) := by decide +kernel
theorem dX2_readAnd_32 : decode cX2_readAnd 32 = .ok (.getfield 33, 3) := by decide +kernel
theorem dX2_readAnd_35 : decode cX2_readAnd 35 = .ok (.bipush (-8), 2) := by decide +kernel
theorem dX2_readAnd_37 : decode cX2_readAnd 37 = .ok (.invokevirtual 76, 3) := by decide +kernel
theorem dX2_readAnd_40 : decode cX2_readAnd 40 = .ok (.iinc 1 1, 3) := by decide +kernel
theorem dX2_readAnd_43 : decode cX2_readAnd 43 = .ok (.goto (-37), 3) := by decide +kernel
theorem dX2_readAnd_46 : decode cX2_readAnd 46 = .ok (.return_, 1) := by decide +kernel
theorem dX2_readNot_0 : decode cX2_readNot 0 = .ok (.aload_n 0, 1) := by decide +kernel
theorem dX2_readNot_1 : decode cX2_readNot 1 = .ok (.getfield 67, 3) := by decide +kernel
theorem dX2_readNot_4 : decode cX2_readNot 4 = .ok (.sipush 261, 3) := by decide +kernel
theorem dX2_readNot_7 : decode cX2_readNot 7 = .ok (.if_icmp .eq 10, 3) := by decide +kernel
theorem dX2_readNot_10 : decode cX2_readNot 10 = .ok (.aload_n 0, 1) := by decide +kernel
theorem dX2_readNot_11 : decode cX2_readNot 11 = .ok (.invokevirtual 82, 3) := by decide +kernel
theorem dX2_readNot_14 : decode cX2_readNot 14 = .ok (.goto 37, 3) := by decide +kernel
theorem dX2_readNot_17 : decode cX2_readNot 17 = .ok (.aload_n 0, 1) := by decide +kernel
theorem dX2_readNot_18 : decode cX2_readNot 18 = .ok (.invokevirtual 85, 3) := by decide +kernel
theorem dX2_readNot_21 : decode cX2_readNot 21 = .ok (.ifCond .eq 30, 3) := by decide +kernel
theorem dX2_readNot_24 : decode cX2_readNot 24 = .ok (.aload_n 0, 1) := by decide +kernel
theorem dX2_readNot_25 : decode cX2_readNot 25 = .ok (.invokevirtual 51, 3) := by decide +kernel
theorem dX2_readNot_28 : decode cX2_readNot 28 = .ok (.aload_n 0, 1) := by decide +kernel
theorem dX2_readNot_29 : decode cX2_readNot 29 = .ok (.invokevirtual 79, 3) := by decide +kernel
theorem dX2_readNot_32 : decode cX2_readNot 32 = .ok (.aload_n 0, 1) := by decide +kernel
theorem dX2_readNot_33 : decode cX2_readNot 33 = .ok (.dup, 1) := by decide +kernel
theorem dX2_readNot_34 : decode cX2_readNot 34 = .ok (.getfield 45, 3) := by decide +kernel
theorem dX2_readNot_37 : decode cX2_readNot 37 = .ok (.iconst 1, 1) := by decide +kernel
theorem dX2_readNot_38 : decode cX2_readNot 38 = .ok (.isub, 1) := by decide +kernel
theorem dX2_readNot_39 : decode cX2_readNot 39 = .ok (.putfield 45, 3) := by decide +kernel
theorem dX2_readNot_42 : decode cX2_readNot 42 = .ok (.aload_n 0, 1) := by decide +kernel
theorem dX2_readNot_43 : decode cX2_readNot 43 = .ok (.getfield 33, 3) := by decide +kernel
theorem dX2_readNot_46 : decode cX2_readNot 46 = .ok (.bipush (-9), 2) := by decide +kernel
theorem dX2_readNot_48 : decode cX2_readNot 48 = .ok (.invokevirtual 76, 3) := by decide +kernel
theorem dX2_readNot_51 : decode cX2_readNot 51 = .ok (.return_, 1) := by decide +kernel
theorem dX2_readCompared_0 : decode cX2_readCompared 0 = .ok (.aload_n 0, 1) := by decide +kernel
theorem dX2_readCompared_1 : decode cX2_readCompared 1 = .ok (.invokevirtual 89, 3) := by decide +kernel
theorem dX2_readCompared_4 : decode cX2_readCompared 4 = .ok (.aload_n 0, 1) := by decide +kernel
theorem dX2_readCompared_5 : decode cX2_readCompared 5 = .ok (.getfield 67, 3) := by decide +kernel
theorem dX2_readCompared_8 : decode cX2_readCompared 8 = .ok (.bipush 60, 2) := by decide +kernel
theorem dX2_readCompared_10 : decode cX2_readCompared 10 = .ok (.if_icmp .eq 12, 3) := by decide +kernel
theorem dX2_readCompared_13 : decode cX2_readCompared 13 = .ok (.aload_n 0, 1) := by decide +kernel
theorem dX2_readCompared_14 : decode cX2_readCompared 14 = .ok (.getfield 67, 3) := by decide +kernel
theorem dX2_readCompared_17 : decode cX2_readCompared 17 = .ok (.bipush 61, 2) := by decide +kernel
theorem dX2_readCompared_19 : decode cX2_readCompared 19 = .ok (.if_icmp .ne 36, 3) := by decide +kernel
theorem dX2_readCompared_22 : decode cX2_readCompared 22 = .ok (.aload_n 0, 1) := by decide +kernel
theorem dX2_readCompared_23 : decode cX2_readCompared 23 = .ok (.getfield 67, 3) := by decide +kernel
theorem dX2_readCompared_26 : decode cX2_readCompared 26 = .ok (.bipush 60, 2) := by decide +kernel
theorem dX2_readCompared_28 : decode cX2_readCompared 28 = .ok (.if_icmp .ne 8, 3) := by decide +kernel
theorem dX2_readCompared_31 : decode cX2_readCompared 31 = .ok (.bipush (-10), 2) := by decide +kernel
theorem dX2_readCompared_33 : decode cX2_readCompared 33 = .ok (.goto 5, 3) := by decide +kernel
theorem dX2_readCompared_36 : decode cX2_readCompared 36 = .ok (.bipush (-11), 2) := by decide +kernel
theorem dX2_readCompared_38 : decode cX2_readCompared 38 = .ok (.istore_n 1, 1) := by decide +kernel
theorem dX2_readCompared_39 : decode cX2_readCompared 39 = .ok (.aload_n 0, 1) := by decide +kernel
theorem dX2_readCompared_40 : decode cX2_readCompared 40 = .ok (.invokevirtual 51, 3) := by decide +kernel
theorem dX2_readCompared_43 : decode cX2_readCompared 43 = .ok (.aload_n 0, 1) := by decide +kernel
theorem dX2_readCompared_44 : decode cX2_readCompared 44 = .ok (.invokevirtual 89, 3) := by decide +kernel
theorem dX2_readCompared_47 : decode cX2_readCompared 47 = .ok (.aload_n 0, 1) := by decide +kernel
theorem dX2_readCompared_48 : decode cX2_readCompared 48 = .ok (.getfield 33, 3) := by decide +kernel
theorem dX2_readCompared_51 : decode cX2_readCompared 51 = .ok (.iload_n 1, 1) := by decide +kernel
theorem dX2_readCompared_52 : decode cX2_readCompared 52 = .ok (.invokevirtual 76, 3) := by decide +kernel
theorem dX2_readCompared_55 : decode cX2_readCompared 55 = .ok (.return_, 1) := by decide +kernel
theorem dX2_readSum_0 : decode cX2_readSum 0 = .ok (.aload_n 0, 1) := by decide +kernel
theorem dX2_readSum_1 : decode cX2_readSum 1 = .ok (.invokevirtual 92, 3) := by decide +kernel
theorem dX2_readSum_4 : decode cX2_readSum 4 = .ok (.iconst 0, 1) := by decide +kernel
theorem dX2_readSum_5 : decode cX2_readSum 5 = .ok (.istore_n 1, 1) := by decide +kernel
theorem dX2_readSum_6 : decode cX2_readSum 6 = .ok (.iload_n 1, 1) := by decide +kernel
theorem dX2_readSum_7 : decode cX2_readSum 7 = .ok (.sipush 160, 3) := by decide +kernel
theorem dX2_readSum_10 : decode cX2_readSum 10 = .ok (.if_icmp .ge 60, 3) := by decide +kernel
theorem dX2_readSum_13 : decode cX2_readSum 13 = .ok (.aload_n 0, 1) := by decide +kernel
theorem dX2_readSum_14 : decode cX2_readSum 14 = .ok (.getfield 67, 3) := by decide +kernel
theorem dX2_readSum_17 : decode cX2_readSum 17 = .ok (.bipush 43, 2) := by decide +kernel
theorem dX2_readSum_19 : decode cX2_readSum 19 = .ok (.if_icmp .eq 12, 3) := by decide +kernel
theorem dX2_readSum_22 : decode cX2_readSum 22 = .ok (.aload_n 0, 1) := by decide +kernel
theorem dX2_readSum_23 : decode cX2_readSum 23 = .ok (.getfield 67, 3) := by decide +kernel
theorem dX2_readSum_26 : decode cX2_readSum 26 = .ok (.bipush 45, 2) := by decide +kernel
theorem dX2_readSum_28 : decode cX2_readSum 28 = .ok (.if_icmp .ne 42, 3) := by decide +kernel
theorem dX2_readSum_31 : decode cX2_readSum 31 = .ok (.aload_n 0, 1) := by decide +kernel
theorem dX2_readSum_32 : decode cX2_readSum 32 = .ok (.getfield 67, 3) := by decide +kernel
theorem dX2_readSum_35 : decode cX2_readSum 35 = .ok (.bipush 43, 2) := by decide +kernel
theorem dX2_readSum_37 : decode cX2_readSum 37 = .ok (.if_icmp .ne 8, 3) := by decide +kernel
theorem dX2_readSum_40 : decode cX2_readSum 40 = .ok (.bipush (-12), 2) := by decide +kernel
theorem dX2_readSum_42 : decode cX2_readSum 42 = .ok (.goto 5, 3) := by decide +kernel
theorem dX2_readSum_45 : decode cX2_readSum 45 = .ok (.bipush (-13), 2) := by decide +kernel
theorem dX2_readSum_47 : decode cX2_readSum 47 = .ok (.istore_n 2, 1) := by decide +kernel
theorem dX2_readSum_48 : decode cX2_readSum 48 = .ok (.aload_n 0, 1) := by decide +kernel
theorem dX2_readSum_49 : decode cX2_readSum 49 = .ok (.invokevirtual 51, 3) := by decide +kernel
theorem dX2_readSum_52 : decode cX2_readSum 52 = .ok (.aload_n 0, 1) := by decide +kernel
theorem dX2_readSum_53 : decode cX2_readSum 53 = .ok (.invokevirtual 92, 3) := by decide +kernel
theorem dX2_readSum_56 : decode cX2_readSum 56 = .ok (.aload_n 0, 1) := by decide +kernel
theorem dX2_readSum_57 : decode cX2_readSum 57 = .ok (.getfield 33, 3) := by decide +kernel
theorem dX2_readSum_60 : decode cX2_readSum 60 = .ok (.iload_n 2, 1) := by decide +kernel
theorem dX2_readSum_61 : decode cX2_readSum 61 = .ok (.invokevirtual 76, 3) := by decide +kernel
theorem dX2_readSum_64 : decode cX2_readSum 64 = .ok (.iinc 1 1, 3) := by decide +kernel
theorem dX2_readSum_67 : decode cX2_readSum 67 = .ok (.goto (-61), 3) := by decide +kernel
theorem dX2_readSum_70 : decode cX2_readSum 70 = .ok (.return_, 1) := by decide +kernel
theorem dX2_readTerm_0 : decode cX2_readTerm 0 = .ok (.aload_n 0, 1) := by decide +kernel
theorem dX2_readTerm_1 : decode cX2_readTerm 1 = .ok (.invokevirtual 95, 3) := by decide +kernel
theorem dX2_readTerm_4 : decode cX2_readTerm 4 = .ok (.iconst 0, 1) := by decide +kernel
theorem dX2_readTerm_5 : decode cX2_readTerm 5 = .ok (.istore_n 1, 1) := by decide +kernel
theorem dX2_readTerm_6 : decode cX2_readTerm 6 = .ok (.iload_n 1, 1) := by decide +kernel
theorem dX2_readTerm_7 : decode cX2_readTerm 7 = .ok (.sipush 160, 3) := by decide +kernel
theorem dX2_readTerm_10 : decode cX2_readTerm 10 = .ok (.if_icmp .ge 35, 3) := by decide +kernel
theorem dX2_readTerm_13 : decode cX2_readTerm 13 = .ok (.aload_n 0, 1) := by decide +kernel
theorem dX2_readTerm_14 : decode cX2_readTerm 14 = .ok (.getfield 67, 3) := by decide +kernel
theorem dX2_readTerm_17 : decode cX2_readTerm 17 = .ok (.bipush 42, 2) := by decide +kernel
theorem dX2_readTerm_19 : decode cX2_readTerm 19 = .ok (.if_icmp .ne 26, 3) := by decide +kernel
theorem dX2_readTerm_22 : decode cX2_readTerm 22 = .ok (.aload_n 0, 1) := by decide +kernel
theorem dX2_readTerm_23 : decode cX2_readTerm 23 = .ok (.invokevirtual 51, 3) := by decide +kernel
theorem dX2_readTerm_26 : decode cX2_readTerm 26 = .ok (.aload_n 0, 1) := by decide +kernel
theorem dX2_readTerm_27 : decode cX2_readTerm 27 = .ok (.invokevirtual 95, 3) := by decide +kernel
theorem dX2_readTerm_30 : decode cX2_readTerm 30 = .ok (.aload_n 0, 1) := by decide +kernel
theorem dX2_readTerm_31 : decode cX2_readTerm 31 = .ok (.getfield 33, 3) := by decide +kernel
theorem dX2_readTerm_34 : decode cX2_readTerm 34 = .ok (.bipush (-14), 2) := by decide +kernel
theorem dX2_readTerm_36 : decode cX2_readTerm 36 = .ok (.invokevirtual 76, 3) := by decide +kernel
theorem dX2_readTerm_39 : decode cX2_readTerm 39 = .ok (.iinc 1 1, 3) := by decide +kernel
theorem dX2_readTerm_42 : decode cX2_readTerm 42 = .ok (.goto (-36), 3) := by decide +kernel
theorem dX2_readTerm_45 : decode cX2_readTerm 45 = .ok (.return_, 1) := by decide +kernel
theorem dX2_readOne_0 : decode cX2_readOne 0 = .ok (.aload_n 0, 1) := by decide +kernel
theorem dX2_readOne_1 : decode cX2_readOne 1 = .ok (.getfield 67, 3) := by decide +kernel
theorem dX2_readOne_4 : decode cX2_readOne 4 = .ok (.iconst 2, 1) := by decide +kernel
theorem dX2_readOne_5 : decode cX2_readOne 5 = .ok (.if_icmp .ne 21, 3) := by decide +kernel
theorem dX2_readOne_8 : decode cX2_readOne 8 = .ok (.aload_n 0, 1) := by decide +kernel
theorem dX2_readOne_9 : decode cX2_readOne 9 = .ok (.getfield 33, 3) := by decide +kernel
theorem dX2_readOne_12 : decode cX2_readOne 12 = .ok (.aload_n 0, 1) := by decide +kernel
theorem dX2_readOne_13 : decode cX2_readOne 13 = .ok (.getfield 98, 3) := by decide +kernel
theorem dX2_readOne_16 : decode cX2_readOne 16 = .ok (.invokevirtual 76, 3) := by decide +kernel
theorem dX2_readOne_19 : decode cX2_readOne 19 = .ok (.aload_n 0, 1) := by decide +kernel
theorem dX2_readOne_20 : decode cX2_readOne 20 = .ok (.invokevirtual 51, 3) := by decide +kernel
theorem dX2_readOne_23 : decode cX2_readOne 23 = .ok (.goto 140, 3) := by decide +kernel
theorem dX2_readOne_26 : decode cX2_readOne 26 = .ok (.aload_n 0, 1) := by decide +kernel
theorem dX2_readOne_27 : decode cX2_readOne 27 = .ok (.getfield 67, 3) := by decide +kernel
theorem dX2_readOne_30 : decode cX2_readOne 30 = .ok (.sipush 262, 3) := by decide +kernel
theorem dX2_readOne_33 : decode cX2_readOne 33 = .ok (.if_icmp .lt 37, 3) := by decide +kernel
theorem dX2_readOne_36 : decode cX2_readOne 36 = .ok (.aload_n 0, 1) := by decide +kernel
theorem dX2_readOne_37 : decode cX2_readOne 37 = .ok (.getfield 67, 3) := by decide +kernel
theorem dX2_readOne_40 : decode cX2_readOne 40 = .ok (.sipush 268, 3) := by decide +kernel
theorem dX2_readOne_43 : decode cX2_readOne 43 = .ok (.if_icmp .ge 27, 3) := by decide +kernel
theorem dX2_readOne_46 : decode cX2_readOne 46 = .ok (.aload_n 0, 1) := by decide +kernel
theorem dX2_readOne_47 : decode cX2_readOne 47 = .ok (.getfield 33, 3) := by decide +kernel
theorem dX2_readOne_50 : decode cX2_readOne 50 = .ok (.iconst (-1), 1) := by decide +kernel
theorem dX2_readOne_51 : decode cX2_readOne 51 = .ok (.aload_n 0, 1) := by decide +kernel
theorem dX2_readOne_52 : decode cX2_readOne 52 = .ok (.getfield 67, 3) := by decide +kernel
theorem dX2_readOne_55 : decode cX2_readOne 55 = .ok (.sipush 262, 3) := by decide +kernel
theorem dX2_readOne_58 : decode cX2_readOne 58 = .ok (.isub, 1) := by decide +kernel
theorem dX2_readOne_59 : decode cX2_readOne 59 = .ok (.isub, 1) := by decide +kernel
theorem dX2_readOne_60 : decode cX2_readOne 60 = .ok (.invokevirtual 76, 3) := by decide +kernel
theorem dX2_readOne_63 : decode cX2_readOne 63 = .ok (.aload_n 0, 1) := by decide +kernel
theorem dX2_readOne_64 : decode cX2_readOne 64 = .ok (.invokevirtual 51, 3) := by decide +kernel
theorem dX2_readOne_67 : decode cX2_readOne 67 = .ok (.goto 96, 3) := by decide +kernel
theorem dX2_readOne_70 : decode cX2_readOne 70 = .ok (.aload_n 0, 1) := by decide +kernel
theorem dX2_readOne_71 : decode cX2_readOne 71 = .ok (.getfield 67, 3) := by decide +kernel
theorem dX2_readOne_74 : decode cX2_readOne 74 = .ok (.bipush 45, 2) := by decide +kernel
theorem dX2_readOne_76 : decode cX2_readOne 76 = .ok (.if_icmp .ne 40, 3) := by decide +kernel
theorem dX2_readOne_79 : decode cX2_readOne 79 = .ok (.aload_n 0, 1) := by decide +kernel
theorem dX2_readOne_80 : decode cX2_readOne 80 = .ok (.invokevirtual 85, 3) := by decide +kernel
theorem dX2_readOne_83 : decode cX2_readOne 83 = .ok (.ifCond .eq 33, 3) := by decide +kernel
theorem dX2_readOne_86 : decode cX2_readOne 86 = .ok (.aload_n 0, 1) := by decide +kernel
theorem dX2_readOne_87 : decode cX2_readOne 87 = .ok (.invokevirtual 51, 3) := by decide +kernel
theorem dX2_readOne_90 : decode cX2_readOne 90 = .ok (.aload_n 0, 1) := by decide +kernel
theorem dX2_readOne_91 : decode cX2_readOne 91 = .ok (.invokevirtual 95, 3) := by decide +kernel
theorem dX2_readOne_94 : decode cX2_readOne 94 = .ok (.aload_n 0, 1) := by decide +kernel
theorem dX2_readOne_95 : decode cX2_readOne 95 = .ok (.dup, 1) := by decide +kernel
theorem dX2_readOne_96 : decode cX2_readOne 96 = .ok (.getfield 45, 3) := by decide +kernel
theorem dX2_readOne_99 : decode cX2_readOne 99 = .ok (.iconst 1, 1) := by decide +kernel
theorem dX2_readOne_100 : decode cX2_readOne 100 = .ok (.isub, 1) := by decide +kernel
theorem dX2_readOne_101 : decode cX2_readOne 101 = .ok (.putfield 45, 3) := by decide +kernel
theorem dX2_readOne_104 : decode cX2_readOne 104 = .ok (.aload_n 0, 1) := by decide +kernel
theorem dX2_readOne_105 : decode cX2_readOne 105 = .ok (.getfield 33, 3) := by decide +kernel
theorem dX2_readOne_108 : decode cX2_readOne 108 = .ok (.bipush (-15), 2) := by decide +kernel
theorem dX2_readOne_110 : decode cX2_readOne 110 = .ok (.invokevirtual 76, 3) := by decide +kernel
theorem dX2_readOne_113 : decode cX2_readOne 113 = .ok (.goto 50, 3) := by decide +kernel
theorem dX2_readOne_116 : decode cX2_readOne 116 = .ok (.aload_n 0, 1) := by decide +kernel
theorem dX2_readOne_117 : decode cX2_readOne 117 = .ok (.getfield 67, 3) := by decide +kernel
theorem dX2_readOne_120 : decode cX2_readOne 120 = .ok (.bipush 40, 2) := by decide +kernel
theorem dX2_readOne_122 : decode cX2_readOne 122 = .ok (.if_icmp .ne 37, 3) := by decide +kernel
theorem dX2_readOne_125 : decode cX2_readOne 125 = .ok (.aload_n 0, 1) := by decide +kernel
theorem dX2_readOne_126 : decode cX2_readOne 126 = .ok (.invokevirtual 85, 3) := by decide +kernel
theorem dX2_readOne_129 : decode cX2_readOne 129 = .ok (.ifCond .eq 30, 3) := by decide +kernel
theorem dX2_readOne_132 : decode cX2_readOne 132 = .ok (.aload_n 0, 1) := by decide +kernel
theorem dX2_readOne_133 : decode cX2_readOne 133 = .ok (.invokevirtual 51, 3) := by decide +kernel
theorem dX2_readOne_136 : decode cX2_readOne 136 = .ok (.aload_n 0, 1) := by decide +kernel
theorem dX2_readOne_137 : decode cX2_readOne 137 = .ok (.invokevirtual 58, 3) := by decide +kernel
theorem dX2_readOne_140 : decode cX2_readOne 140 = .ok (.aload_n 0, 1) := by decide +kernel
theorem dX2_readOne_141 : decode cX2_readOne 141 = .ok (.dup, 1) := by decide +kernel
theorem dX2_readOne_142 : decode cX2_readOne 142 = .ok (.getfield 45, 3) := by decide +kernel
theorem dX2_readOne_145 : decode cX2_readOne 145 = .ok (.iconst 1, 1) := by decide +kernel
theorem dX2_readOne_146 : decode cX2_readOne 146 = .ok (.isub, 1) := by decide +kernel
theorem dX2_readOne_147 : decode cX2_readOne 147 = .ok (.putfield 45, 3) := by decide +kernel
theorem dX2_readOne_150 : decode cX2_readOne 150 = .ok (.aload_n 0, 1) := by decide +kernel
theorem dX2_readOne_151 : decode cX2_readOne 151 = .ok (.bipush 41, 2) := by decide +kernel
theorem dX2_readOne_153 : decode cX2_readOne 153 = .ok (.invokevirtual 54, 3) := by decide +kernel
theorem dX2_readOne_156 : decode cX2_readOne 156 = .ok (.goto 7, 3) := by decide +kernel
theorem dX2_readOne_159 : decode cX2_readOne 159 = .ok (.aload_n 0, 1) := by decide +kernel
theorem dX2_readOne_160 : decode cX2_readOne 160 = .ok (.invokevirtual 70, 3) := by decide +kernel
theorem dX2_readOne_163 : decode cX2_readOne 163 = .ok (.return_, 1) := by decide +kernel
theorem dX2_step_0 : decode cX2_step 0 = .ok (.iconst 0, 1) := by decide +kernel
theorem dX2_step_1 : decode cX2_step 1 = .ok (.istore_n 1, 1) := by decide +kernel
theorem dX2_step_2 : decode cX2_step 2 = .ok (.iload_n 1, 1) := by decide +kernel
theorem dX2_step_3 : decode cX2_step 3 = .ok (.sipush 160, 3) := by decide +kernel
theorem dX2_step_6 : decode cX2_step 6 = .ok (.if_icmp .ge 33, 3) := by decide +kernel
theorem dX2_step_9 : decode cX2_step 9 = .ok (.aload_n 0, 1) := by decide +kernel
theorem dX2_step_10 : decode cX2_step 10 = .ok (.aload_n 0, 1) := by decide +kernel
theorem dX2_step_11 : decode cX2_step 11 = .ok (.getfield 42, 3) := by decide +kernel
theorem dX2_step_14 : decode cX2_step 14 = .ok (.invokevirtual 101, 3) := by decide +kernel
theorem dX2_step_17 : decode cX2_step 17 = .ok (.invokestatic 105, 3) := by decide +kernel
theorem dX2_step_20 : decode cX2_step 20 = .ok (.ifCond .eq 19, 3) := by decide +kernel
theorem dX2_step_23 : decode cX2_step 23 = .ok (.aload_n 0, 1) := by decide +kernel
theorem dX2_step_24 : decode cX2_step 24 = .ok (.dup, 1) := by decide +kernel
theorem dX2_step_25 : decode cX2_step 25 = .ok (.getfield 42, 3) := by decide +kernel
theorem dX2_step_28 : decode cX2_step 28 = .ok (.iconst 1, 1) := by decide +kernel
theorem dX2_step_29 : decode cX2_step 29 = .ok (.iadd, 1) := by decide +kernel
theorem dX2_step_30 : decode cX2_step 30 = .ok (.putfield 42, 3) := by decide +kernel
theorem dX2_step_33 : decode cX2_step 33 = .ok (.iinc 1 1, 3) := by decide +kernel
theorem dX2_step_36 : decode cX2_step 36 = .ok (.goto (-34), 3) := by decide +kernel
theorem dX2_step_39 : decode cX2_step 39 = .ok (.aload_n 0, 1) := by decide +kernel
theorem dX2_step_40 : decode cX2_step 40 = .ok (.aload_n 0, 1) := by decide +kernel
theorem dX2_step_41 : decode cX2_step 41 = .ok (.getfield 42, 3) := by decide +kernel
theorem dX2_step_44 : decode cX2_step 44 = .ok (.putfield 64, 3) := by decide +kernel
theorem dX2_step_47 : decode cX2_step 47 = .ok (.aload_n 0, 1) := by decide +kernel
theorem dX2_step_48 : decode cX2_step 48 = .ok (.aload_n 0, 1) := by decide +kernel
theorem dX2_step_49 : decode cX2_step 49 = .ok (.getfield 64, 3) := by decide +kernel
theorem dX2_step_52 : decode cX2_step 52 = .ok (.invokevirtual 101, 3) := by decide +kernel
theorem dX2_step_55 : decode cX2_step 55 = .ok (.istore_n 1, 1) := by decide +kernel
theorem dX2_step_56 : decode cX2_step 56 = .ok (.iload_n 1, 1) := by decide +kernel
theorem dX2_step_57 : decode cX2_step 57 = .ok (.iconst (-1), 1) := by decide +kernel
theorem dX2_step_58 : decode cX2_step 58 = .ok (.if_icmp .ne 11, 3) := by decide +kernel
theorem dX2_step_61 : decode cX2_step 61 = .ok (.aload_n 0, 1) := by decide +kernel
theorem dX2_step_62 : decode cX2_step 62 = .ok (.iconst 0, 1) := by decide +kernel
theorem dX2_step_63 : decode cX2_step 63 = .ok (.putfield 67, 3) := by decide +kernel
theorem dX2_step_66 : decode cX2_step 66 = .ok (.goto 57, 3) := by decide +kernel
theorem dX2_step_69 : decode cX2_step 69 = .ok (.iload_n 1, 1) := by decide +kernel
theorem dX2_step_70 : decode cX2_step 70 = .ok (.invokestatic 108, 3) := by decide +kernel
theorem dX2_step_73 : decode cX2_step 73 = .ok (.ifCond .eq 10, 3) := by decide +kernel
theorem dX2_step_76 : decode cX2_step 76 = .ok (.aload_n 0, 1) := by decide +kernel
theorem dX2_step_77 : decode cX2_step 77 = .ok (.invokevirtual 111, 3) := by decide +kernel
theorem dX2_step_80 : decode cX2_step 80 = .ok (.goto 43, 3) := by decide +kernel
theorem dX2_step_83 : decode cX2_step 83 = .ok (.iload_n 1, 1) := by decide +kernel
theorem dX2_step_84 : decode cX2_step 84 = .ok (.invokestatic 114, 3) := by decide +kernel
theorem dX2_step_87 : decode cX2_step 87 = .ok (.ifCond .eq 10, 3) := by decide +kernel
theorem dX2_step_90 : decode cX2_step 90 = .ok (.aload_n 0, 1) := by decide +kernel
theorem dX2_step_91 : decode cX2_step 91 = .ok (.invokevirtual 117, 3) := by decide +kernel
theorem dX2_step_94 : decode cX2_step 94 = .ok (.goto 29, 3) := by decide +kernel
theorem dX2_step_97 : decode cX2_step 97 = .ok (.aload_n 0, 1) := by decide +kernel
theorem dX2_step_98 : decode cX2_step 98 = .ok (.dup, 1) := by decide +kernel
theorem dX2_step_99 : decode cX2_step 99 = .ok (.getfield 42, 3) := by decide +kernel
theorem dX2_step_102 : decode cX2_step 102 = .ok (.iconst 1, 1) := by decide +kernel
theorem dX2_step_103 : decode cX2_step 103 = .ok (.iadd, 1) := by decide +kernel
theorem dX2_step_104 : decode cX2_step 104 = .ok (.putfield 42, 3) := by decide +kernel
theorem dX2_step_107 : decode cX2_step 107 = .ok (.aload_n 0, 1) := by decide +kernel
theorem dX2_step_108 : decode cX2_step 108 = .ok (.iload_n 1, 1) := by decide +kernel
theorem dX2_step_109 : decode cX2_step 109 = .ok (.invokestatic 120, 3) := by decide +kernel
theorem dX2_step_112 : decode cX2_step 112 = .ok (.ifCond .eq 7, 3) := by decide +kernel
theorem dX2_step_115 : decode cX2_step 115 = .ok (.iload_n 1, 1) := by decide +kernel
theorem dX2_step_116 : decode cX2_step 116 = .ok (.goto 4, 3) := by decide +kernel
theorem dX2_step_119 : decode cX2_step 119 = .ok (.iconst 1, 1) := by decide +kernel
theorem dX2_step_120 : decode cX2_step 120 = .ok (.putfield 67, 3) := by decide +kernel
theorem dX2_step_123 : decode cX2_step 123 = .ok (.return_, 1) := by decide +kernel
theorem dX2_takeWord_0 : decode cX2_takeWord 0 = .ok (.iconst 0, 1) := by decide +kernel
theorem dX2_takeWord_1 : decode cX2_takeWord 1 = .ok (.istore_n 1, 1) := by decide +kernel
theorem dX2_takeWord_2 : decode cX2_takeWord 2 = .ok (.iload_n 1, 1) := by decide +kernel
theorem dX2_takeWord_3 : decode cX2_takeWord 3 = .ok (.sipush 160, 3) := by decide +kernel
theorem dX2_takeWord_6 : decode cX2_takeWord 6 = .ok (.if_icmp .ge 33, 3) := by decide +kernel
theorem dX2_takeWord_9 : decode cX2_takeWord 9 = .ok (.aload_n 0, 1) := by decide +kernel
theorem dX2_takeWord_10 : decode cX2_takeWord 10 = .ok (.aload_n 0, 1) := by decide +kernel
theorem dX2_takeWord_11 : decode cX2_takeWord 11 = .ok (.getfield 42, 3) := by decide +kernel
theorem dX2_takeWord_14 : decode cX2_takeWord 14 = .ok (.invokevirtual 101, 3) := by decide +kernel
theorem dX2_takeWord_17 : decode cX2_takeWord 17 = .ok (.invokestatic 108, 3) := by decide +kernel
theorem dX2_takeWord_20 : decode cX2_takeWord 20 = .ok (.ifCond .eq 19, 3) := by decide +kernel
theorem dX2_takeWord_23 : decode cX2_takeWord 23 = .ok (.aload_n 0, 1) := by decide +kernel
theorem dX2_takeWord_24 : decode cX2_takeWord 24 = .ok (.dup, 1) := by decide +kernel
theorem dX2_takeWord_25 : decode cX2_takeWord 25 = .ok (.getfield 42, 3) := by decide +kernel
theorem dX2_takeWord_28 : decode cX2_takeWord 28 = .ok (.iconst 1, 1) := by decide +kernel
theorem dX2_takeWord_29 : decode cX2_takeWord 29 = .ok (.iadd, 1) := by decide +kernel
theorem dX2_takeWord_30 : decode cX2_takeWord 30 = .ok (.putfield 42, 3) := by decide +kernel
theorem dX2_takeWord_33 : decode cX2_takeWord 33 = .ok (.iinc 1 1, 3) := by decide +kernel
theorem dX2_takeWord_36 : decode cX2_takeWord 36 = .ok (.goto (-34), 3) := by decide +kernel
theorem dX2_takeWord_39 : decode cX2_takeWord 39 = .ok (.aload_n 0, 1) := by decide +kernel
theorem dX2_takeWord_40 : decode cX2_takeWord 40 = .ok (.iconst 1, 1) := by decide +kernel
theorem dX2_takeWord_41 : decode cX2_takeWord 41 = .ok (.putfield 67, 3) := by decide +kernel
theorem dX2_takeWord_44 : decode cX2_takeWord 44 = .ok (.iconst 0, 1) := by decide +kernel
theorem dX2_takeWord_45 : decode cX2_takeWord 45 = .ok (.istore_n 1, 1) := by decide +kernel
theorem dX2_takeWord_46 : decode cX2_takeWord 46 = .ok (.iload_n 1, 1) := by decide +kernel
theorem dX2_takeWord_47 : decode cX2_takeWord 47 = .ok (.bipush 12, 2) := by decide +kernel
theorem dX2_takeWord_49 : decode cX2_takeWord 49 = .ok (.if_icmp .ge 29, 3) := by decide +kernel
theorem dX2_takeWord_52 : decode cX2_takeWord 52 = .ok (.aload_n 0, 1) := by decide +kernel
theorem dX2_takeWord_53 : decode cX2_takeWord 53 = .ok (.iload_n 1, 1) := by decide +kernel
theorem dX2_takeWord_54 : decode cX2_takeWord 54 = .ok (.invokestatic 123, 3) := by decide +kernel
theorem dX2_takeWord_57 : decode cX2_takeWord 57 = .ok (.invokevirtual 127, 3) := by decide +kernel
theorem dX2_takeWord_60 : decode cX2_takeWord 60 = .ok (.ifCond .eq 12, 3) := by decide +kernel
theorem dX2_takeWord_63 : decode cX2_takeWord 63 = .ok (.aload_n 0, 1) := by decide +kernel
theorem dX2_takeWord_64 : decode cX2_takeWord 64 = .ok (.sipush 256, 3) := by decide +kernel
theorem dX2_takeWord_67 : decode cX2_takeWord 67 = .ok (.iload_n 1, 1) := by decide +kernel
theorem dX2_takeWord_68 : decode cX2_takeWord 68 = .ok (.iadd, 1) := by decide +kernel
theorem dX2_takeWord_69 : decode cX2_takeWord 69 = .ok (.putfield 67, 3) := by decide +kernel
theorem dX2_takeWord_72 : decode cX2_takeWord 72 = .ok (.iinc 1 1, 3) := by decide +kernel
theorem dX2_takeWord_75 : decode cX2_takeWord 75 = .ok (.goto (-29), 3) := by decide +kernel
theorem dX2_takeWord_78 : decode cX2_takeWord 78 = .ok (.return_, 1) := by decide +kernel
theorem dX2_isWord_0 : decode cX2_isWord 0 = .ok (.aload_n 1, 1) := by decide +kernel
theorem dX2_isWord_1 : decode cX2_isWord 1 = .ok (.invokevirtual 19, 3) := by decide +kernel
theorem dX2_isWord_4 : decode cX2_isWord 4 = .ok (.aload_n 0, 1) := by decide +kernel
theorem dX2_isWord_5 : decode cX2_isWord 5 = .ok (.getfield 42, 3) := by decide +kernel
theorem dX2_isWord_8 : decode cX2_isWord 8 = .ok (.aload_n 0, 1) := by decide +kernel
theorem dX2_isWord_9 : decode cX2_isWord 9 = .ok (.getfield 64, 3) := by decide +kernel
theorem dX2_isWord_12 : decode cX2_isWord 12 = .ok (.isub, 1) := by decide +kernel
theorem dX2_isWord_13 : decode cX2_isWord 13 = .ok (.if_icmp .eq 5, 3) := by decide +kernel
theorem dX2_isWord_16 : decode cX2_isWord 16 = .ok (.iconst 0, 1) := by decide +kernel
theorem dX2_isWord_17 : decode cX2_isWord 17 = .ok (.ireturn, 1) := by decide +kernel
theorem dX2_isWord_18 : decode cX2_isWord 18 = .ok (.iconst 0, 1) := by decide +kernel
theorem dX2_isWord_19 : decode cX2_isWord 19 = .ok (.istore_n 2, 1) := by decide +kernel
theorem dX2_isWord_20 : decode cX2_isWord 20 = .ok (.iload_n 2, 1) := by decide +kernel
theorem dX2_isWord_21 : decode cX2_isWord 21 = .ok (.aload_n 1, 1) := by decide +kernel
theorem dX2_isWord_22 : decode cX2_isWord 22 = .ok (.invokevirtual 19, 3) := by decide +kernel
theorem dX2_isWord_25 : decode cX2_isWord 25 = .ok (.if_icmp .ge 42, 3) := by decide +kernel
theorem dX2_isWord_28 : decode cX2_isWord 28 = .ok (.aload_n 0, 1) := by decide +kernel
theorem dX2_isWord_29 : decode cX2_isWord 29 = .ok (.getfield 64, 3) := by decide +kernel
theorem dX2_isWord_32 : decode cX2_isWord 32 = .ok (.iload_n 2, 1) := by decide +kernel
theorem dX2_isWord_33 : decode cX2_isWord 33 = .ok (.iadd, 1) := by decide +kernel
theorem dX2_isWord_34 : decode cX2_isWord 34 = .ok (.sipush 160, 3) := by decide +kernel
theorem dX2_isWord_37 : decode cX2_isWord 37 = .ok (.if_icmp .ge 30, 3) := by decide +kernel
theorem dX2_isWord_40 : decode cX2_isWord 40 = .ok (.aload_n 0, 1) := by decide +kernel
theorem dX2_isWord_41 : decode cX2_isWord 41 = .ok (.getfield 11, 3) := by decide +kernel
theorem dX2_isWord_44 : decode cX2_isWord 44 = .ok (.aload_n 0, 1) := by decide +kernel
theorem dX2_isWord_45 : decode cX2_isWord 45 = .ok (.getfield 64, 3) := by decide +kernel
theorem dX2_isWord_48 : decode cX2_isWord 48 = .ok (.iload_n 2, 1) := by decide +kernel
theorem dX2_isWord_49 : decode cX2_isWord 49 = .ok (.iadd, 1) := by decide +kernel
theorem dX2_isWord_50 : decode cX2_isWord 50 = .ok (.iaload, 1) := by decide +kernel
theorem dX2_isWord_51 : decode cX2_isWord 51 = .ok (.aload_n 1, 1) := by decide +kernel
theorem dX2_isWord_52 : decode cX2_isWord 52 = .ok (.iload_n 2, 1) := by decide +kernel
theorem dX2_isWord_53 : decode cX2_isWord 53 = .ok (.invokevirtual 25, 3) := by decide +kernel
theorem dX2_isWord_56 : decode cX2_isWord 56 = .ok (.if_icmp .eq 5, 3) := by decide +kernel
theorem dX2_isWord_59 : decode cX2_isWord 59 = .ok (.iconst 0, 1) := by decide +kernel
theorem dX2_isWord_60 : decode cX2_isWord 60 = .ok (.ireturn, 1) := by decide +kernel
theorem dX2_isWord_61 : decode cX2_isWord 61 = .ok (.iinc 2 1, 3) := by decide +kernel
theorem dX2_isWord_64 : decode cX2_isWord 64 = .ok (.goto (-44), 3) := by decide +kernel
theorem dX2_isWord_67 : decode cX2_isWord 67 = .ok (.iconst 1, 1) := by decide +kernel
theorem dX2_isWord_68 : decode cX2_isWord 68 = .ok (.ireturn, 1) := by decide +kernel
theorem dX2_takeNumeral_0 : decode cX2_takeNumeral 0 = .ok (.aload_n 0, 1) := by decide +kernel
theorem dX2_takeNumeral_1 : decode cX2_takeNumeral 1 = .ok (.iconst 0, 1) := by decide +kernel
theorem dX2_takeNumeral_2 : decode cX2_takeNumeral 2 = .ok (.putfield 98, 3) := by decide +kernel
theorem dX2_takeNumeral_5 : decode cX2_takeNumeral 5 = .ok (.iconst 0, 1) := by decide +kernel
theorem dX2_takeNumeral_6 : decode cX2_takeNumeral 6 = .ok (.istore_n 1, 1) := by decide +kernel
theorem dX2_takeNumeral_7 : decode cX2_takeNumeral 7 = .ok (.iload_n 1, 1) := by decide +kernel
theorem dX2_takeNumeral_8 : decode cX2_takeNumeral 8 = .ok (.sipush 160, 3) := by decide +kernel
theorem dX2_takeNumeral_11 : decode cX2_takeNumeral 11 = .ok (.if_icmp .ge 56, 3) := by decide +kernel
theorem dX2_takeNumeral_14 : decode cX2_takeNumeral 14 = .ok (.aload_n 0, 1) := by decide +kernel
theorem dX2_takeNumeral_15 : decode cX2_takeNumeral 15 = .ok (.aload_n 0, 1) := by decide +kernel
theorem dX2_takeNumeral_16 : decode cX2_takeNumeral 16 = .ok (.getfield 42, 3) := by decide +kernel
theorem dX2_takeNumeral_19 : decode cX2_takeNumeral 19 = .ok (.invokevirtual 101, 3) := by decide +kernel
theorem dX2_takeNumeral_22 : decode cX2_takeNumeral 22 = .ok (.invokestatic 114, 3) := by decide +kernel
theorem dX2_takeNumeral_25 : decode cX2_takeNumeral 25 = .ok (.ifCond .eq 42, 3) := by decide +kernel
theorem dX2_takeNumeral_28 : decode cX2_takeNumeral 28 = .ok (.aload_n 0, 1) := by decide +kernel
theorem dX2_takeNumeral_29 : decode cX2_takeNumeral 29 = .ok (.aload_n 0, 1) := by decide +kernel
theorem dX2_takeNumeral_30 : decode cX2_takeNumeral 30 = .ok (.getfield 98, 3) := by decide +kernel
theorem dX2_takeNumeral_33 : decode cX2_takeNumeral 33 = .ok (.bipush 10, 2) := by decide +kernel
theorem dX2_takeNumeral_35 : decode cX2_takeNumeral 35 = .ok (.imul, 1) := by decide +kernel
theorem dX2_takeNumeral_36 : decode cX2_takeNumeral 36 = .ok (.aload_n 0, 1) := by decide +kernel
theorem dX2_takeNumeral_37 : decode cX2_takeNumeral 37 = .ok (.aload_n 0, 1) := by decide +kernel
theorem dX2_takeNumeral_38 : decode cX2_takeNumeral 38 = .ok (.getfield 42, 3) := by decide +kernel
theorem dX2_takeNumeral_41 : decode cX2_takeNumeral 41 = .ok (.invokevirtual 101, 3) := by decide +kernel
theorem dX2_takeNumeral_44 : decode cX2_takeNumeral 44 = .ok (.iadd, 1) := by decide +kernel
theorem dX2_takeNumeral_45 : decode cX2_takeNumeral 45 = .ok (.bipush 48, 2) := by decide +kernel
theorem dX2_takeNumeral_47 : decode cX2_takeNumeral 47 = .ok (.isub, 1) := by decide +kernel
theorem dX2_takeNumeral_48 : decode cX2_takeNumeral 48 = .ok (.putfield 98, 3) := by decide +kernel
theorem dX2_takeNumeral_51 : decode cX2_takeNumeral 51 = .ok (.aload_n 0, 1) := by decide +kernel
theorem dX2_takeNumeral_52 : decode cX2_takeNumeral 52 = .ok (.dup, 1) := by decide +kernel
theorem dX2_takeNumeral_53 : decode cX2_takeNumeral 53 = .ok (.getfield 42, 3) := by decide +kernel
theorem dX2_takeNumeral_56 : decode cX2_takeNumeral 56 = .ok (.iconst 1, 1) := by decide +kernel
theorem dX2_takeNumeral_57 : decode cX2_takeNumeral 57 = .ok (.iadd, 1) := by decide +kernel
theorem dX2_takeNumeral_58 : decode cX2_takeNumeral 58 = .ok (.putfield 42, 3) := by decide +kernel
theorem dX2_takeNumeral_61 : decode cX2_takeNumeral 61 = .ok (.iinc 1 1, 3) := by decide +kernel
theorem dX2_takeNumeral_64 : decode cX2_takeNumeral 64 = .ok (.goto (-57), 3) := by decide +kernel
theorem dX2_takeNumeral_67 : decode cX2_takeNumeral 67 = .ok (.aload_n 0, 1) := by decide +kernel
theorem dX2_takeNumeral_68 : decode cX2_takeNumeral 68 = .ok (.aload_n 0, 1) := by decide +kernel
theorem dX2_takeNumeral_69 : decode cX2_takeNumeral 69 = .ok (.getfield 42, 3) := by decide +kernel
theorem dX2_takeNumeral_72 : decode cX2_takeNumeral 72 = .ok (.aload_n 0, 1) := by decide +kernel
theorem dX2_takeNumeral_73 : decode cX2_takeNumeral 73 = .ok (.getfield 64, 3) := by decide +kernel
theorem dX2_takeNumeral_76 : decode cX2_takeNumeral 76 = .ok (.isub, 1) := by decide +kernel
theorem dX2_takeNumeral_77 : decode cX2_takeNumeral 77 = .ok (.iconst 4, 1) := by decide +kernel
theorem dX2_takeNumeral_78 : decode cX2_takeNumeral 78 = .ok (.if_icmp .le 7, 3) := by decide +kernel
theorem dX2_takeNumeral_81 : decode cX2_takeNumeral 81 = .ok (.iconst 1, 1) := by decide +kernel
theorem dX2_takeNumeral_82 : decode cX2_takeNumeral 82 = .ok (.goto 4, 3) := by decide +kernel
theorem dX2_takeNumeral_85 : decode cX2_takeNumeral 85 = .ok (.iconst 2, 1) := by decide +kernel
theorem dX2_takeNumeral_86 : decode cX2_takeNumeral 86 = .ok (.putfield 67, 3) := by decide +kernel
theorem dX2_takeNumeral_89 : decode cX2_takeNumeral 89 = .ok (.return_, 1) := by decide +kernel
theorem dX2_letterAt_0 : decode cX2_letterAt 0 = .ok (.iload_n 1, 1) := by decide +kernel
theorem dX2_letterAt_1 : decode cX2_letterAt 1 = .ok (.ifCond .lt 27, 3) := by decide +kernel
theorem dX2_letterAt_4 : decode cX2_letterAt 4 = .ok (.iload_n 1, 1) := by decide +kernel
theorem dX2_letterAt_5 : decode cX2_letterAt 5 = .ok (.aload_n 0, 1) := by decide +kernel
theorem dX2_letterAt_6 : decode cX2_letterAt 6 = .ok (.getfield 15, 3) := by decide +kernel
theorem dX2_letterAt_9 : decode cX2_letterAt 9 = .ok (.if_icmp .ge 19, 3) := by decide +kernel
theorem dX2_letterAt_12 : decode cX2_letterAt 12 = .ok (.iload_n 1, 1) := by decide +kernel
theorem dX2_letterAt_13 : decode cX2_letterAt 13 = .ok (.sipush 160, 3) := by decide +kernel
theorem dX2_letterAt_16 : decode cX2_letterAt 16 = .ok (.if_icmp .ge 12, 3) := by decide +kernel
theorem dX2_letterAt_19 : decode cX2_letterAt 19 = .ok (.aload_n 0, 1) := by decide +kernel
theorem dX2_letterAt_20 : decode cX2_letterAt 20 = .ok (.getfield 11, 3) := by decide +kernel
theorem dX2_letterAt_23 : decode cX2_letterAt 23 = .ok (.iload_n 1, 1) := by decide +kernel
theorem dX2_letterAt_24 : decode cX2_letterAt 24 = .ok (.iaload, 1) := by decide +kernel
theorem dX2_letterAt_25 : decode cX2_letterAt 25 = .ok (.goto 4, 3) := by decide +kernel
theorem dX2_letterAt_28 : decode cX2_letterAt 28 = .ok (.iconst (-1), 1) := by decide +kernel
theorem dX2_letterAt_29 : decode cX2_letterAt 29 = .ok (.ireturn, 1) := by decide +kernel
theorem dX2_isBlank_0 : decode cX2_isBlank 0 = .ok (.iload_n 0, 1) := by decide +kernel
theorem dX2_isBlank_1 : decode cX2_isBlank 1 = .ok (.bipush 32, 2) := by decide +kernel
theorem dX2_isBlank_3 : decode cX2_isBlank 3 = .ok (.if_icmp .eq 9, 3) := by decide +kernel
theorem dX2_isBlank_6 : decode cX2_isBlank 6 = .ok (.iload_n 0, 1) := by decide +kernel
theorem dX2_isBlank_7 : decode cX2_isBlank 7 = .ok (.bipush 10, 2) := by decide +kernel
theorem dX2_isBlank_9 : decode cX2_isBlank 9 = .ok (.if_icmp .ne 7, 3) := by decide +kernel
theorem dX2_isBlank_12 : decode cX2_isBlank 12 = .ok (.iconst 1, 1) := by decide +kernel
theorem dX2_isBlank_13 : decode cX2_isBlank 13 = .ok (.goto 4, 3) := by decide +kernel
theorem dX2_isBlank_16 : decode cX2_isBlank 16 = .ok (.iconst 0, 1) := by decide +kernel
theorem dX2_isBlank_17 : decode cX2_isBlank 17 = .ok (.ireturn, 1) := by decide +kernel
theorem dX2_isLetter_0 : decode cX2_isLetter 0 = .ok (.iload_n 0, 1) := by decide +kernel
theorem dX2_isLetter_1 : decode cX2_isLetter 1 = .ok (.bipush 97, 2) := by decide +kernel
theorem dX2_isLetter_3 : decode cX2_isLetter 3 = .ok (.if_icmp .lt 13, 3) := by decide +kernel
theorem dX2_isLetter_6 : decode cX2_isLetter 6 = .ok (.iload_n 0, 1) := by decide +kernel
theorem dX2_isLetter_7 : decode cX2_isLetter 7 = .ok (.bipush 122, 2) := by decide +kernel
theorem dX2_isLetter_9 : decode cX2_isLetter 9 = .ok (.if_icmp .gt 7, 3) := by decide +kernel
theorem dX2_isLetter_12 : decode cX2_isLetter 12 = .ok (.iconst 1, 1) := by decide +kernel
theorem dX2_isLetter_13 : decode cX2_isLetter 13 = .ok (.goto 4, 3) := by decide +kernel
theorem dX2_isLetter_16 : decode cX2_isLetter 16 = .ok (.iconst 0, 1) := by decide +kernel
theorem dX2_isLetter_17 : decode cX2_isLetter 17 = .ok (.ireturn, 1) := by decide +kernel
theorem dX2_isDigit_0 : decode cX2_isDigit 0 = .ok (.iload_n 0, 1) := by decide +kernel
theorem dX2_isDigit_1 : decode cX2_isDigit 1 = .ok (.bipush 48, 2) := by decide +kernel
theorem dX2_isDigit_3 : decode cX2_isDigit 3 = .ok (.if_icmp .lt 13, 3) := by decide +kernel
theorem dX2_isDigit_6 : decode cX2_isDigit 6 = .ok (.iload_n 0, 1) := by decide +kernel
theorem dX2_isDigit_7 : decode cX2_isDigit 7 = .ok (.bipush 57, 2) := by decide +kernel
theorem dX2_isDigit_9 : decode cX2_isDigit 9 = .ok (.if_icmp .gt 7, 3) := by decide +kernel
theorem dX2_isDigit_12 : decode cX2_isDigit 12 = .ok (.iconst 1, 1) := by decide +kernel
theorem dX2_isDigit_13 : decode cX2_isDigit 13 = .ok (.goto 4, 3) := by decide +kernel
theorem dX2_isDigit_16 : decode cX2_isDigit 16 = .ok (.iconst 0, 1) := by decide +kernel
theorem dX2_isDigit_17 : decode cX2_isDigit 17 = .ok (.ireturn, 1) := by decide +kernel
theorem dX2_isSign_0 : decode cX2_isSign 0 = .ok (.ldc 131, 2) := by decide +kernel
theorem dX2_isSign_2 : decode cX2_isSign 2 = .ok (.iload_n 0, 1) := by decide +kernel
theorem dX2_isSign_3 : decode cX2_isSign 3 = .ok (.i2c, 1) := by decide +kernel
theorem dX2_isSign_4 : decode cX2_isSign 4 = .ok (.invokevirtual 133, 3) := by decide +kernel
theorem dX2_isSign_7 : decode cX2_isSign 7 = .ok (.ifCond .lt 7, 3) := by decide +kernel
theorem dX2_isSign_10 : decode cX2_isSign 10 = .ok (.iconst 1, 1) := by decide +kernel
theorem dX2_isSign_11 : decode cX2_isSign 11 = .ok (.goto 4, 3) := by decide +kernel
theorem dX2_isSign_14 : decode cX2_isSign 14 = .ok (.iconst 0, 1) := by decide +kernel
theorem dX2_isSign_15 : decode cX2_isSign 15 = .ok (.ireturn, 1) := by decide +kernel
theorem dX2_wordOf_0 : decode cX2_wordOf 0 = .ok (.iload_n 0, 1) := by decide +kernel
theorem dX2_wordOf_1 : decode cX2_wordOf 1 = .ok (.tableswitch 92 0 10 #[59, 62, 65, 68, 71, 74, 77, 80, 83, 86, 89], 59) := by decide +kernel
theorem dX2_wordOf_60 : decode cX2_wordOf 60 = .ok (.ldc 136, 2) := by decide +kernel
theorem dX2_wordOf_62 : decode cX2_wordOf 62 = .ok (.areturn, 1) := by decide +kernel
theorem dX2_wordOf_63 : decode cX2_wordOf 63 = .ok (.ldc 138, 2) := by decide +kernel
theorem dX2_wordOf_65 : decode cX2_wordOf 65 = .ok (.areturn, 1) := by decide +kernel
theorem dX2_wordOf_66 : decode cX2_wordOf 66 = .ok (.ldc 140, 2) := by decide +kernel
theorem dX2_wordOf_68 : decode cX2_wordOf 68 = .ok (.areturn, 1) := by decide +kernel
theorem dX2_wordOf_69 : decode cX2_wordOf 69 = .ok (.ldc 142, 2) := by decide +kernel
theorem dX2_wordOf_71 : decode cX2_wordOf 71 = .ok (.areturn, 1) := by decide +kernel
theorem dX2_wordOf_72 : decode cX2_wordOf 72 = .ok (.ldc 144, 2) := by decide +kernel
theorem dX2_wordOf_74 : decode cX2_wordOf 74 = .ok (.areturn, 1) := by decide +kernel
theorem dX2_wordOf_75 : decode cX2_wordOf 75 = .ok (.ldc 146, 2) := by decide +kernel
theorem dX2_wordOf_77 : decode cX2_wordOf 77 = .ok (.areturn, 1) := by decide +kernel
theorem dX2_wordOf_78 : decode cX2_wordOf 78 = .ok (.ldc 148, 2) := by decide +kernel
theorem dX2_wordOf_80 : decode cX2_wordOf 80 = .ok (.areturn, 1) := by decide +kernel
theorem dX2_wordOf_81 : decode cX2_wordOf 81 = .ok (.ldc 150, 2) := by decide +kernel
theorem dX2_wordOf_83 : decode cX2_wordOf 83 = .ok (.areturn, 1) := by decide +kernel
theorem dX2_wordOf_84 : decode cX2_wordOf 84 = .ok (.ldc 152, 2) := by decide +kernel
theorem dX2_wordOf_86 : decode cX2_wordOf 86 = .ok (.areturn, 1) := by decide +kernel
theorem dX2_wordOf_87 : decode cX2_wordOf 87 = .ok (.ldc 154, 2) := by decide +kernel
theorem dX2_wordOf_89 : decode cX2_wordOf 89 = .ok (.areturn, 1) := by decide +kernel
theorem dX2_wordOf_90 : decode cX2_wordOf 90 = .ok (.ldc 156, 2) := by decide +kernel
theorem dX2_wordOf_92 : decode cX2_wordOf 92 = .ok (.areturn, 1) := by decide +kernel
theorem dX2_wordOf_93 : decode cX2_wordOf 93 = .ok (.ldc 158, 2) := by decide +kernel
theorem dX2_wordOf_95 : decode cX2_wordOf 95 = .ok (.areturn, 1) := by decide +kernel
