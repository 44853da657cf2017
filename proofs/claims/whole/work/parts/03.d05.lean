theorem dX8_passes_0 : decode cX8_passes 0 = .ok (.iload_n 1, 1) := by decide +kernel
theorem dX8_passes_1 : decode cX8_passes 1 = .ok (.iconst 1, 1) := by decide +kernel
theorem dX8_passes_2 : decode cX8_passes 2 = .ok (.if_icmp .ne 16, 3) := by decide +kernel
theorem dX8_passes_5 : decode cX8_passes 5 = .ok (.aload_n 0, 1) := by decide +kernel
theorem dX8_passes_6 : decode cX8_passes 6 = .ok (.aload_n 0, 1) := by decide +kernel
theorem dX8_passes_7 : decode cX8_passes 7 = .ok (.getfield 29, 3) := by decide +kernel
theorem dX8_passes_10 : decode cX8_passes 10 = .ok (.iconst 0, 1) := by decide +kernel
theorem dX8_passes_11 : decode cX8_passes 11 = .ok (.iaload, 1) := by decide +kernel
theorem dX8_passes_12 : decode cX8_passes 12 = .ok (.invokevirtual 362, 3) := by decide +kernel
theorem dX8_passes_15 : decode cX8_passes 15 = .ok (.ifCond .ne 24, 3) := by decide +kernel
theorem dX8_passes_18 : decode cX8_passes 18 = .ok (.aload_n 0, 1) := by decide +kernel
theorem dX8_passes_19 : decode cX8_passes 19 = .ok (.aload_n 0, 1) := by decide +kernel
theorem dX8_passes_20 : decode cX8_passes 20 = .ok (.getfield 29, 3) := by decide +kernel
theorem dX8_passes_23 : decode cX8_passes 23 = .ok (.iload_n 1, 1) := by decide +kernel
theorem dX8_passes_24 : decode cX8_passes 24 = .ok (.iconst 1, 1) := by decide +kernel
theorem dX8_passes_25 : decode cX8_passes 25 = .ok (.isub, 1) := by decide +kernel
theorem dX8_passes_26 : decode cX8_passes 26 = .ok (.iaload, 1) := by decide +kernel
theorem dX8_passes_27 : decode cX8_passes 27 = .ok (.aload_n 0, 1) := by decide +kernel
theorem dX8_passes_28 : decode cX8_passes 28 = .ok (.getfield 29, 3) := by decide +kernel
theorem dX8_passes_31 : decode cX8_passes 31 = .ok (.iload_n 1, 1) := by decide +kernel
theorem dX8_passes_32 : decode cX8_passes 32 = .ok (.iaload, 1) := by decide +kernel
theorem dX8_passes_33 : decode cX8_passes 33 = .ok (.invokevirtual 128, 3) := by decide +kernel
theorem dX8_passes_36 : decode cX8_passes 36 = .ok (.ifCond .eq 5, 3) := by decide +kernel
theorem dX8_passes_39 : decode cX8_passes 39 = .ok (.iconst 0, 1) := by decide +kernel
theorem dX8_passes_40 : decode cX8_passes 40 = .ok (.ireturn, 1) := by decide +kernel
theorem dX8_passes_41 : decode cX8_passes 41 = .ok (.aload_n 0, 1) := by decide +kernel
theorem dX8_passes_42 : decode cX8_passes 42 = .ok (.getfield 29, 3) := by decide +kernel
theorem dX8_passes_45 : decode cX8_passes 45 = .ok (.iload_n 1, 1) := by decide +kernel
theorem dX8_passes_46 : decode cX8_passes 46 = .ok (.iaload, 1) := by decide +kernel
theorem dX8_passes_47 : decode cX8_passes 47 = .ok (.istore_n 2, 1) := by decide +kernel
theorem dX8_passes_48 : decode cX8_passes 48 = .ok (.aload_n 0, 1) := by decide +kernel
theorem dX8_passes_49 : decode cX8_passes 49 = .ok (.getfield 29, 3) := by decide +kernel
theorem dX8_passes_52 : decode cX8_passes 52 = .ok (.iload_n 1, 1) := by decide +kernel
theorem dX8_passes_53 : decode cX8_passes 53 = .ok (.aload_n 0, 1) := by decide +kernel
theorem dX8_passes_54 : decode cX8_passes 54 = .ok (.getfield 29, 3) := by decide +kernel
theorem dX8_passes_57 : decode cX8_passes 57 = .ok (.iload_n 1, 1) := by decide +kernel
theorem dX8_passes_58 : decode cX8_passes 58 = .ok (.iconst 1, 1) := by decide +kernel
theorem dX8_passes_59 : decode cX8_passes 59 = .ok (.isub, 1) := by decide +kernel
theorem dX8_passes_60 : decode cX8_passes 60 = .ok (.iaload, 1) := by decide +kernel
theorem dX8_passes_61 : decode cX8_passes 61 = .ok (.iastore, 1) := by decide +kernel
theorem dX8_passes_62 : decode cX8_passes 62 = .ok (.aload_n 0, 1) := by decide +kernel
theorem dX8_passes_63 : decode cX8_passes 63 = .ok (.getfield 29, 3) := by decide +kernel
theorem dX8_passes_66 : decode cX8_passes 66 = .ok (.iload_n 1, 1) := by decide +kernel
theorem dX8_passes_67 : decode cX8_passes 67 = .ok (.iconst 1, 1) := by decide +kernel
theorem dX8_passes_68 : decode cX8_passes 68 = .ok (.isub, 1) := by decide +kernel
theorem dX8_passes_69 : decode cX8_passes 69 = .ok (.iload_n 2, 1) := by decide +kernel
theorem dX8_passes_70 : decode cX8_passes 70 = .ok (.iastore, 1) := by decide +kernel
theorem dX8_passes_71 : decode cX8_passes 71 = .ok (.iconst 1, 1) := by decide +kernel
theorem dX8_passes_72 : decode cX8_passes 72 = .ok (.ireturn, 1) := by decide +kernel
theorem dX8_pass_0 : decode cX8_pass 0 = .ok (.aload_n 0, 1) := by decide +kernel
theorem dX8_pass_1 : decode cX8_pass 1 = .ok (.iload_n 1, 1) := by decide +kernel
theorem dX8_pass_2 : decode cX8_pass 2 = .ok (.invokevirtual 97, 3) := by decide +kernel
theorem dX8_pass_5 : decode cX8_pass 5 = .ok (.ifCond .ne 6, 3) := by decide +kernel
theorem dX8_pass_8 : decode cX8_pass 8 = .ok (.bipush (-2), 2) := by decide +kernel
theorem dX8_pass_10 : decode cX8_pass 10 = .ok (.ireturn, 1) := by decide +kernel
theorem dX8_pass_11 : decode cX8_pass 11 = .ok (.aload_n 0, 1) := by decide +kernel
theorem dX8_pass_12 : decode cX8_pass 12 = .ok (.iload_n 1, 1) := by decide +kernel
theorem dX8_pass_13 : decode cX8_pass 13 = .ok (.invokevirtual 132, 3) := by decide +kernel
theorem dX8_pass_16 : decode cX8_pass 16 = .ok (.istore_n 2, 1) := by decide +kernel
theorem dX8_pass_17 : decode cX8_pass 17 = .ok (.iload_n 2, 1) := by decide +kernel
theorem dX8_pass_18 : decode cX8_pass 18 = .ok (.iconst 1, 1) := by decide +kernel
theorem dX8_pass_19 : decode cX8_pass 19 = .ok (.if_icmp .lt 11, 3) := by decide +kernel
theorem dX8_pass_22 : decode cX8_pass 22 = .ok (.aload_n 0, 1) := by decide +kernel
theorem dX8_pass_23 : decode cX8_pass 23 = .ok (.iload_n 2, 1) := by decide +kernel
theorem dX8_pass_24 : decode cX8_pass 24 = .ok (.invokevirtual 365, 3) := by decide +kernel
theorem dX8_pass_27 : decode cX8_pass 27 = .ok (.ifCond .ne 8, 3) := by decide +kernel
theorem dX8_pass_30 : decode cX8_pass 30 = .ok (.bipush (-3), 2) := by decide +kernel
theorem dX8_pass_32 : decode cX8_pass 32 = .ok (.goto 6, 3) := by decide +kernel
theorem dX8_pass_35 : decode cX8_pass 35 = .ok (.iload_n 2, 1) := by decide +kernel
theorem dX8_pass_36 : decode cX8_pass 36 = .ok (.iconst 1, 1) := by decide +kernel
theorem dX8_pass_37 : decode cX8_pass 37 = .ok (.isub, 1) := by decide +kernel
theorem dX8_pass_38 : decode cX8_pass 38 = .ok (.ireturn, 1) := by decide +kernel
theorem dX8_haste_0 : decode cX8_haste 0 = .ok (.iconst 0, 1) := by decide +kernel
theorem dX8_haste_1 : decode cX8_haste 1 = .ok (.istore_n 1, 1) := by decide +kernel
theorem dX8_haste_2 : decode cX8_haste 2 = .ok (.iconst 1, 1) := by decide +kernel
theorem dX8_haste_3 : decode cX8_haste 3 = .ok (.istore_n 2, 1) := by decide +kernel
theorem dX8_haste_4 : decode cX8_haste 4 = .ok (.iload_n 2, 1) := by decide +kernel
theorem dX8_haste_5 : decode cX8_haste 5 = .ok (.aload_n 0, 1) := by decide +kernel
theorem dX8_haste_6 : decode cX8_haste 6 = .ok (.getfield 123, 3) := by decide +kernel
theorem dX8_haste_9 : decode cX8_haste 9 = .ok (.if_icmp .ge 25, 3) := by decide +kernel
theorem dX8_haste_12 : decode cX8_haste 12 = .ok (.iload_n 1, 1) := by decide +kernel
theorem dX8_haste_13 : decode cX8_haste 13 = .ok (.aload_n 0, 1) := by decide +kernel
theorem dX8_haste_14 : decode cX8_haste 14 = .ok (.iload_n 2, 1) := by decide +kernel
theorem dX8_haste_15 : decode cX8_haste 15 = .ok (.invokevirtual 365, 3) := by decide +kernel
theorem dX8_haste_18 : decode cX8_haste 18 = .ok (.ifCond .eq 7, 3) := by decide +kernel
theorem dX8_haste_21 : decode cX8_haste 21 = .ok (.iconst 1, 1) := by decide +kernel
theorem dX8_haste_22 : decode cX8_haste 22 = .ok (.goto 4, 3) := by decide +kernel
theorem dX8_haste_25 : decode cX8_haste 25 = .ok (.iconst 0, 1) := by decide +kernel
theorem dX8_haste_26 : decode cX8_haste 26 = .ok (.iadd, 1) := by decide +kernel
theorem dX8_haste_27 : decode cX8_haste 27 = .ok (.istore_n 1, 1) := by decide +kernel
theorem dX8_haste_28 : decode cX8_haste 28 = .ok (.iinc 2 1, 3) := by decide +kernel
theorem dX8_haste_31 : decode cX8_haste 31 = .ok (.goto (-27), 3) := by decide +kernel
theorem dX8_haste_34 : decode cX8_haste 34 = .ok (.iload_n 1, 1) := by decide +kernel
theorem dX8_haste_35 : decode cX8_haste 35 = .ok (.ireturn, 1) := by decide +kernel
theorem dX8_ticks_0 : decode cX8_ticks 0 = .ok (.iconst (-1), 1) := by decide +kernel
theorem dX8_ticks_1 : decode cX8_ticks 1 = .ok (.istore_n 1, 1) := by decide +kernel
theorem dX8_ticks_2 : decode cX8_ticks 2 = .ok (.aload_n 0, 1) := by decide +kernel
theorem dX8_ticks_3 : decode cX8_ticks 3 = .ok (.getfield 123, 3) := by decide +kernel
theorem dX8_ticks_6 : decode cX8_ticks 6 = .ok (.ifCond .le 50, 3) := by decide +kernel
theorem dX8_ticks_9 : decode cX8_ticks 9 = .ok (.aload_n 0, 1) := by decide +kernel
theorem dX8_ticks_10 : decode cX8_ticks 10 = .ok (.getfield 29, 3) := by decide +kernel
theorem dX8_ticks_13 : decode cX8_ticks 13 = .ok (.iconst 0, 1) := by decide +kernel
theorem dX8_ticks_14 : decode cX8_ticks 14 = .ok (.iaload, 1) := by decide +kernel
theorem dX8_ticks_15 : decode cX8_ticks 15 = .ok (.istore_n 2, 1) := by decide +kernel
theorem dX8_ticks_16 : decode cX8_ticks 16 = .ok (.aload_n 0, 1) := by decide +kernel
theorem dX8_ticks_17 : decode cX8_ticks 17 = .ok (.iload_n 2, 1) := by decide +kernel
theorem dX8_ticks_18 : decode cX8_ticks 18 = .ok (.invokevirtual 135, 3) := by decide +kernel
theorem dX8_ticks_21 : decode cX8_ticks 21 = .ok (.istore_n 3, 1) := by decide +kernel
theorem dX8_ticks_22 : decode cX8_ticks 22 = .ok (.aload_n 0, 1) := by decide +kernel
theorem dX8_ticks_23 : decode cX8_ticks 23 = .ok (.getfield 26, 3) := by decide +kernel
theorem dX8_ticks_26 : decode cX8_ticks 26 = .ok (.iconst 4, 1) := by decide +kernel
theorem dX8_ticks_27 : decode cX8_ticks 27 = .ok (.iload_n 2, 1) := by decide +kernel
theorem dX8_ticks_28 : decode cX8_ticks 28 = .ok (.imul, 1) := by decide +kernel
theorem dX8_ticks_29 : decode cX8_ticks 29 = .ok (.iconst 3, 1) := by decide +kernel
theorem dX8_ticks_30 : decode cX8_ticks 30 = .ok (.iadd, 1) := by decide +kernel
theorem dX8_ticks_31 : decode cX8_ticks 31 = .ok (.dup2, 1) := by decide +kernel
theorem dX8_ticks_32 : decode cX8_ticks 32 = .ok (.iaload, 1) := by decide +kernel
theorem dX8_ticks_33 : decode cX8_ticks 33 = .ok (.iconst 1, 1) := by decide +kernel
theorem dX8_ticks_34 : decode cX8_ticks 34 = .ok (.iadd, 1) := by decide +kernel
theorem dX8_ticks_35 : decode cX8_ticks 35 = .ok (.iastore, 1) := by decide +kernel
theorem dX8_ticks_36 : decode cX8_ticks 36 = .ok (.aload_n 0, 1) := by decide +kernel
theorem dX8_ticks_37 : decode cX8_ticks 37 = .ok (.getfield 26, 3) := by decide +kernel
theorem dX8_ticks_40 : decode cX8_ticks 40 = .ok (.iconst 4, 1) := by decide +kernel
theorem dX8_ticks_41 : decode cX8_ticks 41 = .ok (.iload_n 2, 1) := by decide +kernel
theorem dX8_ticks_42 : decode cX8_ticks 42 = .ok (.imul, 1) := by decide +kernel
theorem dX8_ticks_43 : decode cX8_ticks 43 = .ok (.iconst 3, 1) := by decide +kernel
theorem dX8_ticks_44 : decode cX8_ticks 44 = .ok (.iadd, 1) := by decide +kernel
theorem dX8_ticks_45 : decode cX8_ticks 45 = .ok (.iaload, 1) := by decide +kernel
theorem dX8_ticks_46 : decode cX8_ticks 46 = .ok (.iload_n 3, 1) := by decide +kernel
theorem dX8_ticks_47 : decode cX8_ticks 47 = .ok (.if_icmp .lt 7, 3) := by decide +kernel
theorem dX8_ticks_50 : decode cX8_ticks 50 = .ok (.iload_n 2, 1) := by decide +kernel
theorem dX8_ticks_51 : decode cX8_ticks 51 = .ok (.goto 4, 3) := by decide +kernel
theorem dX8_ticks_54 : decode cX8_ticks 54 = .ok (.iconst (-1), 1) := by decide +kernel
theorem dX8_ticks_55 : decode cX8_ticks 55 = .ok (.istore_n 1, 1) := by decide +kernel
theorem dX8_ticks_56 : decode cX8_ticks 56 = .ok (.iload_n 1, 1) := by decide +kernel
theorem dX8_ticks_57 : decode cX8_ticks 57 = .ok (.iconst (-1), 1) := by decide +kernel
theorem dX8_ticks_58 : decode cX8_ticks 58 = .ok (.if_icmp .eq 43, 3) := by decide +kernel
theorem dX8_ticks_61 : decode cX8_ticks 61 = .ok (.aload_n 0, 1) := by decide +kernel
theorem dX8_ticks_62 : decode cX8_ticks 62 = .ok (.dup, 1) := by decide +kernel
theorem dX8_ticks_63 : decode cX8_ticks 63 = .ok (.getfield 123, 3) := by decide +kernel
theorem dX8_ticks_66 : decode cX8_ticks 66 = .ok (.iconst 1, 1) := by decide +kernel
theorem dX8_ticks_67 : decode cX8_ticks 67 = .ok (.isub, 1) := by decide +kernel
theorem dX8_ticks_68 : decode cX8_ticks 68 = .ok (.putfield 123, 3) := by decide +kernel
theorem dX8_ticks_71 : decode cX8_ticks 71 = .ok (.iconst 0, 1) := by decide +kernel
theorem dX8_ticks_72 : decode cX8_ticks 72 = .ok (.istore_n 2, 1) := by decide +kernel
theorem dX8_ticks_73 : decode cX8_ticks 73 = .ok (.iload_n 2, 1) := by decide +kernel
theorem dX8_ticks_74 : decode cX8_ticks 74 = .ok (.aload_n 0, 1) := by decide +kernel
theorem dX8_ticks_75 : decode cX8_ticks 75 = .ok (.getfield 123, 3) := by decide +kernel
theorem dX8_ticks_78 : decode cX8_ticks 78 = .ok (.if_icmp .ge 23, 3) := by decide +kernel
theorem dX8_ticks_81 : decode cX8_ticks 81 = .ok (.aload_n 0, 1) := by decide +kernel
theorem dX8_ticks_82 : decode cX8_ticks 82 = .ok (.getfield 29, 3) := by decide +kernel
theorem dX8_ticks_85 : decode cX8_ticks 85 = .ok (.iload_n 2, 1) := by decide +kernel
theorem dX8_ticks_86 : decode cX8_ticks 86 = .ok (.aload_n 0, 1) := by decide +kernel
theorem dX8_ticks_87 : decode cX8_ticks 87 = .ok (.getfield 29, 3) := by decide +kernel
theorem dX8_ticks_90 : decode cX8_ticks 90 = .ok (.iload_n 2, 1) := by decide +kernel
theorem dX8_ticks_91 : decode cX8_ticks 91 = .ok (.iconst 1, 1) := by decide +kernel
theorem dX8_ticks_92 : decode cX8_ticks 92 = .ok (.iadd, 1) := by decide +kernel
theorem dX8_ticks_93 : decode cX8_ticks 93 = .ok (.iaload, 1) := by decide +kernel
theorem dX8_ticks_94 : decode cX8_ticks 94 = .ok (.iastore, 1) := by decide +kernel
theorem dX8_ticks_95 : decode cX8_ticks 95 = .ok (.iinc 2 1, 3) := by decide +kernel
theorem dX8_ticks_98 : decode cX8_ticks 98 = .ok (.goto (-25), 3) := by decide +kernel
theorem dX8_ticks_101 : decode cX8_ticks 101 = .ok (.aload_n 0, 1) := by decide +kernel
theorem dX8_ticks_102 : decode cX8_ticks 102 = .ok (.dup, 1) := by decide +kernel
theorem dX8_ticks_103 : decode cX8_ticks 103 = .ok (.getfield 113, 3) := by decide +kernel
theorem dX8_ticks_106 : decode cX8_ticks 106 = .ok (.iconst 1, 1) := by decide +kernel
theorem dX8_ticks_107 : decode cX8_ticks 107 = .ok (.iadd, 1) := by decide +kernel
theorem dX8_ticks_108 : decode cX8_ticks 108 = .ok (.putfield 113, 3) := by decide +kernel
theorem dX8_ticks_111 : decode cX8_ticks 111 = .ok (.iload_n 1, 1) := by decide +kernel
theorem dX8_ticks_112 : decode cX8_ticks 112 = .ok (.ireturn, 1) := by decide +kernel
theorem dX8_minute_0 : decode cX8_minute 0 = .ok (.aload_n 0, 1) := by decide +kernel
theorem dX8_minute_1 : decode cX8_minute 1 = .ok (.getfield 113, 3) := by decide +kernel
theorem dX8_minute_4 : decode cX8_minute 4 = .ok (.sipush 999, 3) := by decide +kernel
theorem dX8_minute_7 : decode cX8_minute 7 = .ok (.if_icmp .ne 8, 3) := by decide +kernel
theorem dX8_minute_10 : decode cX8_minute 10 = .ok (.bipush (-3), 2) := by decide +kernel
theorem dX8_minute_12 : decode cX8_minute 12 = .ok (.goto 7, 3) := by decide +kernel
theorem dX8_minute_15 : decode cX8_minute 15 = .ok (.aload_n 0, 1) := by decide +kernel
theorem dX8_minute_16 : decode cX8_minute 16 = .ok (.invokevirtual 368, 3) := by decide +kernel
theorem dX8_minute_19 : decode cX8_minute 19 = .ok (.ireturn, 1) := by decide +kernel
theorem dX8_come_0 : decode cX8_come 0 = .ok (.aload_n 0, 1) := by decide +kernel
theorem dX8_come_1 : decode cX8_come 1 = .ok (.iload_n 1, 1) := by decide +kernel
theorem dX8_come_2 : decode cX8_come 2 = .ok (.invokevirtual 97, 3) := by decide +kernel
theorem dX8_come_5 : decode cX8_come 5 = .ok (.ifCond .ne 6, 3) := by decide +kernel
theorem dX8_come_8 : decode cX8_come 8 = .ok (.bipush (-2), 2) := by decide +kernel
theorem dX8_come_10 : decode cX8_come 10 = .ok (.ireturn, 1) := by decide +kernel
theorem dX8_come_11 : decode cX8_come 11 = .ok (.aload_n 0, 1) := by decide +kernel
theorem dX8_come_12 : decode cX8_come 12 = .ok (.iload_n 1, 1) := by decide +kernel
theorem dX8_come_13 : decode cX8_come 13 = .ok (.invokevirtual 132, 3) := by decide +kernel
theorem dX8_come_16 : decode cX8_come 16 = .ok (.iconst (-1), 1) := by decide +kernel
theorem dX8_come_17 : decode cX8_come 17 = .ok (.if_icmp .eq 6, 3) := by decide +kernel
theorem dX8_come_20 : decode cX8_come 20 = .ok (.bipush (-3), 2) := by decide +kernel
theorem dX8_come_22 : decode cX8_come 22 = .ok (.ireturn, 1) := by decide +kernel
theorem dX8_come_23 : decode cX8_come 23 = .ok (.aload_n 0, 1) := by decide +kernel
theorem dX8_come_24 : decode cX8_come 24 = .ok (.getfield 26, 3) := by decide +kernel
theorem dX8_come_27 : decode cX8_come 27 = .ok (.iconst 4, 1) := by decide +kernel
theorem dX8_come_28 : decode cX8_come 28 = .ok (.iload_n 1, 1) := by decide +kernel
theorem dX8_come_29 : decode cX8_come 29 = .ok (.imul, 1) := by decide +kernel
theorem dX8_come_30 : decode cX8_come 30 = .ok (.iconst 3, 1) := by decide +kernel
theorem dX8_come_31 : decode cX8_come 31 = .ok (.iadd, 1) := by decide +kernel
theorem dX8_come_32 : decode cX8_come 32 = .ok (.iconst 0, 1) := by decide +kernel
theorem dX8_come_33 : decode cX8_come 33 = .ok (.iastore, 1) := by decide +kernel
theorem dX8_come_34 : decode cX8_come 34 = .ok (.aload_n 0, 1) := by decide +kernel
theorem dX8_come_35 : decode cX8_come 35 = .ok (.getfield 29, 3) := by decide +kernel
theorem dX8_come_38 : decode cX8_come 38 = .ok (.aload_n 0, 1) := by decide +kernel
theorem dX8_come_39 : decode cX8_come 39 = .ok (.getfield 123, 3) := by decide +kernel
theorem dX8_come_42 : decode cX8_come 42 = .ok (.iload_n 1, 1) := by decide +kernel
theorem dX8_come_43 : decode cX8_come 43 = .ok (.iastore, 1) := by decide +kernel
theorem dX8_come_44 : decode cX8_come 44 = .ok (.aload_n 0, 1) := by decide +kernel
theorem dX8_come_45 : decode cX8_come 45 = .ok (.dup, 1) := by decide +kernel
theorem dX8_come_46 : decode cX8_come 46 = .ok (.getfield 123, 3) := by decide +kernel
theorem dX8_come_49 : decode cX8_come 49 = .ok (.iconst 1, 1) := by decide +kernel
theorem dX8_come_50 : decode cX8_come 50 = .ok (.iadd, 1) := by decide +kernel
theorem dX8_come_51 : decode cX8_come 51 = .ok (.putfield 123, 3) := by decide +kernel
theorem dX8_come_54 : decode cX8_come 54 = .ok (.aload_n 0, 1) := by decide +kernel
theorem dX8_come_55 : decode cX8_come 55 = .ok (.getfield 123, 3) := by decide +kernel
theorem dX8_come_58 : decode cX8_come 58 = .ok (.iconst 1, 1) := by decide +kernel
theorem dX8_come_59 : decode cX8_come 59 = .ok (.isub, 1) := by decide +kernel
theorem dX8_come_60 : decode cX8_come 60 = .ok (.ireturn, 1) := by decide +kernel
theorem dX8_spreads_0 : decode cX8_spreads 0 = .ok (.iload_n 1, 1) := by decide +kernel
theorem dX8_spreads_1 : decode cX8_spreads 1 = .ok (.istore_n 2, 1) := by decide +kernel
theorem dX8_spreads_2 : decode cX8_spreads 2 = .ok (.aload_n 0, 1) := by decide +kernel
theorem dX8_spreads_3 : decode cX8_spreads 3 = .ok (.getfield 123, 3) := by decide +kernel
theorem dX8_spreads_6 : decode cX8_spreads 6 = .ok (.iconst 1, 1) := by decide +kernel
theorem dX8_spreads_7 : decode cX8_spreads 7 = .ok (.isub, 1) := by decide +kernel
theorem dX8_spreads_8 : decode cX8_spreads 8 = .ok (.istore_n 3, 1) := by decide +kernel
theorem dX8_spreads_9 : decode cX8_spreads 9 = .ok (.iload_n 3, 1) := by decide +kernel
theorem dX8_spreads_10 : decode cX8_spreads 10 = .ok (.ifCond .lt 26, 3) := by decide +kernel
theorem dX8_spreads_13 : decode cX8_spreads 13 = .ok (.aload_n 0, 1) := by decide +kernel
theorem dX8_spreads_14 : decode cX8_spreads 14 = .ok (.getfield 42, 3) := by decide +kernel
theorem dX8_spreads_17 : decode cX8_spreads 17 = .ok (.iload_n 3, 1) := by decide +kernel
theorem dX8_spreads_18 : decode cX8_spreads 18 = .ok (.iload_n 2, 1) := by decide +kernel
theorem dX8_spreads_19 : decode cX8_spreads 19 = .ok (.bipush 10, 2) := by decide +kernel
theorem dX8_spreads_21 : decode cX8_spreads 21 = .ok (.irem, 1) := by decide +kernel
theorem dX8_spreads_22 : decode cX8_spreads 22 = .ok (.iconst 1, 1) := by decide +kernel
theorem dX8_spreads_23 : decode cX8_spreads 23 = .ok (.isub, 1) := by decide +kernel
theorem dX8_spreads_24 : decode cX8_spreads 24 = .ok (.iastore, 1) := by decide +kernel
theorem dX8_spreads_25 : decode cX8_spreads 25 = .ok (.iload_n 2, 1) := by decide +kernel
theorem dX8_spreads_26 : decode cX8_spreads 26 = .ok (.bipush 10, 2) := by decide +kernel
theorem dX8_spreads_28 : decode cX8_spreads 28 = .ok (.idiv, 1) := by decide +kernel
theorem dX8_spreads_29 : decode cX8_spreads 29 = .ok (.istore_n 2, 1) := by decide +kernel
theorem dX8_spreads_30 : decode cX8_spreads 30 = .ok (.iinc 3 (-1), 3) := by decide +kernel
theorem dX8_spreads_33 : decode cX8_spreads 33 = .ok (.goto (-24), 3) := by decide +kernel
theorem dX8_spreads_36 : decode cX8_spreads 36 = .ok (.return_, 1) := by decide +kernel
theorem dX8_digitsNow_0 : decode cX8_digitsNow 0 = .ok (.iconst 0, 1) := by decide +kernel
theorem dX8_digitsNow_1 : decode cX8_digitsNow 1 = .ok (.istore_n 1, 1) := by decide +kernel
theorem dX8_digitsNow_2 : decode cX8_digitsNow 2 = .ok (.iconst 0, 1) := by decide +kernel
theorem dX8_digitsNow_3 : decode cX8_digitsNow 3 = .ok (.istore_n 2, 1) := by decide +kernel
theorem dX8_digitsNow_4 : decode cX8_digitsNow 4 = .ok (.iload_n 2, 1) := by decide +kernel
theorem dX8_digitsNow_5 : decode cX8_digitsNow 5 = .ok (.aload_n 0, 1) := by decide +kernel
theorem dX8_digitsNow_6 : decode cX8_digitsNow 6 = .ok (.getfield 123, 3) := by decide +kernel
theorem dX8_digitsNow_9 : decode cX8_digitsNow 9 = .ok (.if_icmp .ge 23, 3) := by decide +kernel
theorem dX8_digitsNow_12 : decode cX8_digitsNow 12 = .ok (.bipush 10, 2) := by decide +kernel
theorem dX8_digitsNow_14 : decode cX8_digitsNow 14 = .ok (.iload_n 1, 1) := by decide +kernel
theorem dX8_digitsNow_15 : decode cX8_digitsNow 15 = .ok (.imul, 1) := by decide +kernel
theorem dX8_digitsNow_16 : decode cX8_digitsNow 16 = .ok (.aload_n 0, 1) := by decide +kernel
theorem dX8_digitsNow_17 : decode cX8_digitsNow 17 = .ok (.getfield 42, 3) := by decide +kernel
theorem dX8_digitsNow_20 : decode cX8_digitsNow 20 = .ok (.iload_n 2, 1) := by decide +kernel
theorem dX8_digitsNow_21 : decode cX8_digitsNow 21 = .ok (.iaload, 1) := by decide +kernel
theorem dX8_digitsNow_22 : decode cX8_digitsNow 22 = .ok (.iadd, 1) := by decide +kernel
theorem dX8_digitsNow_23 : decode cX8_digitsNow 23 = .ok (.iconst 1, 1) := by decide +kernel
theorem dX8_digitsNow_24 : decode cX8_digitsNow 24 = .ok (.iadd, 1) := by decide +kernel
theorem dX8_digitsNow_25 : decode cX8_digitsNow 25 = .ok (.istore_n 1, 1) := by decide +kernel
theorem dX8_digitsNow_26 : decode cX8_digitsNow 26 = .ok (.iinc 2 1, 3) := by decide +kernel
theorem dX8_digitsNow_29 : decode cX8_digitsNow 29 = .ok (.goto (-25), 3) := by decide +kernel
theorem dX8_digitsNow_32 : decode cX8_digitsNow 32 = .ok (.iload_n 1, 1) := by decide +kernel
theorem dX8_digitsNow_33 : decode cX8_digitsNow 33 = .ok (.ireturn, 1) := by decide +kernel
theorem dX8_listedAt_0 : decode cX8_listedAt 0 = .ok (.iconst 0, 1) := by decide +kernel
theorem dX8_listedAt_1 : decode cX8_listedAt 1 = .ok (.istore_n 2, 1) := by decide +kernel
theorem dX8_listedAt_2 : decode cX8_listedAt 2 = .ok (.iload_n 2, 1) := by decide +kernel
theorem dX8_listedAt_3 : decode cX8_listedAt 3 = .ok (.aload_n 0, 1) := by decide +kernel
theorem dX8_listedAt_4 : decode cX8_listedAt 4 = .ok (.getfield 371, 3) := by decide +kernel
theorem dX8_listedAt_7 : decode cX8_listedAt 7 = .ok (.if_icmp .ge 21, 3) := by decide +kernel
theorem dX8_listedAt_10 : decode cX8_listedAt 10 = .ok (.aload_n 0, 1) := by decide +kernel
theorem dX8_listedAt_11 : decode cX8_listedAt 11 = .ok (.getfield 32, 3) := by decide +kernel
theorem dX8_listedAt_14 : decode cX8_listedAt 14 = .ok (.iload_n 2, 1) := by decide +kernel
theorem dX8_listedAt_15 : decode cX8_listedAt 15 = .ok (.iaload, 1) := by decide +kernel
theorem dX8_listedAt_16 : decode cX8_listedAt 16 = .ok (.iload_n 1, 1) := by decide +kernel
theorem dX8_listedAt_17 : decode cX8_listedAt 17 = .ok (.if_icmp .ne 5, 3) := by decide +kernel
theorem dX8_listedAt_20 : decode cX8_listedAt 20 = .ok (.iload_n 2, 1) := by decide +kernel
theorem dX8_listedAt_21 : decode cX8_listedAt 21 = .ok (.ireturn, 1) := by decide +kernel
theorem dX8_listedAt_22 : decode cX8_listedAt 22 = .ok (.iinc 2 1, 3) := by decide +kernel
theorem dX8_listedAt_25 : decode cX8_listedAt 25 = .ok (.goto (-23), 3) := by decide +kernel
theorem dX8_listedAt_28 : decode cX8_listedAt 28 = .ok (.iconst (-1), 1) := by decide +kernel
theorem dX8_listedAt_29 : decode cX8_listedAt 29 = .ok (.ireturn, 1) := by decide +kernel
theorem dX8_turns_0 : decode cX8_turns 0 = .ok (.aload_n 0, 1) := by decide +kernel
theorem dX8_turns_1 : decode cX8_turns 1 = .ok (.getfield 42, 3) := by decide +kernel
theorem dX8_turns_4 : decode cX8_turns 4 = .ok (.iload_n 1, 1) := by decide +kernel
theorem dX8_turns_5 : decode cX8_turns 5 = .ok (.iaload, 1) := by decide +kernel
theorem dX8_turns_6 : decode cX8_turns 6 = .ok (.istore_n 2, 1) := by decide +kernel
theorem dX8_turns_7 : decode cX8_turns 7 = .ok (.aload_n 0, 1) := by decide +kernel
theorem dX8_turns_8 : decode cX8_turns 8 = .ok (.getfield 42, 3) := by decide +kernel
theorem dX8_turns_11 : decode cX8_turns 11 = .ok (.iload_n 1, 1) := by decide +kernel
theorem dX8_turns_12 : decode cX8_turns 12 = .ok (.aload_n 0, 1) := by decide +kernel
theorem dX8_turns_13 : decode cX8_turns 13 = .ok (.getfield 42, 3) := by decide +kernel
theorem dX8_turns_16 : decode cX8_turns 16 = .ok (.iload_n 1, 1) := by decide +kernel
theorem dX8_turns_17 : decode cX8_turns 17 = .ok (.iconst 1, 1) := by decide +kernel
theorem dX8_turns_18 : decode cX8_turns 18 = .ok (.isub, 1) := by decide +kernel
theorem dX8_turns_19 : decode cX8_turns 19 = .ok (.iaload, 1) := by decide +kernel
theorem dX8_turns_20 : decode cX8_turns 20 = .ok (.iastore, 1) := by decide +kernel
theorem dX8_turns_21 : decode cX8_turns 21 = .ok (.aload_n 0, 1) := by decide +kernel
theorem dX8_turns_22 : decode cX8_turns 22 = .ok (.getfield 42, 3) := by decide +kernel
theorem dX8_turns_25 : decode cX8_turns 25 = .ok (.iload_n 1, 1) := by decide +kernel
theorem dX8_turns_26 : decode cX8_turns 26 = .ok (.iconst 1, 1) := by decide +kernel
theorem dX8_turns_27 : decode cX8_turns 27 = .ok (.isub, 1) := by decide +kernel
theorem dX8_turns_28 : decode cX8_turns 28 = .ok (.iload_n 2, 1) := by decide +kernel
theorem dX8_turns_29 : decode cX8_turns 29 = .ok (.iastore, 1) := by decide +kernel
theorem dX8_turns_30 : decode cX8_turns 30 = .ok (.return_, 1) := by decide +kernel
theorem dX8_grows_0 : decode cX8_grows 0 = .ok (.iconst 0, 1) := by decide +kernel
theorem dX8_grows_1 : decode cX8_grows 1 = .ok (.istore_n 1, 1) := by decide +kernel
theorem dX8_grows_2 : decode cX8_grows 2 = .ok (.iload_n 1, 1) := by decide +kernel
theorem dX8_grows_3 : decode cX8_grows 3 = .ok (.aload_n 0, 1) := by decide +kernel
theorem dX8_grows_4 : decode cX8_grows 4 = .ok (.getfield 88, 3) := by decide +kernel
theorem dX8_grows_7 : decode cX8_grows 7 = .ok (.if_icmp .ge 54, 3) := by decide +kernel
theorem dX8_grows_10 : decode cX8_grows 10 = .ok (.iconst 0, 1) := by decide +kernel
theorem dX8_grows_11 : decode cX8_grows 11 = .ok (.istore_n 2, 1) := by decide +kernel
theorem dX8_grows_12 : decode cX8_grows 12 = .ok (.iload_n 2, 1) := by decide +kernel
theorem dX8_grows_13 : decode cX8_grows 13 = .ok (.aload_n 0, 1) := by decide +kernel
theorem dX8_grows_14 : decode cX8_grows 14 = .ok (.getfield 88, 3) := by decide +kernel
theorem dX8_grows_17 : decode cX8_grows 17 = .ok (.if_icmp .ge 38, 3) := by decide +kernel
theorem dX8_grows_20 : decode cX8_grows 20 = .ok (.aload_n 0, 1) := by decide +kernel
theorem dX8_grows_21 : decode cX8_grows 21 = .ok (.getfield 38, 3) := by decide +kernel
theorem dX8_grows_24 : decode cX8_grows 24 = .ok (.iconst 5, 1) := by decide +kernel
theorem dX8_grows_25 : decode cX8_grows 25 = .ok (.iload_n 1, 1) := by decide +kernel
theorem dX8_grows_26 : decode cX8_grows 26 = .ok (.imul, 1) := by decide +kernel
theorem dX8_grows_27 : decode cX8_grows 27 = .ok (.iload_n 2, 1) := by decide +kernel
theorem dX8_grows_28 : decode cX8_grows 28 = .ok (.iadd, 1) := by decide +kernel
theorem dX8_grows_29 : decode cX8_grows 29 = .ok (.iload_n 1, 1) := by decide +kernel
theorem dX8_grows_30 : decode cX8_grows 30 = .ok (.iload_n 2, 1) := by decide +kernel
theorem dX8_grows_31 : decode cX8_grows 31 = .ok (.if_icmp .eq 12, 3) := by decide +kernel
theorem dX8_grows_34 : decode cX8_grows 34 = .ok (.aload_n 0, 1) := by decide +kernel
theorem dX8_grows_35 : decode cX8_grows 35 = .ok (.iload_n 1, 1) := by decide +kernel
theorem dX8_grows_36 : decode cX8_grows 36 = .ok (.iload_n 2, 1) := by decide +kernel
theorem dX8_grows_37 : decode cX8_grows 37 = .ok (.invokevirtual 128, 3) := by decide +kernel
theorem dX8_grows_40 : decode cX8_grows 40 = .ok (.ifCond .eq 7, 3) := by decide +kernel
theorem dX8_grows_43 : decode cX8_grows 43 = .ok (.iconst 1, 1) := by decide +kernel
theorem dX8_grows_44 : decode cX8_grows 44 = .ok (.goto 4, 3) := by decide +kernel
theorem dX8_grows_47 : decode cX8_grows 47 = .ok (.iconst 0, 1) := by decide +kernel
theorem dX8_grows_48 : decode cX8_grows 48 = .ok (.bastore, 1) := by decide +kernel
theorem dX8_grows_49 : decode cX8_grows 49 = .ok (.iinc 2 1, 3) := by decide +kernel
theorem dX8_grows_52 : decode cX8_grows 52 = .ok (.goto (-40), 3) := by decide +kernel
theorem dX8_grows_55 : decode cX8_grows 55 = .ok (.iinc 1 1, 3) := by decide +kernel
theorem dX8_grows_58 : decode cX8_grows 58 = .ok (.goto (-56), 3) := by decide +kernel
theorem dX8_grows_61 : decode cX8_grows 61 = .ok (.iconst 0, 1) := by decide +kernel
theorem dX8_grows_62 : decode cX8_grows 62 = .ok (.istore_n 1, 1) := by decide +kernel
theorem dX8_grows_63 : decode cX8_grows 63 = .ok (.iload_n 1, 1) := by decide +kernel
theorem dX8_grows_64 : decode cX8_grows 64 = .ok (.aload_n 0, 1) := by decide +kernel
theorem dX8_grows_65 : decode cX8_grows 65 = .ok (.getfield 123, 3) := by decide +kernel
theorem dX8_grows_68 : decode cX8_grows 68 = .ok (.if_icmp .ge 21, 3) := by decide +kernel
theorem dX8_grows_71 : decode cX8_grows 71 = .ok (.aload_n 0, 1) := by decide +kernel
theorem dX8_grows_72 : decode cX8_grows 72 = .ok (.getfield 42, 3) := by decide +kernel
theorem dX8_grows_75 : decode cX8_grows 75 = .ok (.iload_n 1, 1) := by decide +kernel
theorem dX8_grows_76 : decode cX8_grows 76 = .ok (.aload_n 0, 1) := by decide +kernel
theorem dX8_grows_77 : decode cX8_grows 77 = .ok (.getfield 29, 3) := by decide +kernel
theorem dX8_grows_80 : decode cX8_grows 80 = .ok (.iload_n 1, 1) := by decide +kernel
theorem dX8_grows_81 : decode cX8_grows 81 = .ok (.iaload, 1) := by decide +kernel
theorem dX8_grows_82 : decode cX8_grows 82 = .ok (.iastore, 1) := by decide +kernel
theorem dX8_grows_83 : decode cX8_grows 83 = .ok (.iinc 1 1, 3) := by decide +kernel
theorem dX8_grows_86 : decode cX8_grows 86 = .ok (.goto (-23), 3) := by decide +kernel
theorem dX8_grows_89 : decode cX8_grows 89 = .ok (.aload_n 0, 1) := by decide +kernel
theorem dX8_grows_90 : decode cX8_grows 90 = .ok (.iconst 0, 1) := by decide +kernel
theorem dX8_grows_91 : decode cX8_grows 91 = .ok (.putfield 374, 3) := by decide +kernel
theorem dX8_grows_94 : decode cX8_grows 94 = .ok (.aload_n 0, 1) := by decide +kernel
theorem dX8_grows_95 : decode cX8_grows 95 = .ok (.getfield 32, 3) := by decide +kernel
theorem dX8_grows_98 : decode cX8_grows 98 = .ok (.iconst 0, 1) := by decide +kernel
theorem dX8_grows_99 : decode cX8_grows 99 = .ok (.aload_n 0, 1) := by decide +kernel
theorem dX8_grows_100 : decode cX8_grows 100 = .ok (.invokevirtual 377, 3) := by decide +kernel
theorem dX8_grows_103 : decode cX8_grows 103 = .ok (.iastore, 1) := by decide +kernel
theorem dX8_grows_104 : decode cX8_grows 104 = .ok (.aload_n 0, 1) := by decide +kernel
theorem dX8_grows_105 : decode cX8_grows 105 = .ok (.getfield 35, 3) := by decide +kernel
theorem dX8_grows_108 : decode cX8_grows 108 = .ok (.iconst 0, 1) := by decide +kernel
theorem dX8_grows_109 : decode cX8_grows 109 = .ok (.iconst 0, 1) := by decide +kernel
theorem dX8_grows_110 : decode cX8_grows 110 = .ok (.iastore, 1) := by decide +kernel
theorem dX8_grows_111 : decode cX8_grows 111 = .ok (.aload_n 0, 1) := by decide +kernel
theorem dX8_grows_112 : decode cX8_grows 112 = .ok (.iconst 1, 1) := by decide +kernel
theorem dX8_grows_113 : decode cX8_grows 113 = .ok (.putfield 371, 3) := by decide +kernel
theorem dX8_grows_116 : decode cX8_grows 116 = .ok (.iconst 0, 1) := by decide +kernel
theorem dX8_grows_117 : decode cX8_grows 117 = .ok (.istore_n 1, 1) := by decide +kernel
theorem dX8_grows_118 : decode cX8_grows 118 = .ok (.iload_n 1, 1) := by decide +kernel
theorem dX8_grows_119 : decode cX8_grows 119 = .ok (.aload_n 0, 1) := by decide +kernel
theorem dX8_grows_120 : decode cX8_grows 120 = .ok (.getfield 371, 3) := by decide +kernel
theorem dX8_grows_123 : decode cX8_grows 123 = .ok (.if_icmp .ge 171, 3) := by decide +kernel
theorem dX8_grows_126 : decode cX8_grows 126 = .ok (.aload_n 0, 1) := by decide +kernel
theorem dX8_grows_127 : decode cX8_grows 127 = .ok (.aload_n 0, 1) := by decide +kernel
theorem dX8_grows_128 : decode cX8_grows 128 = .ok (.getfield 32, 3) := by decide +kernel
theorem dX8_grows_131 : decode cX8_grows 131 = .ok (.iload_n 1, 1) := by decide +kernel
theorem dX8_grows_132 : decode cX8_grows 132 = .ok (.iaload, 1) := by decide +kernel
theorem dX8_grows_133 : decode cX8_grows 133 = .ok (.invokevirtual 380, 3) := by decide +kernel
theorem dX8_grows_136 : decode cX8_grows 136 = .ok (.iconst 1, 1) := by decide +kernel
theorem dX8_grows_137 : decode cX8_grows 137 = .ok (.istore_n 2, 1) := by decide +kernel
theorem dX8_grows_138 : decode cX8_grows 138 = .ok (.iload_n 2, 1) := by decide +kernel
theorem dX8_grows_139 : decode cX8_grows 139 = .ok (.aload_n 0, 1) := by decide +kernel
theorem dX8_grows_140 : decode cX8_grows 140 = .ok (.getfield 123, 3) := by decide +kernel
theorem dX8_grows_143 : decode cX8_grows 143 = .ok (.if_icmp .ge 145, 3) := by decide +kernel
theorem dX8_grows_146 : decode cX8_grows 146 = .ok (.iload_n 2, 1) := by decide +kernel
theorem dX8_grows_147 : decode cX8_grows 147 = .ok (.iconst 1, 1) := by decide +kernel
theorem dX8_grows_148 : decode cX8_grows 148 = .ok (.if_icmp .gt 16, 3) := by decide +kernel
theorem dX8_grows_151 : decode cX8_grows 151 = .ok (.aload_n 0, 1) := by decide +kernel
theorem dX8_grows_152 : decode cX8_grows 152 = .ok (.aload_n 0, 1) := by decide +kernel
theorem dX8_grows_153 : decode cX8_grows 153 = .ok (.getfield 42, 3) := by decide +kernel
theorem dX8_grows_156 : decode cX8_grows 156 = .ok (.iconst 0, 1) := by decide +kernel
theorem dX8_grows_157 : decode cX8_grows 157 = .ok (.iaload, 1) := by decide +kernel
theorem dX8_grows_158 : decode cX8_grows 158 = .ok (.invokevirtual 362, 3) := by decide +kernel
theorem dX8_grows_161 : decode cX8_grows 161 = .ok (.ifCond .ne 32, 3) := by decide +kernel
theorem dX8_grows_164 : decode cX8_grows 164 = .ok (.aload_n 0, 1) := by decide +kernel
theorem dX8_grows_165 : decode cX8_grows 165 = .ok (.getfield 38, 3) := by decide +kernel
theorem dX8_grows_168 : decode cX8_grows 168 = .ok (.iconst 5, 1) := by decide +kernel
theorem dX8_grows_169 : decode cX8_grows 169 = .ok (.aload_n 0, 1) := by decide +kernel
theorem dX8_grows_170 : decode cX8_grows 170 = .ok (.getfield 42, 3) := by decide +kernel
theorem dX8_grows_173 : decode cX8_grows 173 = .ok (.iload_n 2, 1) := by decide +kernel
theorem dX8_grows_174 : decode cX8_grows 174 = .ok (.iconst 1, 1) := by decide +kernel
theorem dX8_grows_175 : decode cX8_grows 175 = .ok (.isub, 1) := by decide +kernel
theorem dX8_grows_176 : decode cX8_grows 176 = .ok (.iaload, 1) := by decide +kernel
theorem dX8_grows_177 : decode cX8_grows 177 = .ok (.imul, 1) := by decide +kernel
theorem dX8_grows_178 : decode cX8_grows 178 = .ok (.aload_n 0, 1) := by decide +kernel
theorem dX8_grows_179 : decode cX8_grows 179 = .ok (.getfield 42, 3) := by decide +kernel
theorem dX8_grows_182 : decode cX8_grows 182 = .ok (.iload_n 2, 1) := by decide +kernel
theorem dX8_grows_183 : decode cX8_grows 183 = .ok (.iaload, 1) := by decide +kernel
theorem dX8_grows_184 : decode cX8_grows 184 = .ok (.iadd, 1) := by decide +kernel
theorem dX8_grows_185 : decode cX8_grows 185 = .ok (.baload, 1) := by decide +kernel
theorem dX8_grows_186 : decode cX8_grows 186 = .ok (.ifCond .ne 7, 3) := by decide +kernel
theorem dX8_grows_189 : decode cX8_grows 189 = .ok (.iconst 1, 1) := by decide +kernel
theorem dX8_grows_190 : decode cX8_grows 190 = .ok (.goto 4, 3) := by decide +kernel
theorem dX8_grows_193 : decode cX8_grows 193 = .ok (.iconst 0, 1) := by decide +kernel
theorem dX8_grows_194 : decode cX8_grows 194 = .ok (.istore_n 3, 1) := by decide +kernel
theorem dX8_grows_195 : decode cX8_grows 195 = .ok (.iload_n 3, 1) := by decide +kernel
theorem dX8_grows_196 : decode cX8_grows 196 = .ok (.ifCond .eq 86, 3) := by decide +kernel
theorem dX8_grows_199 : decode cX8_grows 199 = .ok (.aload_n 0, 1) := by decide +kernel
theorem dX8_grows_200 : decode cX8_grows 200 = .ok (.dup, 1) := by decide +kernel
theorem dX8_grows_201 : decode cX8_grows 201 = .ok (.getfield 374, 3) := by decide +kernel
theorem dX8_grows_204 : decode cX8_grows 204 = .ok (.iconst 1, 1) := by decide +kernel
theorem dX8_grows_205 : decode cX8_grows 205 = .ok (.aload_n 0, 1) := by decide +kernel
theorem dX8_grows_206 : decode cX8_grows 206 = .ok (.getfield 42, 3) := by decide +kernel
theorem dX8_grows_209 : decode cX8_grows 209 = .ok (.iload_n 2, 1) := by decide +kernel
theorem dX8_grows_210 : decode cX8_grows 210 = .ok (.iconst 1, 1) := by decide +kernel
theorem dX8_grows_211 : decode cX8_grows 211 = .ok (.isub, 1) := by decide +kernel
theorem dX8_grows_212 : decode cX8_grows 212 = .ok (.iaload, 1) := by decide +kernel
theorem dX8_grows_213 : decode cX8_grows 213 = .ok (.ishl, 1) := by decide +kernel
theorem dX8_grows_214 : decode cX8_grows 214 = .ok (.ior, 1) := by decide +kernel
theorem dX8_grows_215 : decode cX8_grows 215 = .ok (.putfield 374, 3) := by decide +kernel
theorem dX8_grows_218 : decode cX8_grows 218 = .ok (.aload_n 0, 1) := by decide +kernel
theorem dX8_grows_219 : decode cX8_grows 219 = .ok (.iload_n 2, 1) := by decide +kernel
theorem dX8_grows_220 : decode cX8_grows 220 = .ok (.invokevirtual 384, 3) := by decide +kernel
theorem dX8_grows_223 : decode cX8_grows 223 = .ok (.aload_n 0, 1) := by decide +kernel
theorem dX8_grows_224 : decode cX8_grows 224 = .ok (.invokevirtual 377, 3) := by decide +kernel
theorem dX8_grows_227 : decode cX8_grows 227 = .ok (.istore 4, 2) := by decide +kernel
theorem dX8_grows_229 : decode cX8_grows 229 = .ok (.aload_n 0, 1) := by decide +kernel
theorem dX8_grows_230 : decode cX8_grows 230 = .ok (.iload_n 2, 1) := by decide +kernel
theorem dX8_grows_231 : decode cX8_grows 231 = .ok (.invokevirtual 384, 3) := by decide +kernel
theorem dX8_grows_234 : decode cX8_grows 234 = .ok (.aload_n 0, 1) := by decide +kernel
theorem dX8_grows_235 : decode cX8_grows 235 = .ok (.iload 4, 2) := by decide +kernel
theorem dX8_grows_237 : decode cX8_grows 237 = .ok (.invokevirtual 387, 3) := by decide +kernel
theorem dX8_grows_240 : decode cX8_grows 240 = .ok (.iconst (-1), 1) := by decide +kernel
theorem dX8_grows_241 : decode cX8_grows 241 = .ok (.if_icmp .ne 41, 3) := by decide +kernel
theorem dX8_grows_244 : decode cX8_grows 244 = .ok (.aload_n 0, 1) := by decide +kernel
theorem dX8_grows_245 : decode cX8_grows 245 = .ok (.getfield 32, 3) := by decide +kernel
theorem dX8_grows_248 : decode cX8_grows 248 = .ok (.aload_n 0, 1) := by decide +kernel
theorem dX8_grows_249 : decode cX8_grows 249 = .ok (.getfield 371, 3) := by decide +kernel
theorem dX8_grows_252 : decode cX8_grows 252 = .ok (.iload 4, 2) := by decide +kernel
theorem dX8_grows_254 : decode cX8_grows 254 = .ok (.iastore, 1) := by decide +kernel
theorem dX8_grows_255 : decode cX8_grows 255 = .ok (.aload_n 0, 1) := by decide +kernel
theorem dX8_grows_256 : decode cX8_grows 256 = .ok (.getfield 35, 3) := by decide +kernel
theorem dX8_grows_259 : decode cX8_grows 259 = .ok (.aload_n 0, 1) := by decide +kernel
theorem dX8_grows_260 : decode cX8_grows 260 = .ok (.getfield 371, 3) := by decide +kernel
theorem dX8_grows_263 : decode cX8_grows 263 = .ok (.aload_n 0, 1) := by decide +kernel
theorem dX8_grows_264 : decode cX8_grows 264 = .ok (.getfield 35, 3) := by decide +kernel
theorem dX8_grows_267 : decode cX8_grows 267 = .ok (.iload_n 1, 1) := by decide +kernel
theorem dX8_grows_268 : decode cX8_grows 268 = .ok (.iaload, 1) := by decide +kernel
theorem dX8_grows_269 : decode cX8_grows 269 = .ok (.iconst 1, 1) := by decide +kernel
theorem dX8_grows_270 : decode cX8_grows 270 = .ok (.iadd, 1) := by decide +kernel
theorem dX8_grows_271 : decode cX8_grows 271 = .ok (.iastore, 1) := by decide +kernel
theorem dX8_grows_272 : decode cX8_grows 272 = .ok (.aload_n 0, 1) := by decide +kernel
theorem dX8_grows_273 : decode cX8_grows 273 = .ok (.dup, 1) := by decide +kernel
theorem dX8_grows_274 : decode cX8_grows 274 = .ok (.getfield 371, 3) := by decide +kernel
theorem dX8_grows_277 : decode cX8_grows 277 = .ok (.iconst 1, 1) := by decide +kernel
theorem dX8_grows_278 : decode cX8_grows 278 = .ok (.iadd, 1) := by decide +kernel
theorem dX8_grows_279 : decode cX8_grows 279 = .ok (.putfield 371, 3) := by decide +kernel
theorem dX8_grows_282 : decode cX8_grows 282 = .ok (.iinc 2 1, 3) := by decide +kernel
theorem dX8_grows_285 : decode cX8_grows 285 = .ok (.goto (-147), 3) := by decide +kernel
theorem dX8_grows_288 : decode cX8_grows 288 = .ok (.iinc 1 1, 3) := by decide +kernel
theorem dX8_grows_291 : decode cX8_grows 291 = .ok (.goto (-173), 3) := by decide +kernel
theorem dX8_grows_294 : decode cX8_grows 294 = .ok (.return_, 1) := by decide +kernel
theorem dX8_weighs_0 : decode cX8_weighs 0 = .ok (.iconst 0, 1) := by decide +kernel
theorem dX8_weighs_1 : decode cX8_weighs 1 = .ok (.istore_n 1, 1) := by decide +kernel
theorem dX8_weighs_2 : decode cX8_weighs 2 = .ok (.iload_n 1, 1) := by decide +kernel
theorem dX8_weighs_3 : decode cX8_weighs 3 = .ok (.aload_n 0, 1) := by decide +kernel
theorem dX8_weighs_4 : decode cX8_weighs 4 = .ok (.getfield 88, 3) := by decide +kernel
theorem dX8_weighs_7 : decode cX8_weighs 7 = .ok (.if_icmp .ge 31, 3) := by decide +kernel
theorem dX8_weighs_10 : decode cX8_weighs 10 = .ok (.aload_n 0, 1) := by decide +kernel
theorem dX8_weighs_11 : decode cX8_weighs 11 = .ok (.getfield 45, 3) := by decide +kernel
theorem dX8_weighs_14 : decode cX8_weighs 14 = .ok (.iload_n 1, 1) := by decide +kernel
theorem dX8_weighs_15 : decode cX8_weighs 15 = .ok (.aload_n 0, 1) := by decide +kernel
theorem dX8_weighs_16 : decode cX8_weighs 16 = .ok (.iload_n 1, 1) := by decide +kernel
theorem dX8_weighs_17 : decode cX8_weighs 17 = .ok (.invokevirtual 135, 3) := by decide +kernel
theorem dX8_weighs_20 : decode cX8_weighs 20 = .ok (.iastore, 1) := by decide +kernel
theorem dX8_weighs_21 : decode cX8_weighs 21 = .ok (.aload_n 0, 1) := by decide +kernel
theorem dX8_weighs_22 : decode cX8_weighs 22 = .ok (.getfield 48, 3) := by decide +kernel
theorem dX8_weighs_25 : decode cX8_weighs 25 = .ok (.iload_n 1, 1) := by decide +kernel
theorem dX8_weighs_26 : decode cX8_weighs 26 = .ok (.aload_n 0, 1) := by decide +kernel
theorem dX8_weighs_27 : decode cX8_weighs 27 = .ok (.iload_n 1, 1) := by decide +kernel
theorem dX8_weighs_28 : decode cX8_weighs 28 = .ok (.invokevirtual 138, 3) := by decide +kernel
theorem dX8_weighs_31 : decode cX8_weighs 31 = .ok (.iastore, 1) := by decide +kernel
theorem dX8_weighs_32 : decode cX8_weighs 32 = .ok (.iinc 1 1, 3) := by decide +kernel
theorem dX8_weighs_35 : decode cX8_weighs 35 = .ok (.goto (-33), 3) := by decide +kernel
theorem dX8_weighs_38 : decode cX8_weighs 38 = .ok (.return_, 1) := by decide +kernel
theorem dX8_waitOf_0 : decode cX8_waitOf 0 = .ok (.aload_n 0, 1) := by decide +kernel
theorem dX8_waitOf_1 : decode cX8_waitOf 1 = .ok (.iload_n 1, 1) := by decide +kernel
theorem dX8_waitOf_2 : decode cX8_waitOf 2 = .ok (.invokevirtual 380, 3) := by decide +kernel
theorem dX8_waitOf_5 : decode cX8_waitOf 5 = .ok (.iconst 0, 1) := by decide +kernel
theorem dX8_waitOf_6 : decode cX8_waitOf 6 = .ok (.istore_n 2, 1) := by decide +kernel
theorem dX8_waitOf_7 : decode cX8_waitOf 7 = .ok (.iconst 0, 1) := by decide +kernel
theorem dX8_waitOf_8 : decode cX8_waitOf 8 = .ok (.istore_n 3, 1) := by decide +kernel
theorem dX8_waitOf_9 : decode cX8_waitOf 9 = .ok (.iconst 0, 1) := by decide +kernel
theorem dX8_waitOf_10 : decode cX8_waitOf 10 = .ok (.istore 4, 2) := by decide +kernel
theorem dX8_waitOf_12 : decode cX8_waitOf 12 = .ok (.iload 4, 2) := by decide +kernel
theorem dX8_waitOf_14 : decode cX8_waitOf 14 = .ok (.aload_n 0, 1) := by decide +kernel
theorem dX8_waitOf_15 : decode cX8_waitOf 15 = .ok (.getfield 123, 3) := by decide +kernel
theorem dX8_waitOf_18 : decode cX8_waitOf 18 = .ok (.if_icmp .ge 81, 3) := by decide +kernel
theorem dX8_waitOf_21 : decode cX8_waitOf 21 = .ok (.aload_n 0, 1) := by decide +kernel
theorem dX8_waitOf_22 : decode cX8_waitOf 22 = .ok (.getfield 42, 3) := by decide +kernel
theorem dX8_waitOf_25 : decode cX8_waitOf 25 = .ok (.iload 4, 2) := by decide +kernel
theorem dX8_waitOf_27 : decode cX8_waitOf 27 = .ok (.iaload, 1) := by decide +kernel
theorem dX8_waitOf_28 : decode cX8_waitOf 28 = .ok (.istore 5, 2) := by decide +kernel
theorem dX8_waitOf_30 : decode cX8_waitOf 30 = .ok (.iload_n 2, 1) := by decide +kernel
theorem dX8_waitOf_31 : decode cX8_waitOf 31 = .ok (.iload_n 3, 1) := by decide +kernel
theorem dX8_waitOf_32 : decode cX8_waitOf 32 = .ok (.aload_n 0, 1) := by decide +kernel
theorem dX8_waitOf_33 : decode cX8_waitOf 33 = .ok (.getfield 48, 3) := by decide +kernel
theorem dX8_waitOf_36 : decode cX8_waitOf 36 = .ok (.iload 5, 2) := by decide +kernel
theorem dX8_waitOf_38 : decode cX8_waitOf 38 = .ok (.iaload, 1) := by decide +kernel
theorem dX8_waitOf_39 : decode cX8_waitOf 39 = .ok (.imul, 1) := by decide +kernel
theorem dX8_waitOf_40 : decode cX8_waitOf 40 = .ok (.iadd, 1) := by decide +kernel
theorem dX8_waitOf_41 : decode cX8_waitOf 41 = .ok (.istore_n 2, 1) := by decide +kernel
theorem dX8_waitOf_42 : decode cX8_waitOf 42 = .ok (.iload 4, 2) := by decide +kernel
theorem dX8_waitOf_44 : decode cX8_waitOf 44 = .ok (.ifCond .ne 25, 3) := by decide +kernel
theorem dX8_waitOf_47 : decode cX8_waitOf 47 = .ok (.aload_n 0, 1) := by decide +kernel
theorem dX8_waitOf_48 : decode cX8_waitOf 48 = .ok (.getfield 45, 3) := by decide +kernel
theorem dX8_waitOf_51 : decode cX8_waitOf 51 = .ok (.iload 5, 2) := by decide +kernel
theorem dX8_waitOf_53 : decode cX8_waitOf 53 = .ok (.iaload, 1) := by decide +kernel
theorem dX8_waitOf_54 : decode cX8_waitOf 54 = .ok (.aload_n 0, 1) := by decide +kernel
theorem dX8_waitOf_55 : decode cX8_waitOf 55 = .ok (.getfield 26, 3) := by decide +kernel
theorem dX8_waitOf_58 : decode cX8_waitOf 58 = .ok (.iconst 4, 1) := by decide +kernel
theorem dX8_waitOf_59 : decode cX8_waitOf 59 = .ok (.iload 5, 2) := by decide +kernel
theorem dX8_waitOf_61 : decode cX8_waitOf 61 = .ok (.imul, 1) := by decide +kernel
theorem dX8_waitOf_62 : decode cX8_waitOf 62 = .ok (.iconst 3, 1) := by decide +kernel
theorem dX8_waitOf_63 : decode cX8_waitOf 63 = .ok (.iadd, 1) := by decide +kernel
theorem dX8_waitOf_64 : decode cX8_waitOf 64 = .ok (.iaload, 1) := by decide +kernel
theorem dX8_waitOf_65 : decode cX8_waitOf 65 = .ok (.isub, 1) := by decide +kernel
theorem dX8_waitOf_66 : decode cX8_waitOf 66 = .ok (.goto 10, 3) := by decide +kernel
theorem dX8_waitOf_69 : decode cX8_waitOf 69 = .ok (.aload_n 0, 1) := by decide +kernel
theorem dX8_waitOf_70 : decode cX8_waitOf 70 = .ok (.getfield 45, 3) := by decide +kernel
theorem dX8_waitOf_73 : decode cX8_waitOf 73 = .ok (.iload 5, 2) := by decide +kernel
theorem dX8_waitOf_75 : decode cX8_waitOf 75 = .ok (.iaload, 1) := by decide +kernel
theorem dX8_waitOf_76 : decode cX8_waitOf 76 = .ok (.istore 6, 2) := by decide +kernel
theorem dX8_waitOf_78 : decode cX8_waitOf 78 = .ok (.iload_n 3, 1) := by decide +kernel
theorem dX8_waitOf_79 : decode cX8_waitOf 79 = .ok (.iload 6, 2) := by decide +kernel
theorem dX8_waitOf_81 : decode cX8_waitOf 81 = .ok (.iconst 1, 1) := by decide +kernel
theorem dX8_waitOf_82 : decode cX8_waitOf 82 = .ok (.if_icmp .ge 7, 3) := by decide +kernel
theorem dX8_waitOf_85 : decode cX8_waitOf 85 = .ok (.iconst 1, 1) := by decide +kernel
theorem dX8_waitOf_86 : decode cX8_waitOf 86 = .ok (.goto 5, 3) := by decide +kernel
theorem dX8_waitOf_89 : decode cX8_waitOf 89 = .ok (.iload 6, 2) := by decide +kernel
theorem dX8_waitOf_91 : decode cX8_waitOf 91 = .ok (.iadd, 1) := by decide +kernel
theorem dX8_waitOf_92 : decode cX8_waitOf 92 = .ok (.istore_n 3, 1) := by decide +kernel
theorem dX8_waitOf_93 : decode cX8_waitOf 93 = .ok (.iinc 4 1, 3) := by decide +kernel
theorem dX8_waitOf_96 : decode cX8_waitOf 96 = .ok (.goto (-84), 3) := by decide +kernel
theorem dX8_waitOf_99 : decode cX8_waitOf 99 = .ok (.iload_n 2, 1) := by decide +kernel
theorem dX8_waitOf_100 : decode cX8_waitOf 100 = .ok (.ireturn, 1) := by decide +kernel
theorem dX8_bestAt_0 : decode cX8_bestAt 0 = .ok (.aload_n 0, 1) := by decide +kernel
theorem dX8_bestAt_1 : decode cX8_bestAt 1 = .ok (.invokevirtual 390, 3) := by decide +kernel
theorem dX8_bestAt_4 : decode cX8_bestAt 4 = .ok (.iconst 0, 1) := by decide +kernel
theorem dX8_bestAt_5 : decode cX8_bestAt 5 = .ok (.istore_n 1, 1) := by decide +kernel
theorem dX8_bestAt_6 : decode cX8_bestAt 6 = .ok (.iconst 1, 1) := by decide +kernel
theorem dX8_bestAt_7 : decode cX8_bestAt 7 = .ok (.istore_n 2, 1) := by decide +kernel
theorem dX8_bestAt_8 : decode cX8_bestAt 8 = .ok (.iload_n 2, 1) := by decide +kernel
theorem dX8_bestAt_9 : decode cX8_bestAt 9 = .ok (.aload_n 0, 1) := by decide +kernel
theorem dX8_bestAt_10 : decode cX8_bestAt 10 = .ok (.getfield 371, 3) := by decide +kernel
theorem dX8_bestAt_13 : decode cX8_bestAt 13 = .ok (.if_icmp .ge 107, 3) := by decide +kernel
theorem dX8_bestAt_16 : decode cX8_bestAt 16 = .ok (.aload_n 0, 1) := by decide +kernel
theorem dX8_bestAt_17 : decode cX8_bestAt 17 = .ok (.aload_n 0, 1) := by decide +kernel
theorem dX8_bestAt_18 : decode cX8_bestAt 18 = .ok (.getfield 32, 3) := by decide +kernel
theorem dX8_bestAt_21 : decode cX8_bestAt 21 = .ok (.iload_n 2, 1) := by decide +kernel
theorem dX8_bestAt_22 : decode cX8_bestAt 22 = .ok (.iaload, 1) := by decide +kernel
theorem dX8_bestAt_23 : decode cX8_bestAt 23 = .ok (.invokevirtual 393, 3) := by decide +kernel
theorem dX8_bestAt_26 : decode cX8_bestAt 26 = .ok (.istore_n 3, 1) := by decide +kernel
theorem dX8_bestAt_27 : decode cX8_bestAt 27 = .ok (.aload_n 0, 1) := by decide +kernel
theorem dX8_bestAt_28 : decode cX8_bestAt 28 = .ok (.aload_n 0, 1) := by decide +kernel
theorem dX8_bestAt_29 : decode cX8_bestAt 29 = .ok (.getfield 32, 3) := by decide +kernel
theorem dX8_bestAt_32 : decode cX8_bestAt 32 = .ok (.iload_n 1, 1) := by decide +kernel
theorem dX8_bestAt_33 : decode cX8_bestAt 33 = .ok (.iaload, 1) := by decide +kernel
theorem dX8_bestAt_34 : decode cX8_bestAt 34 = .ok (.invokevirtual 393, 3) := by decide +kernel
theorem dX8_bestAt_37 : decode cX8_bestAt 37 = .ok (.istore 4, 2) := by decide +kernel
theorem dX8_bestAt_39 : decode cX8_bestAt 39 = .ok (.iload_n 3, 1) := by decide +kernel
theorem dX8_bestAt_40 : decode cX8_bestAt 40 = .ok (.iload 4, 2) := by decide +kernel
theorem dX8_bestAt_42 : decode cX8_bestAt 42 = .ok (.if_icmp .lt 54, 3) := by decide +kernel
theorem dX8_bestAt_45 : decode cX8_bestAt 45 = .ok (.iload_n 3, 1) := by decide +kernel
theorem dX8_bestAt_46 : decode cX8_bestAt 46 = .ok (.iload 4, 2) := by decide +kernel
theorem dX8_bestAt_48 : decode cX8_bestAt 48 = .ok (.if_icmp .ne 52, 3) := by decide +kernel
theorem dX8_bestAt_51 : decode cX8_bestAt 51 = .ok (.aload_n 0, 1) := by decide +kernel
theorem dX8_bestAt_52 : decode cX8_bestAt 52 = .ok (.getfield 35, 3) := by decide +kernel
theorem dX8_bestAt_55 : decode cX8_bestAt 55 = .ok (.iload_n 2, 1) := by decide +kernel
theorem dX8_bestAt_56 : decode cX8_bestAt 56 = .ok (.iaload, 1) := by decide +kernel
theorem dX8_bestAt_57 : decode cX8_bestAt 57 = .ok (.aload_n 0, 1) := by decide +kernel
theorem dX8_bestAt_58 : decode cX8_bestAt 58 = .ok (.getfield 35, 3) := by decide +kernel
theorem dX8_bestAt_61 : decode cX8_bestAt 61 = .ok (.iload_n 1, 1) := by decide +kernel
theorem dX8_bestAt_62 : decode cX8_bestAt 62 = .ok (.iaload, 1) := by decide +kernel
theorem dX8_bestAt_63 : decode cX8_bestAt 63 = .ok (.if_icmp .lt 33, 3) := by decide +kernel
theorem dX8_bestAt_66 : decode cX8_bestAt 66 = .ok (.aload_n 0, 1) := by decide +kernel
theorem dX8_bestAt_67 : decode cX8_bestAt 67 = .ok (.getfield 35, 3) := by decide +kernel
theorem dX8_bestAt_70 : decode cX8_bestAt 70 = .ok (.iload_n 2, 1) := by decide +kernel
theorem dX8_bestAt_71 : decode cX8_bestAt 71 = .ok (.iaload, 1) := by decide +kernel
theorem dX8_bestAt_72 : decode cX8_bestAt 72 = .ok (.aload_n 0, 1) := by decide +kernel
theorem dX8_bestAt_73 : decode cX8_bestAt 73 = .ok (.getfield 35, 3) := by decide +kernel
theorem dX8_bestAt_76 : decode cX8_bestAt 76 = .ok (.iload_n 1, 1) := by decide +kernel
theorem dX8_bestAt_77 : decode cX8_bestAt 77 = .ok (.iaload, 1) := by decide +kernel
theorem dX8_bestAt_78 : decode cX8_bestAt 78 = .ok (.if_icmp .ne 22, 3) := by decide +kernel
theorem dX8_bestAt_81 : decode cX8_bestAt 81 = .ok (.aload_n 0, 1) := by decide +kernel
theorem dX8_bestAt_82 : decode cX8_bestAt 82 = .ok (.getfield 32, 3) := by decide +kernel
theorem dX8_bestAt_85 : decode cX8_bestAt 85 = .ok (.iload_n 2, 1) := by decide +kernel
theorem dX8_bestAt_86 : decode cX8_bestAt 86 = .ok (.iaload, 1) := by decide +kernel
theorem dX8_bestAt_87 : decode cX8_bestAt 87 = .ok (.aload_n 0, 1) := by decide +kernel
theorem dX8_bestAt_88 : decode cX8_bestAt 88 = .ok (.getfield 32, 3) := by decide +kernel
theorem dX8_bestAt_91 : decode cX8_bestAt 91 = .ok (.iload_n 1, 1) := by decide +kernel
theorem dX8_bestAt_92 : decode cX8_bestAt 92 = .ok (.iaload, 1) := by decide +kernel
theorem dX8_bestAt_93 : decode cX8_bestAt 93 = .ok (.if_icmp .ge 7, 3) := by decide +kernel
theorem dX8_bestAt_96 : decode cX8_bestAt 96 = .ok (.iconst 1, 1) := by decide +kernel
theorem dX8_bestAt_97 : decode cX8_bestAt 97 = .ok (.goto 4, 3) := by decide +kernel
theorem dX8_bestAt_100 : decode cX8_bestAt 100 = .ok (.iconst 0, 1) := by decide +kernel
theorem dX8_bestAt_101 : decode cX8_bestAt 101 = .ok (.istore 5, 2) := by decide +kernel
theorem dX8_bestAt_103 : decode cX8_bestAt 103 = .ok (.iload 5, 2) := by decide +kernel
theorem dX8_bestAt_105 : decode cX8_bestAt 105 = .ok (.ifCond .eq 7, 3) := by decide +kernel
theorem dX8_bestAt_108 : decode cX8_bestAt 108 = .ok (.iload_n 2, 1) := by decide +kernel
theorem dX8_bestAt_109 : decode cX8_bestAt 109 = .ok (.goto 4, 3) := by decide +kernel
theorem dX8_bestAt_112 : decode cX8_bestAt 112 = .ok (.iload_n 1, 1) := by decide +kernel
theorem dX8_bestAt_113 : decode cX8_bestAt 113 = .ok (.istore_n 1, 1) := by decide +kernel
theorem dX8_bestAt_114 : decode cX8_bestAt 114 = .ok (.iinc 2 1, 3) := by decide +kernel
theorem dX8_bestAt_117 : decode cX8_bestAt 117 = .ok (.goto (-109), 3) := by decide +kernel
theorem dX8_bestAt_120 : decode cX8_bestAt 120 = .ok (.iload_n 1, 1) := by decide +kernel
theorem dX8_bestAt_121 : decode cX8_bestAt 121 = .ok (.ireturn, 1) := by decide +kernel
theorem dX8_lineSet_0 : decode cX8_lineSet 0 = .ok (.iconst 0, 1) := by decide +kernel
theorem dX8_lineSet_1 : decode cX8_lineSet 1 = .ok (.istore_n 1, 1) := by decide +kernel
theorem dX8_lineSet_2 : decode cX8_lineSet 2 = .ok (.iconst 0, 1) := by decide +kernel
theorem dX8_lineSet_3 : decode cX8_lineSet 3 = .ok (.istore_n 2, 1) := by decide +kernel
theorem dX8_lineSet_4 : decode cX8_lineSet 4 = .ok (.iload_n 2, 1) := by decide +kernel
theorem dX8_lineSet_5 : decode cX8_lineSet 5 = .ok (.aload_n 0, 1) := by decide +kernel
theorem dX8_lineSet_6 : decode cX8_lineSet 6 = .ok (.getfield 123, 3) := by decide +kernel
theorem dX8_lineSet_9 : decode cX8_lineSet 9 = .ok (.if_icmp .ge 20, 3) := by decide +kernel
theorem dX8_lineSet_12 : decode cX8_lineSet 12 = .ok (.iload_n 1, 1) := by decide +kernel
theorem dX8_lineSet_13 : decode cX8_lineSet 13 = .ok (.iconst 1, 1) := by decide +kernel
theorem dX8_lineSet_14 : decode cX8_lineSet 14 = .ok (.aload_n 0, 1) := by decide +kernel
theorem dX8_lineSet_15 : decode cX8_lineSet 15 = .ok (.getfield 29, 3) := by decide +kernel
theorem dX8_lineSet_18 : decode cX8_lineSet 18 = .ok (.iload_n 2, 1) := by decide +kernel
theorem dX8_lineSet_19 : decode cX8_lineSet 19 = .ok (.iaload, 1) := by decide +kernel
theorem dX8_lineSet_20 : decode cX8_lineSet 20 = .ok (.ishl, 1) := by decide +kernel
theorem dX8_lineSet_21 : decode cX8_lineSet 21 = .ok (.ior, 1) := by decide +kernel
theorem dX8_lineSet_22 : decode cX8_lineSet 22 = .ok (.istore_n 1, 1) := by decide +kernel
theorem dX8_lineSet_23 : decode cX8_lineSet 23 = .ok (.iinc 2 1, 3) := by decide +kernel
theorem dX8_lineSet_26 : decode cX8_lineSet 26 = .ok (.goto (-22), 3) := by decide +kernel
theorem dX8_lineSet_29 : decode cX8_lineSet 29 = .ok (.iload_n 1, 1) := by decide +kernel
theorem dX8_lineSet_30 : decode cX8_lineSet 30 = .ok (.ireturn, 1) := by decide +kernel
theorem dX8_ringMany_0 : decode cX8_ringMany 0 = .ok (.iconst 0, 1) := by decide +kernel
theorem dX8_ringMany_1 : decode cX8_ringMany 1 = .ok (.istore_n 1, 1) := by decide +kernel
theorem dX8_ringMany_2 : decode cX8_ringMany 2 = .ok (.iconst 0, 1) := by decide +kernel
theorem dX8_ringMany_3 : decode cX8_ringMany 3 = .ok (.istore_n 2, 1) := by decide +kernel
theorem dX8_ringMany_4 : decode cX8_ringMany 4 = .ok (.iload_n 2, 1) := by decide +kernel
theorem dX8_ringMany_5 : decode cX8_ringMany 5 = .ok (.aload_n 0, 1) := by decide +kernel
theorem dX8_ringMany_6 : decode cX8_ringMany 6 = .ok (.getfield 123, 3) := by decide +kernel
theorem dX8_ringMany_9 : decode cX8_ringMany 9 = .ok (.if_icmp .ge 73, 3) := by decide +kernel
theorem dX8_ringMany_12 : decode cX8_ringMany 12 = .ok (.iload_n 2, 1) := by decide +kernel
theorem dX8_ringMany_13 : decode cX8_ringMany 13 = .ok (.iconst 1, 1) := by decide +kernel
theorem dX8_ringMany_14 : decode cX8_ringMany 14 = .ok (.iadd, 1) := by decide +kernel
theorem dX8_ringMany_15 : decode cX8_ringMany 15 = .ok (.istore_n 3, 1) := by decide +kernel
theorem dX8_ringMany_16 : decode cX8_ringMany 16 = .ok (.iload_n 3, 1) := by decide +kernel
theorem dX8_ringMany_17 : decode cX8_ringMany 17 = .ok (.aload_n 0, 1) := by decide +kernel
theorem dX8_ringMany_18 : decode cX8_ringMany 18 = .ok (.getfield 123, 3) := by decide +kernel
theorem dX8_ringMany_21 : decode cX8_ringMany 21 = .ok (.if_icmp .ge 55, 3) := by decide +kernel
theorem dX8_ringMany_24 : decode cX8_ringMany 24 = .ok (.iload_n 1, 1) := by decide +kernel
theorem dX8_ringMany_25 : decode cX8_ringMany 25 = .ok (.aload_n 0, 1) := by decide +kernel
theorem dX8_ringMany_26 : decode cX8_ringMany 26 = .ok (.aload_n 0, 1) := by decide +kernel
theorem dX8_ringMany_27 : decode cX8_ringMany 27 = .ok (.getfield 29, 3) := by decide +kernel
theorem dX8_ringMany_30 : decode cX8_ringMany 30 = .ok (.iload_n 2, 1) := by decide +kernel
theorem dX8_ringMany_31 : decode cX8_ringMany 31 = .ok (.iaload, 1) := by decide +kernel
theorem dX8_ringMany_32 : decode cX8_ringMany 32 = .ok (.aload_n 0, 1) := by decide +kernel
theorem dX8_ringMany_33 : decode cX8_ringMany 33 = .ok (.getfield 29, 3) := by decide +kernel
theorem dX8_ringMany_36 : decode cX8_ringMany 36 = .ok (.iload_n 3, 1) := by decide +kernel
theorem dX8_ringMany_37 : decode cX8_ringMany 37 = .ok (.iaload, 1) := by decide +kernel
theorem dX8_ringMany_38 : decode cX8_ringMany 38 = .ok (.invokevirtual 128, 3) := by decide +kernel
theorem dX8_ringMany_41 : decode cX8_ringMany 41 = .ok (.ifCond .ne 22, 3) := by decide +kernel
theorem dX8_ringMany_44 : decode cX8_ringMany 44 = .ok (.aload_n 0, 1) := by decide +kernel
theorem dX8_ringMany_45 : decode cX8_ringMany 45 = .ok (.aload_n 0, 1) := by decide +kernel
theorem dX8_ringMany_46 : decode cX8_ringMany 46 = .ok (.getfield 29, 3) := by decide +kernel
theorem dX8_ringMany_49 : decode cX8_ringMany 49 = .ok (.iload_n 3, 1) := by decide +kernel
theorem dX8_ringMany_50 : decode cX8_ringMany 50 = .ok (.iaload, 1) := by decide +kernel
theorem dX8_ringMany_51 : decode cX8_ringMany 51 = .ok (.aload_n 0, 1) := by decide +kernel
theorem dX8_ringMany_52 : decode cX8_ringMany 52 = .ok (.getfield 29, 3) := by decide +kernel
theorem dX8_ringMany_55 : decode cX8_ringMany 55 = .ok (.iload_n 2, 1) := by decide +kernel
theorem dX8_ringMany_56 : decode cX8_ringMany 56 = .ok (.iaload, 1) := by decide +kernel
theorem dX8_ringMany_57 : decode cX8_ringMany 57 = .ok (.invokevirtual 128, 3) := by decide +kernel
theorem dX8_ringMany_60 : decode cX8_ringMany 60 = .ok (.ifCond .eq 7, 3) := by decide +kernel
theorem dX8_ringMany_63 : decode cX8_ringMany 63 = .ok (.iconst 0, 1) := by decide +kernel
theorem dX8_ringMany_64 : decode cX8_ringMany 64 = .ok (.goto 4, 3) := by decide +kernel
theorem dX8_ringMany_67 : decode cX8_ringMany 67 = .ok (.iconst 1, 1) := by decide +kernel
theorem dX8_ringMany_68 : decode cX8_ringMany 68 = .ok (.iadd, 1) := by decide +kernel
theorem dX8_ringMany_69 : decode cX8_ringMany 69 = .ok (.istore_n 1, 1) := by decide +kernel
theorem dX8_ringMany_70 : decode cX8_ringMany 70 = .ok (.iinc 3 1, 3) := by decide +kernel
theorem dX8_ringMany_73 : decode cX8_ringMany 73 = .ok (.goto (-57), 3) := by decide +kernel
theorem dX8_ringMany_76 : decode cX8_ringMany 76 = .ok (.iinc 2 1, 3) := by decide +kernel
theorem dX8_ringMany_79 : decode cX8_ringMany 79 = .ok (.goto (-75), 3) := by decide +kernel
theorem dX8_ringMany_82 : decode cX8_ringMany 82 = .ok (.iload_n 1, 1) := by decide +kernel
theorem dX8_ringMany_83 : decode cX8_ringMany 83 = .ok (.ireturn, 1) := by decide +kernel
theorem dX8_orders_0 : decode cX8_orders 0 = .ok (.iload_n 1, 1) := by decide +kernel
theorem dX8_orders_1 : decode cX8_orders 1 = .ok (.i2l, 1) := by decide +kernel
theorem dX8_orders_2 : decode cX8_orders 2 = .ok (.lconst 0, 1) := by decide +kernel
theorem dX8_orders_3 : decode cX8_orders 3 = .ok (.ldc2_w 396, 3) := by decide +kernel
theorem dX8_orders_6 : decode cX8_orders 6 = .ok (.invokestatic 91, 3) := by decide +kernel
theorem dX8_orders_9 : decode cX8_orders 9 = .ok (.ifCond .ne 6, 3) := by decide +kernel
theorem dX8_orders_12 : decode cX8_orders 12 = .ok (.bipush (-2), 2) := by decide +kernel
theorem dX8_orders_14 : decode cX8_orders 14 = .ok (.ireturn, 1) := by decide +kernel
theorem dX8_orders_15 : decode cX8_orders 15 = .ok (.iload_n 1, 1) := by decide +kernel
theorem dX8_orders_16 : decode cX8_orders 16 = .ok (.bipush 6, 2) := by decide +kernel
theorem dX8_orders_18 : decode cX8_orders 18 = .ok (.if_icmp .ne 8, 3) := by decide +kernel
theorem dX8_orders_21 : decode cX8_orders 21 = .ok (.aload_n 0, 1) := by decide +kernel
theorem dX8_orders_22 : decode cX8_orders 22 = .ok (.invokevirtual 398, 3) := by decide +kernel
theorem dX8_orders_25 : decode cX8_orders 25 = .ok (.ireturn, 1) := by decide +kernel
theorem dX8_orders_26 : decode cX8_orders 26 = .ok (.aload_n 0, 1) := by decide +kernel
theorem dX8_orders_27 : decode cX8_orders 27 = .ok (.invokevirtual 401, 3) := by decide +kernel
theorem dX8_orders_30 : decode cX8_orders 30 = .ok (.iload_n 1, 1) := by decide +kernel
theorem dX8_orders_31 : decode cX8_orders 31 = .ok (.ifCond .eq 8, 3) := by decide +kernel
theorem dX8_orders_34 : decode cX8_orders 34 = .ok (.iload_n 1, 1) := by decide +kernel
theorem dX8_orders_35 : decode cX8_orders 35 = .ok (.iconst 5, 1) := by decide +kernel
theorem dX8_orders_36 : decode cX8_orders 36 = .ok (.if_icmp .ne 26, 3) := by decide +kernel
theorem dX8_orders_39 : decode cX8_orders 39 = .ok (.iload_n 1, 1) := by decide +kernel
theorem dX8_orders_40 : decode cX8_orders 40 = .ok (.ifCond .ne 10, 3) := by decide +kernel
theorem dX8_orders_43 : decode cX8_orders 43 = .ok (.aload_n 0, 1) := by decide +kernel
theorem dX8_orders_44 : decode cX8_orders 44 = .ok (.getfield 371, 3) := by decide +kernel
theorem dX8_orders_47 : decode cX8_orders 47 = .ok (.goto 14, 3) := by decide +kernel
theorem dX8_orders_50 : decode cX8_orders 50 = .ok (.aload_n 0, 1) := by decide +kernel
theorem dX8_orders_51 : decode cX8_orders 51 = .ok (.invokevirtual 404, 3) := by decide +kernel
theorem dX8_orders_54 : decode cX8_orders 54 = .ok (.aload_n 0, 1) := by decide +kernel
theorem dX8_orders_55 : decode cX8_orders 55 = .ok (.getfield 374, 3) := by decide +kernel
theorem dX8_orders_58 : decode cX8_orders 58 = .ok (.iconst (-1), 1) := by decide +kernel
theorem dX8_orders_59 : decode cX8_orders 59 = .ok (.ixor, 1) := by decide +kernel
theorem dX8_orders_60 : decode cX8_orders 60 = .ok (.iand, 1) := by decide +kernel
theorem dX8_orders_61 : decode cX8_orders 61 = .ok (.ireturn, 1) := by decide +kernel
theorem dX8_orders_62 : decode cX8_orders 62 = .ok (.iload_n 1, 1) := by decide +kernel
theorem dX8_orders_63 : decode cX8_orders 63 = .ok (.iconst 1, 1) := by decide +kernel
theorem dX8_orders_64 : decode cX8_orders 64 = .ok (.if_icmp .ne 18, 3) := by decide +kernel
theorem dX8_orders_67 : decode cX8_orders 67 = .ok (.aload_n 0, 1) := by decide +kernel
theorem dX8_orders_68 : decode cX8_orders 68 = .ok (.invokevirtual 390, 3) := by decide +kernel
theorem dX8_orders_71 : decode cX8_orders 71 = .ok (.aload_n 0, 1) := by decide +kernel
theorem dX8_orders_72 : decode cX8_orders 72 = .ok (.aload_n 0, 1) := by decide +kernel
theorem dX8_orders_73 : decode cX8_orders 73 = .ok (.getfield 32, 3) := by decide +kernel
theorem dX8_orders_76 : decode cX8_orders 76 = .ok (.iconst 0, 1) := by decide +kernel
theorem dX8_orders_77 : decode cX8_orders 77 = .ok (.iaload, 1) := by decide +kernel
theorem dX8_orders_78 : decode cX8_orders 78 = .ok (.invokevirtual 393, 3) := by decide +kernel
theorem dX8_orders_81 : decode cX8_orders 81 = .ok (.ireturn, 1) := by decide +kernel
theorem dX8_orders_82 : decode cX8_orders 82 = .ok (.aload_n 0, 1) := by decide +kernel
theorem dX8_orders_83 : decode cX8_orders 83 = .ok (.invokevirtual 407, 3) := by decide +kernel
theorem dX8_orders_86 : decode cX8_orders 86 = .ok (.istore_n 2, 1) := by decide +kernel
theorem dX8_orders_87 : decode cX8_orders 87 = .ok (.iload_n 1, 1) := by decide +kernel
theorem dX8_orders_88 : decode cX8_orders 88 = .ok (.iconst 2, 1) := by decide +kernel
theorem dX8_orders_89 : decode cX8_orders 89 = .ok (.if_icmp .ne 12, 3) := by decide +kernel
theorem dX8_orders_92 : decode cX8_orders 92 = .ok (.aload_n 0, 1) := by decide +kernel
theorem dX8_orders_93 : decode cX8_orders 93 = .ok (.getfield 32, 3) := by decide +kernel
theorem dX8_orders_96 : decode cX8_orders 96 = .ok (.iload_n 2, 1) := by decide +kernel
theorem dX8_orders_97 : decode cX8_orders 97 = .ok (.iaload, 1) := by decide +kernel
theorem dX8_orders_98 : decode cX8_orders 98 = .ok (.goto 27, 3) := by decide +kernel
theorem dX8_orders_101 : decode cX8_orders 101 = .ok (.iload_n 1, 1) := by decide +kernel
theorem dX8_orders_102 : decode cX8_orders 102 = .ok (.iconst 3, 1) := by decide +kernel
theorem dX8_orders_103 : decode cX8_orders 103 = .ok (.if_icmp .ne 16, 3) := by decide +kernel
theorem dX8_orders_106 : decode cX8_orders 106 = .ok (.aload_n 0, 1) := by decide +kernel
theorem dX8_orders_107 : decode cX8_orders 107 = .ok (.aload_n 0, 1) := by decide +kernel
theorem dX8_orders_108 : decode cX8_orders 108 = .ok (.getfield 32, 3) := by decide +kernel
theorem dX8_orders_111 : decode cX8_orders 111 = .ok (.iload_n 2, 1) := by decide +kernel
theorem dX8_orders_112 : decode cX8_orders 112 = .ok (.iaload, 1) := by decide +kernel
theorem dX8_orders_113 : decode cX8_orders 113 = .ok (.invokevirtual 393, 3) := by decide +kernel
theorem dX8_orders_116 : decode cX8_orders 116 = .ok (.goto 9, 3) := by decide +kernel
theorem dX8_orders_119 : decode cX8_orders 119 = .ok (.aload_n 0, 1) := by decide +kernel
theorem dX8_orders_120 : decode cX8_orders 120 = .ok (.getfield 35, 3) := by decide +kernel
theorem dX8_orders_123 : decode cX8_orders 123 = .ok (.iload_n 2, 1) := by decide +kernel
theorem dX8_orders_124 : decode cX8_orders 124 = .ok (.iaload, 1) := by decide +kernel
theorem dX8_orders_125 : decode cX8_orders 125 = .ok (.ireturn, 1) := by decide +kernel
theorem dX8_fewest_0 : decode cX8_fewest 0 = .ok (.iload_n 1, 1) := by decide +kernel
theorem dX8_fewest_1 : decode cX8_fewest 1 = .ok (.ifCond .ge 6, 3) := by decide +kernel
theorem dX8_fewest_4 : decode cX8_fewest 4 = .ok (.bipush (-2), 2) := by decide +kernel
theorem dX8_fewest_6 : decode cX8_fewest 6 = .ok (.ireturn, 1) := by decide +kernel
theorem dX8_fewest_7 : decode cX8_fewest 7 = .ok (.aload_n 0, 1) := by decide +kernel
theorem dX8_fewest_8 : decode cX8_fewest 8 = .ok (.invokevirtual 401, 3) := by decide +kernel
theorem dX8_fewest_11 : decode cX8_fewest 11 = .ok (.aload_n 0, 1) := by decide +kernel
theorem dX8_fewest_12 : decode cX8_fewest 12 = .ok (.iload_n 1, 1) := by decide +kernel
theorem dX8_fewest_13 : decode cX8_fewest 13 = .ok (.invokevirtual 387, 3) := by decide +kernel
theorem dX8_fewest_16 : decode cX8_fewest 16 = .ok (.istore_n 2, 1) := by decide +kernel
theorem dX8_fewest_17 : decode cX8_fewest 17 = .ok (.iload_n 2, 1) := by decide +kernel
theorem dX8_fewest_18 : decode cX8_fewest 18 = .ok (.iconst (-1), 1) := by decide +kernel
theorem dX8_fewest_19 : decode cX8_fewest 19 = .ok (.if_icmp .ne 7, 3) := by decide +kernel
theorem dX8_fewest_22 : decode cX8_fewest 22 = .ok (.iconst (-1), 1) := by decide +kernel
theorem dX8_fewest_23 : decode cX8_fewest 23 = .ok (.goto 9, 3) := by decide +kernel
theorem dX8_fewest_26 : decode cX8_fewest 26 = .ok (.aload_n 0, 1) := by decide +kernel
theorem dX8_fewest_27 : decode cX8_fewest 27 = .ok (.getfield 35, 3) := by decide +kernel
theorem dX8_fewest_30 : decode cX8_fewest 30 = .ok (.iload_n 2, 1) := by decide +kernel
theorem dX8_fewest_31 : decode cX8_fewest 31 = .ok (.iaload, 1) := by decide +kernel
theorem dX8_fewest_32 : decode cX8_fewest 32 = .ok (.ireturn, 1) := by decide +kernel
theorem dX8_looks_0 : decode cX8_looks 0 = .ok (.aload_n 0, 1) := by decide +kernel
theorem dX8_looks_1 : decode cX8_looks 1 = .ok (.invokevirtual 401, 3) := by decide +kernel
theorem dX8_looks_4 : decode cX8_looks 4 = .ok (.aload_n 0, 1) := by decide +kernel
theorem dX8_looks_5 : decode cX8_looks 5 = .ok (.iconst (-1), 1) := by decide +kernel
theorem dX8_looks_6 : decode cX8_looks 6 = .ok (.putfield 410, 3) := by decide +kernel
theorem dX8_looks_9 : decode cX8_looks 9 = .ok (.aload_n 0, 1) := by decide +kernel
theorem dX8_looks_10 : decode cX8_looks 10 = .ok (.iconst (-1), 1) := by decide +kernel
theorem dX8_looks_11 : decode cX8_looks 11 = .ok (.putfield 413, 3) := by decide +kernel
theorem dX8_looks_14 : decode cX8_looks 14 = .ok (.iconst 0, 1) := by decide +kernel
theorem dX8_looks_15 : decode cX8_looks 15 = .ok (.istore_n 2, 1) := by decide +kernel
theorem dX8_looks_16 : decode cX8_looks 16 = .ok (.iload_n 2, 1) := by decide +kernel
theorem dX8_looks_17 : decode cX8_looks 17 = .ok (.aload_n 0, 1) := by decide +kernel
theorem dX8_looks_18 : decode cX8_looks 18 = .ok (.getfield 371, 3) := by decide +kernel
theorem dX8_looks_21 : decode cX8_looks 21 = .ok (.if_icmp .ge 76, 3) := by decide +kernel
theorem dX8_looks_24 : decode cX8_looks 24 = .ok (.aload_n 0, 1) := by decide +kernel
theorem dX8_looks_25 : decode cX8_looks 25 = .ok (.aload_n 0, 1) := by decide +kernel
theorem dX8_looks_26 : decode cX8_looks 26 = .ok (.getfield 32, 3) := by decide +kernel
theorem dX8_looks_29 : decode cX8_looks 29 = .ok (.iload_n 2, 1) := by decide +kernel
theorem dX8_looks_30 : decode cX8_looks 30 = .ok (.iaload, 1) := by decide +kernel
theorem dX8_looks_31 : decode cX8_looks 31 = .ok (.invokevirtual 380, 3) := by decide +kernel
theorem dX8_looks_34 : decode cX8_looks 34 = .ok (.iconst 0, 1) := by decide +kernel
theorem dX8_looks_35 : decode cX8_looks 35 = .ok (.istore_n 3, 1) := by decide +kernel
theorem dX8_looks_36 : decode cX8_looks 36 = .ok (.iload_n 3, 1) := by decide +kernel
theorem dX8_looks_37 : decode cX8_looks 37 = .ok (.aload_n 0, 1) := by decide +kernel
theorem dX8_looks_38 : decode cX8_looks 38 = .ok (.getfield 123, 3) := by decide +kernel
theorem dX8_looks_41 : decode cX8_looks 41 = .ok (.if_icmp .ge 50, 3) := by decide +kernel
theorem dX8_looks_44 : decode cX8_looks 44 = .ok (.aload_n 0, 1) := by decide +kernel
theorem dX8_looks_45 : decode cX8_looks 45 = .ok (.getfield 42, 3) := by decide +kernel
theorem dX8_looks_48 : decode cX8_looks 48 = .ok (.iload_n 3, 1) := by decide +kernel
theorem dX8_looks_49 : decode cX8_looks 49 = .ok (.iaload, 1) := by decide +kernel
theorem dX8_looks_50 : decode cX8_looks 50 = .ok (.iload_n 1, 1) := by decide +kernel
theorem dX8_looks_51 : decode cX8_looks 51 = .ok (.if_icmp .ne 34, 3) := by decide +kernel
theorem dX8_looks_54 : decode cX8_looks 54 = .ok (.aload_n 0, 1) := by decide +kernel
theorem dX8_looks_55 : decode cX8_looks 55 = .ok (.getfield 410, 3) := by decide +kernel
theorem dX8_looks_58 : decode cX8_looks 58 = .ok (.iconst (-1), 1) := by decide +kernel
theorem dX8_looks_59 : decode cX8_looks 59 = .ok (.if_icmp .eq 11, 3) := by decide +kernel
theorem dX8_looks_62 : decode cX8_looks 62 = .ok (.iload_n 3, 1) := by decide +kernel
theorem dX8_looks_63 : decode cX8_looks 63 = .ok (.aload_n 0, 1) := by decide +kernel
theorem dX8_looks_64 : decode cX8_looks 64 = .ok (.getfield 410, 3) := by decide +kernel
theorem dX8_looks_67 : decode cX8_looks 67 = .ok (.if_icmp .ge 18, 3) := by decide +kernel
theorem dX8_looks_70 : decode cX8_looks 70 = .ok (.aload_n 0, 1) := by decide +kernel
theorem dX8_looks_71 : decode cX8_looks 71 = .ok (.iload_n 3, 1) := by decide +kernel
theorem dX8_looks_72 : decode cX8_looks 72 = .ok (.putfield 410, 3) := by decide +kernel
theorem dX8_looks_75 : decode cX8_looks 75 = .ok (.aload_n 0, 1) := by decide +kernel
theorem dX8_looks_76 : decode cX8_looks 76 = .ok (.aload_n 0, 1) := by decide +kernel
theorem dX8_looks_77 : decode cX8_looks 77 = .ok (.getfield 35, 3) := by decide +kernel
theorem dX8_looks_80 : decode cX8_looks 80 = .ok (.iload_n 2, 1) := by decide +kernel
theorem dX8_looks_81 : decode cX8_looks 81 = .ok (.iaload, 1) := by decide +kernel
theorem dX8_looks_82 : decode cX8_looks 82 = .ok (.putfield 413, 3) := by decide +kernel
theorem dX8_looks_85 : decode cX8_looks 85 = .ok (.iinc 3 1, 3) := by decide +kernel
theorem dX8_looks_88 : decode cX8_looks 88 = .ok (.goto (-52), 3) := by decide +kernel
theorem dX8_looks_91 : decode cX8_looks 91 = .ok (.iinc 2 1, 3) := by decide +kernel
theorem dX8_looks_94 : decode cX8_looks 94 = .ok (.goto (-78), 3) := by decide +kernel
theorem dX8_looks_97 : decode cX8_looks 97 = .ok (.return_, 1) := by decide +kernel
theorem dX8_friendOf_0 : decode cX8_friendOf 0 = .ok (.aload_n 0, 1) := by decide +kernel
theorem dX8_friendOf_1 : decode cX8_friendOf 1 = .ok (.iload_n 1, 1) := by decide +kernel
theorem dX8_friendOf_2 : decode cX8_friendOf 2 = .ok (.invokevirtual 416, 3) := by decide +kernel
theorem dX8_friendOf_5 : decode cX8_friendOf 5 = .ok (.iconst (-1), 1) := by decide +kernel
theorem dX8_friendOf_6 : decode cX8_friendOf 6 = .ok (.istore_n 2, 1) := by decide +kernel
theorem dX8_friendOf_7 : decode cX8_friendOf 7 = .ok (.aload_n 0, 1) := by decide +kernel
theorem dX8_friendOf_8 : decode cX8_friendOf 8 = .ok (.getfield 410, 3) := by decide +kernel
theorem dX8_friendOf_11 : decode cX8_friendOf 11 = .ok (.istore_n 3, 1) := by decide +kernel
theorem dX8_friendOf_12 : decode cX8_friendOf 12 = .ok (.iconst 0, 1) := by decide +kernel
theorem dX8_friendOf_13 : decode cX8_friendOf 13 = .ok (.istore 4, 2) := by decide +kernel
theorem dX8_friendOf_15 : decode cX8_friendOf 15 = .ok (.iload 4, 2) := by decide +kernel
theorem dX8_friendOf_17 : decode cX8_friendOf 17 = .ok (.aload_n 0, 1) := by decide +kernel
theorem dX8_friendOf_18 : decode cX8_friendOf 18 = .ok (.getfield 88, 3) := by decide +kernel
theorem dX8_friendOf_21 : decode cX8_friendOf 21 = .ok (.if_icmp .ge 98, 3) := by decide +kernel
theorem dX8_friendOf_24 : decode cX8_friendOf 24 = .ok (.aload_n 0, 1) := by decide +kernel
theorem dX8_friendOf_25 : decode cX8_friendOf 25 = .ok (.iload_n 1, 1) := by decide +kernel
theorem dX8_friendOf_26 : decode cX8_friendOf 26 = .ok (.invokevirtual 132, 3) := by decide +kernel
theorem dX8_friendOf_29 : decode cX8_friendOf 29 = .ok (.iconst (-1), 1) := by decide +kernel
theorem dX8_friendOf_30 : decode cX8_friendOf 30 = .ok (.if_icmp .eq 83, 3) := by decide +kernel
theorem dX8_friendOf_33 : decode cX8_friendOf 33 = .ok (.aload_n 0, 1) := by decide +kernel
theorem dX8_friendOf_34 : decode cX8_friendOf 34 = .ok (.iload 4, 2) := by decide +kernel
theorem dX8_friendOf_36 : decode cX8_friendOf 36 = .ok (.invokevirtual 132, 3) := by decide +kernel
theorem dX8_friendOf_39 : decode cX8_friendOf 39 = .ok (.iconst (-1), 1) := by decide +kernel
theorem dX8_friendOf_40 : decode cX8_friendOf 40 = .ok (.if_icmp .eq 73, 3) := by decide +kernel
theorem dX8_friendOf_43 : decode cX8_friendOf 43 = .ok (.iload 4, 2) := by decide +kernel
theorem dX8_friendOf_45 : decode cX8_friendOf 45 = .ok (.iload_n 1, 1) := by decide +kernel
theorem dX8_friendOf_46 : decode cX8_friendOf 46 = .ok (.if_icmp .eq 67, 3) := by decide +kernel
theorem dX8_friendOf_49 : decode cX8_friendOf 49 = .ok (.aload_n 0, 1) := by decide +kernel
theorem dX8_friendOf_50 : decode cX8_friendOf 50 = .ok (.getfield 26, 3) := by decide +kernel
theorem dX8_friendOf_53 : decode cX8_friendOf 53 = .ok (.iconst 4, 1) := by decide +kernel
theorem dX8_friendOf_54 : decode cX8_friendOf 54 = .ok (.iload 4, 2) := by decide +kernel
theorem dX8_friendOf_56 : decode cX8_friendOf 56 = .ok (.imul, 1) := by decide +kernel
theorem dX8_friendOf_57 : decode cX8_friendOf 57 = .ok (.iconst 1, 1) := by decide +kernel
theorem dX8_friendOf_58 : decode cX8_friendOf 58 = .ok (.iadd, 1) := by decide +kernel
theorem dX8_friendOf_59 : decode cX8_friendOf 59 = .ok (.iaload, 1) := by decide +kernel
theorem dX8_friendOf_60 : decode cX8_friendOf 60 = .ok (.istore 5, 2) := by decide +kernel
theorem dX8_friendOf_62 : decode cX8_friendOf 62 = .ok (.aload_n 0, 1) := by decide +kernel
theorem dX8_friendOf_63 : decode cX8_friendOf 63 = .ok (.getfield 26, 3) := by decide +kernel
theorem dX8_friendOf_66 : decode cX8_friendOf 66 = .ok (.iconst 4, 1) := by decide +kernel
theorem dX8_friendOf_67 : decode cX8_friendOf 67 = .ok (.iload 4, 2) := by decide +kernel
theorem dX8_friendOf_69 : decode cX8_friendOf 69 = .ok (.imul, 1) := by decide +kernel
theorem dX8_friendOf_70 : decode cX8_friendOf 70 = .ok (.iconst 1, 1) := by decide +kernel
theorem dX8_friendOf_71 : decode cX8_friendOf 71 = .ok (.iadd, 1) := by decide +kernel
theorem dX8_friendOf_72 : decode cX8_friendOf 72 = .ok (.iload 5, 2) := by decide +kernel
theorem dX8_friendOf_74 : decode cX8_friendOf 74 = .ok (.iconst 1, 1) := by decide +kernel
theorem dX8_friendOf_75 : decode cX8_friendOf 75 = .ok (.iload_n 1, 1) := by decide +kernel
theorem dX8_friendOf_76 : decode cX8_friendOf 76 = .ok (.ishl, 1) := by decide +kernel
theorem dX8_friendOf_77 : decode cX8_friendOf 77 = .ok (.ior, 1) := by decide +kernel
theorem dX8_friendOf_78 : decode cX8_friendOf 78 = .ok (.iastore, 1) := by decide +kernel
theorem dX8_friendOf_79 : decode cX8_friendOf 79 = .ok (.aload_n 0, 1) := by decide +kernel
theorem dX8_friendOf_80 : decode cX8_friendOf 80 = .ok (.iload_n 1, 1) := by decide +kernel
theorem dX8_friendOf_81 : decode cX8_friendOf 81 = .ok (.invokevirtual 416, 3) := by decide +kernel
theorem dX8_friendOf_84 : decode cX8_friendOf 84 = .ok (.aload_n 0, 1) := by decide +kernel
theorem dX8_friendOf_85 : decode cX8_friendOf 85 = .ok (.getfield 26, 3) := by decide +kernel
theorem dX8_friendOf_88 : decode cX8_friendOf 88 = .ok (.iconst 4, 1) := by decide +kernel
theorem dX8_friendOf_89 : decode cX8_friendOf 89 = .ok (.iload 4, 2) := by decide +kernel
theorem dX8_friendOf_91 : decode cX8_friendOf 91 = .ok (.imul, 1) := by decide +kernel
theorem dX8_friendOf_92 : decode cX8_friendOf 92 = .ok (.iconst 1, 1) := by decide +kernel
theorem dX8_friendOf_93 : decode cX8_friendOf 93 = .ok (.iadd, 1) := by decide +kernel
theorem dX8_friendOf_94 : decode cX8_friendOf 94 = .ok (.iload 5, 2) := by decide +kernel
theorem dX8_friendOf_96 : decode cX8_friendOf 96 = .ok (.iastore, 1) := by decide +kernel
theorem dX8_friendOf_97 : decode cX8_friendOf 97 = .ok (.aload_n 0, 1) := by decide +kernel
theorem dX8_friendOf_98 : decode cX8_friendOf 98 = .ok (.getfield 410, 3) := by decide +kernel
theorem dX8_friendOf_101 : decode cX8_friendOf 101 = .ok (.iload_n 3, 1) := by decide +kernel
theorem dX8_friendOf_102 : decode cX8_friendOf 102 = .ok (.if_icmp .ge 11, 3) := by decide +kernel
theorem dX8_friendOf_105 : decode cX8_friendOf 105 = .ok (.iload 4, 2) := by decide +kernel
theorem dX8_friendOf_107 : decode cX8_friendOf 107 = .ok (.istore_n 2, 1) := by decide +kernel
theorem dX8_friendOf_108 : decode cX8_friendOf 108 = .ok (.aload_n 0, 1) := by decide +kernel
theorem dX8_friendOf_109 : decode cX8_friendOf 109 = .ok (.getfield 410, 3) := by decide +kernel
theorem dX8_friendOf_112 : decode cX8_friendOf 112 = .ok (.istore_n 3, 1) := by decide +kernel
theorem dX8_friendOf_113 : decode cX8_friendOf 113 = .ok (.iinc 4 1, 3) := by decide +kernel
theorem dX8_friendOf_116 : decode cX8_friendOf 116 = .ok (.goto (-101), 3) := by decide +kernel
theorem dX8_friendOf_119 : decode cX8_friendOf 119 = .ok (.iload_n 2, 1) := by decide +kernel
theorem dX8_friendOf_120 : decode cX8_friendOf 120 = .ok (.ireturn, 1) := by decide +kernel
theorem dX8_ahead_0 : decode cX8_ahead 0 = .ok (.aload_n 0, 1) := by decide +kernel
theorem dX8_ahead_1 : decode cX8_ahead 1 = .ok (.iload_n 1, 1) := by decide +kernel
theorem dX8_ahead_2 : decode cX8_ahead 2 = .ok (.invokevirtual 97, 3) := by decide +kernel
theorem dX8_ahead_5 : decode cX8_ahead 5 = .ok (.ifCond .eq 15, 3) := by decide +kernel
theorem dX8_ahead_8 : decode cX8_ahead 8 = .ok (.iload_n 2, 1) := by decide +kernel
theorem dX8_ahead_9 : decode cX8_ahead 9 = .ok (.i2l, 1) := by decide +kernel
theorem dX8_ahead_10 : decode cX8_ahead 10 = .ok (.lconst 0, 1) := by decide +kernel
theorem dX8_ahead_11 : decode cX8_ahead 11 = .ok (.ldc2_w 419, 3) := by decide +kernel
theorem dX8_ahead_14 : decode cX8_ahead 14 = .ok (.invokestatic 91, 3) := by decide +kernel
theorem dX8_ahead_17 : decode cX8_ahead 17 = .ok (.ifCond .ne 6, 3) := by decide +kernel
theorem dX8_ahead_20 : decode cX8_ahead 20 = .ok (.bipush (-2), 2) := by decide +kernel
theorem dX8_ahead_22 : decode cX8_ahead 22 = .ok (.ireturn, 1) := by decide +kernel
theorem dX8_ahead_23 : decode cX8_ahead 23 = .ok (.iload_n 2, 1) := by decide +kernel
theorem dX8_ahead_24 : decode cX8_ahead 24 = .ok (.iconst 2, 1) := by decide +kernel
theorem dX8_ahead_25 : decode cX8_ahead 25 = .ok (.if_icmp .ne 9, 3) := by decide +kernel
theorem dX8_ahead_28 : decode cX8_ahead 28 = .ok (.aload_n 0, 1) := by decide +kernel
theorem dX8_ahead_29 : decode cX8_ahead 29 = .ok (.iload_n 1, 1) := by decide +kernel
theorem dX8_ahead_30 : decode cX8_ahead 30 = .ok (.invokevirtual 421, 3) := by decide +kernel
theorem dX8_ahead_33 : decode cX8_ahead 33 = .ok (.ireturn, 1) := by decide +kernel
theorem dX8_ahead_34 : decode cX8_ahead 34 = .ok (.aload_n 0, 1) := by decide +kernel
theorem dX8_ahead_35 : decode cX8_ahead 35 = .ok (.iload_n 1, 1) := by decide +kernel
theorem dX8_ahead_36 : decode cX8_ahead 36 = .ok (.invokevirtual 416, 3) := by decide +kernel
theorem dX8_ahead_39 : decode cX8_ahead 39 = .ok (.iload_n 2, 1) := by decide +kernel
theorem dX8_ahead_40 : decode cX8_ahead 40 = .ok (.ifCond .ne 10, 3) := by decide +kernel
theorem dX8_ahead_43 : decode cX8_ahead 43 = .ok (.aload_n 0, 1) := by decide +kernel
theorem dX8_ahead_44 : decode cX8_ahead 44 = .ok (.getfield 410, 3) := by decide +kernel
theorem dX8_ahead_47 : decode cX8_ahead 47 = .ok (.goto 7, 3) := by decide +kernel
theorem dX8_ahead_50 : decode cX8_ahead 50 = .ok (.aload_n 0, 1) := by decide +kernel
theorem dX8_ahead_51 : decode cX8_ahead 51 = .ok (.getfield 413, 3) := by decide +kernel
theorem dX8_ahead_54 : decode cX8_ahead 54 = .ok (.ireturn, 1) := by decide +kernel
theorem dX8_laysAside_0 : decode cX8_laysAside 0 = .ok (.iconst 0, 1) := by decide +kernel
theorem dX8_laysAside_1 : decode cX8_laysAside 1 = .ok (.istore_n 1, 1) := by decide +kernel
theorem dX8_laysAside_2 : decode cX8_laysAside 2 = .ok (.iload_n 1, 1) := by decide +kernel
theorem dX8_laysAside_3 : decode cX8_laysAside 3 = .ok (.iconst 5, 1) := by decide +kernel
theorem dX8_laysAside_4 : decode cX8_laysAside 4 = .ok (.if_icmp .ge 21, 3) := by decide +kernel
theorem dX8_laysAside_7 : decode cX8_laysAside 7 = .ok (.aload_n 0, 1) := by decide +kernel
theorem dX8_laysAside_8 : decode cX8_laysAside 8 = .ok (.getfield 51, 3) := by decide +kernel
theorem dX8_laysAside_11 : decode cX8_laysAside 11 = .ok (.iload_n 1, 1) := by decide +kernel
theorem dX8_laysAside_12 : decode cX8_laysAside 12 = .ok (.aload_n 0, 1) := by decide +kernel
theorem dX8_laysAside_13 : decode cX8_laysAside 13 = .ok (.getfield 29, 3) := by decide +kernel
theorem dX8_laysAside_16 : decode cX8_laysAside 16 = .ok (.iload_n 1, 1) := by decide +kernel
theorem dX8_laysAside_17 : decode cX8_laysAside 17 = .ok (.iaload, 1) := by decide +kernel
theorem dX8_laysAside_18 : decode cX8_laysAside 18 = .ok (.iastore, 1) := by decide +kernel
theorem dX8_laysAside_19 : decode cX8_laysAside 19 = .ok (.iinc 1 1, 3) := by decide +kernel
theorem dX8_laysAside_22 : decode cX8_laysAside 22 = .ok (.goto (-20), 3) := by decide +kernel
theorem dX8_laysAside_25 : decode cX8_laysAside 25 = .ok (.iconst 0, 1) := by decide +kernel
theorem dX8_laysAside_26 : decode cX8_laysAside 26 = .ok (.istore_n 1, 1) := by decide +kernel
theorem dX8_laysAside_27 : decode cX8_laysAside 27 = .ok (.iload_n 1, 1) := by decide +kernel
theorem dX8_laysAside_28 : decode cX8_laysAside 28 = .ok (.bipush 20, 2) := by decide +kernel
theorem dX8_laysAside_30 : decode cX8_laysAside 30 = .ok (.if_icmp .ge 21, 3) := by decide +kernel
theorem dX8_laysAside_33 : decode cX8_laysAside 33 = .ok (.aload_n 0, 1) := by decide +kernel
theorem dX8_laysAside_34 : decode cX8_laysAside 34 = .ok (.getfield 54, 3) := by decide +kernel
theorem dX8_laysAside_37 : decode cX8_laysAside 37 = .ok (.iload_n 1, 1) := by decide +kernel
theorem dX8_laysAside_38 : decode cX8_laysAside 38 = .ok (.aload_n 0, 1) := by decide +kernel
theorem dX8_laysAside_39 : decode cX8_laysAside 39 = .ok (.getfield 26, 3) := by decide +kernel
theorem dX8_laysAside_42 : decode cX8_laysAside 42 = .ok (.iload_n 1, 1) := by decide +kernel
theorem dX8_laysAside_43 : decode cX8_laysAside 43 = .ok (.iaload, 1) := by decide +kernel
theorem dX8_laysAside_44 : decode cX8_laysAside 44 = .ok (.iastore, 1) := by decide +kernel
theorem dX8_laysAside_45 : decode cX8_laysAside 45 = .ok (.iinc 1 1, 3) := by decide +kernel
theorem dX8_laysAside_48 : decode cX8_laysAside 48 = .ok (.goto (-21), 3) := by decide +kernel
theorem dX8_laysAside_51 : decode cX8_laysAside 51 = .ok (.aload_n 0, 1) := by decide +kernel
theorem dX8_laysAside_52 : decode cX8_laysAside 52 = .ok (.aload_n 0, 1) := by decide +kernel
theorem dX8_laysAside_53 : decode cX8_laysAside 53 = .ok (.getfield 123, 3) := by decide +kernel
theorem dX8_laysAside_56 : decode cX8_laysAside 56 = .ok (.putfield 424, 3) := by decide +kernel
theorem dX8_laysAside_59 : decode cX8_laysAside 59 = .ok (.aload_n 0, 1) := by decide +kernel
theorem dX8_laysAside_60 : decode cX8_laysAside 60 = .ok (.aload_n 0, 1) := by decide +kernel
theorem dX8_laysAside_61 : decode cX8_laysAside 61 = .ok (.getfield 113, 3) := by decide +kernel
theorem dX8_laysAside_64 : decode cX8_laysAside 64 = .ok (.putfield 427, 3) := by decide +kernel
theorem dX8_laysAside_67 : decode cX8_laysAside 67 = .ok (.return_, 1) := by decide +kernel
theorem dX8_laysBack_0 : decode cX8_laysBack 0 = .ok (.iconst 0, 1) := by decide +kernel
theorem dX8_laysBack_1 : decode cX8_laysBack 1 = .ok (.istore_n 1, 1) := by decide +kernel
theorem dX8_laysBack_2 : decode cX8_laysBack 2 = .ok (.iload_n 1, 1) := by decide +kernel
theorem dX8_laysBack_3 : decode cX8_laysBack 3 = .ok (.iconst 5, 1) := by decide +kernel
theorem dX8_laysBack_4 : decode cX8_laysBack 4 = .ok (.if_icmp .ge 21, 3) := by decide +kernel
theorem dX8_laysBack_7 : decode cX8_laysBack 7 = .ok (.aload_n 0, 1) := by decide +kernel
theorem dX8_laysBack_8 : decode cX8_laysBack 8 = .ok (.getfield 29, 3) := by decide +kernel
theorem dX8_laysBack_11 : decode cX8_laysBack 11 = .ok (.iload_n 1, 1) := by decide +kernel
theorem dX8_laysBack_12 : decode cX8_laysBack 12 = .ok (.aload_n 0, 1) := by decide +kernel
theorem dX8_laysBack_13 : decode cX8_laysBack 13 = .ok (.getfield 51, 3) := by decide +kernel
theorem dX8_laysBack_16 : decode cX8_laysBack 16 = .ok (.iload_n 1, 1) := by decide +kernel
theorem dX8_laysBack_17 : decode cX8_laysBack 17 = .ok (.iaload, 1) := by decide +kernel
theorem dX8_laysBack_18 : decode cX8_laysBack 18 = .ok (.iastore, 1) := by decide +kernel
theorem dX8_laysBack_19 : decode cX8_laysBack 19 = .ok (.iinc 1 1, 3) := by decide +kernel
theorem dX8_laysBack_22 : decode cX8_laysBack 22 = .ok (.goto (-20), 3) := by decide +kernel
theorem dX8_laysBack_25 : decode cX8_laysBack 25 = .ok (.iconst 0, 1) := by decide +kernel
theorem dX8_laysBack_26 : decode cX8_laysBack 26 = .ok (.istore_n 1, 1) := by decide +kernel
theorem dX8_laysBack_27 : decode cX8_laysBack 27 = .ok (.iload_n 1, 1) := by decide +kernel
theorem dX8_laysBack_28 : decode cX8_laysBack 28 = .ok (.bipush 20, 2) := by decide +kernel
theorem dX8_laysBack_30 : decode cX8_laysBack 30 = .ok (.if_icmp .ge 21, 3) := by decide +kernel
theorem dX8_laysBack_33 : decode cX8_laysBack 33 = .ok (.aload_n 0, 1) := by decide +kernel
theorem dX8_laysBack_34 : decode cX8_laysBack 34 = .ok (.getfield 26, 3) := by decide +kernel
theorem dX8_laysBack_37 : decode cX8_laysBack 37 = .ok (.iload_n 1, 1) := by decide +kernel
theorem dX8_laysBack_38 : decode cX8_laysBack 38 = .ok (.aload_n 0, 1) := by decide +kernel
theorem dX8_laysBack_39 : decode cX8_laysBack 39 = .ok (.getfield 54, 3) := by decide +kernel
theorem dX8_laysBack_42 : decode cX8_laysBack 42 = .ok (.iload_n 1, 1) := by decide +kernel
theorem dX8_laysBack_43 : decode cX8_laysBack 43 = .ok (.iaload, 1) := by decide +kernel
theorem dX8_laysBack_44 : decode cX8_laysBack 44 = .ok (.iastore, 1) := by decide +kernel
theorem dX8_laysBack_45 : decode cX8_laysBack 45 = .ok (.iinc 1 1, 3) := by decide +kernel
theorem dX8_laysBack_48 : decode cX8_laysBack 48 = .ok (.goto (-21), 3) := by decide +kernel
theorem dX8_laysBack_51 : decode cX8_laysBack 51 = .ok (.aload_n 0, 1) := by decide +kernel
theorem dX8_laysBack_52 : decode cX8_laysBack 52 = .ok (.aload_n 0, 1) := by decide +kernel
theorem dX8_laysBack_53 : decode cX8_laysBack 53 = .ok (.getfield 424, 3) := by decide +kernel
theorem dX8_laysBack_56 : decode cX8_laysBack 56 = .ok (.putfield 123, 3) := by decide +kernel
theorem dX8_laysBack_59 : decode cX8_laysBack 59 = .ok (.aload_n 0, 1) := by decide +kernel
theorem dX8_laysBack_60 : decode cX8_laysBack 60 = .ok (.aload_n 0, 1) := by decide +kernel
theorem dX8_laysBack_61 : decode cX8_laysBack 61 = .ok (.getfield 427, 3) := by decide +kernel
theorem dX8_laysBack_64 : decode cX8_laysBack 64 = .ok (.putfield 113, 3) := by decide +kernel
theorem dX8_laysBack_67 : decode cX8_laysBack 67 = .ok (.return_, 1) := by decide +kernel
theorem dX8_firstNow_0 : decode cX8_firstNow 0 = .ok (.aload_n 0, 1) := by decide +kernel
theorem dX8_firstNow_1 : decode cX8_firstNow 1 = .ok (.getfield 123, 3) := by decide +kernel
theorem dX8_firstNow_4 : decode cX8_firstNow 4 = .ok (.ifCond .le 12, 3) := by decide +kernel
theorem dX8_firstNow_7 : decode cX8_firstNow 7 = .ok (.aload_n 0, 1) := by decide +kernel
theorem dX8_firstNow_8 : decode cX8_firstNow 8 = .ok (.getfield 29, 3) := by decide +kernel
theorem dX8_firstNow_11 : decode cX8_firstNow 11 = .ok (.iconst 0, 1) := by decide +kernel
theorem dX8_firstNow_12 : decode cX8_firstNow 12 = .ok (.iaload, 1) := by decide +kernel
theorem dX8_firstNow_13 : decode cX8_firstNow 13 = .ok (.goto 4, 3) := by decide +kernel
theorem dX8_firstNow_16 : decode cX8_firstNow 16 = .ok (.iconst (-1), 1) := by decide +kernel
theorem dX8_firstNow_17 : decode cX8_firstNow 17 = .ok (.ireturn, 1) := by decide +kernel
theorem dX8_run_0 : decode cX8_run 0 = .ok (.iload_n 1, 1) := by decide +kernel
theorem dX8_run_1 : decode cX8_run 1 = .ok (.i2l, 1) := by decide +kernel
theorem dX8_run_2 : decode cX8_run 2 = .ok (.lconst 0, 1) := by decide +kernel
theorem dX8_run_3 : decode cX8_run 3 = .ok (.ldc2_w 244, 3) := by decide +kernel
theorem dX8_run_6 : decode cX8_run 6 = .ok (.invokestatic 91, 3) := by decide +kernel
theorem dX8_run_9 : decode cX8_run 9 = .ok (.ifCond .eq 38, 3) := by decide +kernel
theorem dX8_run_12 : decode cX8_run 12 = .ok (.iload_n 2, 1) := by decide +kernel
theorem dX8_run_13 : decode cX8_run 13 = .ok (.i2l, 1) := by decide +kernel
theorem dX8_run_14 : decode cX8_run 14 = .ok (.lconst 0, 1) := by decide +kernel
theorem dX8_run_15 : decode cX8_run 15 = .ok (.lconst 1, 1) := by decide +kernel
theorem dX8_run_16 : decode cX8_run 16 = .ok (.invokestatic 91, 3) := by decide +kernel
theorem dX8_run_19 : decode cX8_run 19 = .ok (.ifCond .ne 31, 3) := by decide +kernel
theorem dX8_run_22 : decode cX8_run 22 = .ok (.iload_n 2, 1) := by decide +kernel
theorem dX8_run_23 : decode cX8_run 23 = .ok (.i2l, 1) := by decide +kernel
theorem dX8_run_24 : decode cX8_run 24 = .ok (.ldc2_w 179, 3) := by decide +kernel
theorem dX8_run_27 : decode cX8_run 27 = .ok (.ldc2_w 126, 3) := by decide +kernel
theorem dX8_run_30 : decode cX8_run 30 = .ok (.invokestatic 91, 3) := by decide +kernel
theorem dX8_run_33 : decode cX8_run 33 = .ok (.ifCond .eq 14, 3) := by decide +kernel
theorem dX8_run_36 : decode cX8_run 36 = .ok (.aload_n 0, 1) := by decide +kernel
theorem dX8_run_37 : decode cX8_run 37 = .ok (.iload_n 2, 1) := by decide +kernel
theorem dX8_run_38 : decode cX8_run 38 = .ok (.bipush 10, 2) := by decide +kernel
theorem dX8_run_40 : decode cX8_run 40 = .ok (.isub, 1) := by decide +kernel
theorem dX8_run_41 : decode cX8_run 41 = .ok (.invokevirtual 97, 3) := by decide +kernel
theorem dX8_run_44 : decode cX8_run 44 = .ok (.ifCond .ne 6, 3) := by decide +kernel
theorem dX8_run_47 : decode cX8_run 47 = .ok (.bipush (-2), 2) := by decide +kernel
theorem dX8_run_49 : decode cX8_run 49 = .ok (.ireturn, 1) := by decide +kernel
theorem dX8_run_50 : decode cX8_run 50 = .ok (.aload_n 0, 1) := by decide +kernel
theorem dX8_run_51 : decode cX8_run 51 = .ok (.invokevirtual 430, 3) := by decide +kernel
theorem dX8_run_54 : decode cX8_run 54 = .ok (.iconst (-1), 1) := by decide +kernel
theorem dX8_run_55 : decode cX8_run 55 = .ok (.istore_n 3, 1) := by decide +kernel
theorem dX8_run_56 : decode cX8_run 56 = .ok (.iconst 0, 1) := by decide +kernel
theorem dX8_run_57 : decode cX8_run 57 = .ok (.istore 4, 2) := by decide +kernel
theorem dX8_run_59 : decode cX8_run 59 = .ok (.iload 4, 2) := by decide +kernel
theorem dX8_run_61 : decode cX8_run 61 = .ok (.iload_n 1, 1) := by decide +kernel
theorem dX8_run_62 : decode cX8_run 62 = .ok (.if_icmp .ge 33, 3) := by decide +kernel
theorem dX8_run_65 : decode cX8_run 65 = .ok (.aload_n 0, 1) := by decide +kernel
theorem dX8_run_66 : decode cX8_run 66 = .ok (.invokevirtual 368, 3) := by decide +kernel
theorem dX8_run_69 : decode cX8_run 69 = .ok (.iload_n 2, 1) := by decide +kernel
theorem dX8_run_70 : decode cX8_run 70 = .ok (.bipush 10, 2) := by decide +kernel
theorem dX8_run_72 : decode cX8_run 72 = .ok (.isub, 1) := by decide +kernel
theorem dX8_run_73 : decode cX8_run 73 = .ok (.if_icmp .ne 14, 3) := by decide +kernel
theorem dX8_run_76 : decode cX8_run 76 = .ok (.iload_n 2, 1) := by decide +kernel
theorem dX8_run_77 : decode cX8_run 77 = .ok (.bipush 9, 2) := by decide +kernel
theorem dX8_run_79 : decode cX8_run 79 = .ok (.if_icmp .le 8, 3) := by decide +kernel
theorem dX8_run_82 : decode cX8_run 82 = .ok (.iload 4, 2) := by decide +kernel
theorem dX8_run_84 : decode cX8_run 84 = .ok (.goto 4, 3) := by decide +kernel
theorem dX8_run_87 : decode cX8_run 87 = .ok (.iload_n 3, 1) := by decide +kernel
theorem dX8_run_88 : decode cX8_run 88 = .ok (.istore_n 3, 1) := by decide +kernel
theorem dX8_run_89 : decode cX8_run 89 = .ok (.iinc 4 1, 3) := by decide +kernel
theorem dX8_run_92 : decode cX8_run 92 = .ok (.goto (-33), 3) := by decide +kernel
theorem dX8_run_95 : decode cX8_run 95 = .ok (.iload_n 2, 1) := by decide +kernel
theorem dX8_run_96 : decode cX8_run 96 = .ok (.ifCond .ne 10, 3) := by decide +kernel
theorem dX8_run_99 : decode cX8_run 99 = .ok (.aload_n 0, 1) := by decide +kernel
theorem dX8_run_100 : decode cX8_run 100 = .ok (.getfield 123, 3) := by decide +kernel
theorem dX8_run_103 : decode cX8_run 103 = .ok (.goto 16, 3) := by decide +kernel
theorem dX8_run_106 : decode cX8_run 106 = .ok (.iload_n 2, 1) := by decide +kernel
theorem dX8_run_107 : decode cX8_run 107 = .ok (.iconst 1, 1) := by decide +kernel
theorem dX8_run_108 : decode cX8_run 108 = .ok (.if_icmp .ne 10, 3) := by decide +kernel
theorem dX8_run_111 : decode cX8_run 111 = .ok (.aload_n 0, 1) := by decide +kernel
theorem dX8_run_112 : decode cX8_run 112 = .ok (.invokevirtual 433, 3) := by decide +kernel
theorem dX8_run_115 : decode cX8_run 115 = .ok (.goto 4, 3) := by decide +kernel
theorem dX8_run_118 : decode cX8_run 118 = .ok (.iload_n 3, 1) := by decide +kernel
theorem dX8_run_119 : decode cX8_run 119 = .ok (.istore 4, 2) := by decide +kernel
theorem dX8_run_121 : decode cX8_run 121 = .ok (.aload_n 0, 1) := by decide +kernel
theorem dX8_run_122 : decode cX8_run 122 = .ok (.invokevirtual 436, 3) := by decide +kernel
theorem dX8_run_125 : decode cX8_run 125 = .ok (.iload 4, 2) := by decide +kernel
theorem dX8_run_127 : decode cX8_run 127 = .ok (.ireturn, 1) := by decide +kernel
theorem dX8_firstOther_0 : decode cX8_firstOther 0 = .ok (.aload_n 0, 1) := by decide +kernel
theorem dX8_firstOther_1 : decode cX8_firstOther 1 = .ok (.invokevirtual 430, 3) := by decide +kernel
theorem dX8_firstOther_4 : decode cX8_firstOther 4 = .ok (.iconst (-1), 1) := by decide +kernel
theorem dX8_firstOther_5 : decode cX8_firstOther 5 = .ok (.istore_n 2, 1) := by decide +kernel
theorem dX8_firstOther_6 : decode cX8_firstOther 6 = .ok (.iconst 0, 1) := by decide +kernel
theorem dX8_firstOther_7 : decode cX8_firstOther 7 = .ok (.istore_n 3, 1) := by decide +kernel
theorem dX8_firstOther_8 : decode cX8_firstOther 8 = .ok (.iload_n 3, 1) := by decide +kernel
theorem dX8_firstOther_9 : decode cX8_firstOther 9 = .ok (.aload_n 0, 1) := by decide +kernel
theorem dX8_firstOther_10 : decode cX8_firstOther 10 = .ok (.getfield 75, 3) := by decide +kernel
theorem dX8_firstOther_13 : decode cX8_firstOther 13 = .ok (.iload_n 1, 1) := by decide +kernel
theorem dX8_firstOther_14 : decode cX8_firstOther 14 = .ok (.iaload, 1) := by decide +kernel
theorem dX8_firstOther_15 : decode cX8_firstOther 15 = .ok (.if_icmp .ge 43, 3) := by decide +kernel
theorem dX8_firstOther_18 : decode cX8_firstOther 18 = .ok (.iload_n 2, 1) := by decide +kernel
theorem dX8_firstOther_19 : decode cX8_firstOther 19 = .ok (.iconst (-1), 1) := by decide +kernel
theorem dX8_firstOther_20 : decode cX8_firstOther 20 = .ok (.if_icmp .ne 38, 3) := by decide +kernel
theorem dX8_firstOther_23 : decode cX8_firstOther 23 = .ok (.aload_n 0, 1) := by decide +kernel
theorem dX8_firstOther_24 : decode cX8_firstOther 24 = .ok (.invokevirtual 368, 3) := by decide +kernel
theorem dX8_firstOther_27 : decode cX8_firstOther 27 = .ok (.pop, 1) := by decide +kernel
theorem dX8_firstOther_28 : decode cX8_firstOther 28 = .ok (.aload_n 0, 1) := by decide +kernel
theorem dX8_firstOther_29 : decode cX8_firstOther 29 = .ok (.invokevirtual 433, 3) := by decide +kernel
theorem dX8_firstOther_32 : decode cX8_firstOther 32 = .ok (.aload_n 0, 1) := by decide +kernel
theorem dX8_firstOther_33 : decode cX8_firstOther 33 = .ok (.getfield 78, 3) := by decide +kernel
theorem dX8_firstOther_36 : decode cX8_firstOther 36 = .ok (.bipush 40, 2) := by decide +kernel
theorem dX8_firstOther_38 : decode cX8_firstOther 38 = .ok (.iload_n 1, 1) := by decide +kernel
theorem dX8_firstOther_39 : decode cX8_firstOther 39 = .ok (.imul, 1) := by decide +kernel
theorem dX8_firstOther_40 : decode cX8_firstOther 40 = .ok (.iload_n 3, 1) := by decide +kernel
theorem dX8_firstOther_41 : decode cX8_firstOther 41 = .ok (.iadd, 1) := by decide +kernel
theorem dX8_firstOther_42 : decode cX8_firstOther 42 = .ok (.iaload, 1) := by decide +kernel
theorem dX8_firstOther_43 : decode cX8_firstOther 43 = .ok (.if_icmp .ne 7, 3) := by decide +kernel
theorem dX8_firstOther_46 : decode cX8_firstOther 46 = .ok (.iconst (-1), 1) := by decide +kernel
theorem dX8_firstOther_47 : decode cX8_firstOther 47 = .ok (.goto 4, 3) := by decide +kernel
theorem dX8_firstOther_50 : decode cX8_firstOther 50 = .ok (.iload_n 3, 1) := by decide +kernel
theorem dX8_firstOther_51 : decode cX8_firstOther 51 = .ok (.istore_n 2, 1) := by decide +kernel
theorem dX8_firstOther_52 : decode cX8_firstOther 52 = .ok (.iinc 3 1, 3) := by decide +kernel
theorem dX8_firstOther_55 : decode cX8_firstOther 55 = .ok (.goto (-47), 3) := by decide +kernel
theorem dX8_firstOther_58 : decode cX8_firstOther 58 = .ok (.aload_n 0, 1) := by decide +kernel
theorem dX8_firstOther_59 : decode cX8_firstOther 59 = .ok (.invokevirtual 436, 3) := by decide +kernel
theorem dX8_firstOther_62 : decode cX8_firstOther 62 = .ok (.iload_n 2, 1) := by decide +kernel
theorem dX8_firstOther_63 : decode cX8_firstOther 63 = .ok (.ireturn, 1) := by decide +kernel
theorem dX8_tells_0 : decode cX8_tells 0 = .ok (.iload_n 1, 1) := by decide +kernel
theorem dX8_tells_1 : decode cX8_tells 1 = .ok (.invokestatic 439, 3) := by decide +kernel
theorem dX8_tells_4 : decode cX8_tells 4 = .ok (.ifCond .eq 23, 3) := by decide +kernel
theorem dX8_tells_7 : decode cX8_tells 7 = .ok (.aload_n 0, 1) := by decide +kernel
theorem dX8_tells_8 : decode cX8_tells 8 = .ok (.iload_n 2, 1) := by decide +kernel
theorem dX8_tells_9 : decode cX8_tells 9 = .ok (.invokevirtual 97, 3) := by decide +kernel
theorem dX8_tells_12 : decode cX8_tells 12 = .ok (.ifCond .eq 15, 3) := by decide +kernel
theorem dX8_tells_15 : decode cX8_tells 15 = .ok (.iload_n 3, 1) := by decide +kernel
theorem dX8_tells_16 : decode cX8_tells 16 = .ok (.i2l, 1) := by decide +kernel
theorem dX8_tells_17 : decode cX8_tells 17 = .ok (.lconst 0, 1) := by decide +kernel
theorem dX8_tells_18 : decode cX8_tells 18 = .ok (.ldc2_w 119, 3) := by decide +kernel
theorem dX8_tells_21 : decode cX8_tells 21 = .ok (.invokestatic 91, 3) := by decide +kernel
theorem dX8_tells_24 : decode cX8_tells 24 = .ok (.ifCond .ne 6, 3) := by decide +kernel
theorem dX8_tells_27 : decode cX8_tells 27 = .ok (.bipush (-2), 2) := by decide +kernel
theorem dX8_tells_29 : decode cX8_tells 29 = .ok (.ireturn, 1) := by decide +kernel
theorem dX8_tells_30 : decode cX8_tells 30 = .ok (.aload_n 0, 1) := by decide +kernel
theorem dX8_tells_31 : decode cX8_tells 31 = .ok (.getfield 69, 3) := by decide +kernel
theorem dX8_tells_34 : decode cX8_tells 34 = .ok (.iload_n 1, 1) := by decide +kernel
theorem dX8_tells_35 : decode cX8_tells 35 = .ok (.baload, 1) := by decide +kernel
theorem dX8_tells_36 : decode cX8_tells 36 = .ok (.ifCond .ne 6, 3) := by decide +kernel
theorem dX8_tells_39 : decode cX8_tells 39 = .ok (.bipush (-11), 2) := by decide +kernel
theorem dX8_tells_41 : decode cX8_tells 41 = .ok (.ireturn, 1) := by decide +kernel
theorem dX8_tells_42 : decode cX8_tells 42 = .ok (.aload_n 0, 1) := by decide +kernel
theorem dX8_tells_43 : decode cX8_tells 43 = .ok (.getfield 75, 3) := by decide +kernel
theorem dX8_tells_46 : decode cX8_tells 46 = .ok (.iload_n 1, 1) := by decide +kernel
theorem dX8_tells_47 : decode cX8_tells 47 = .ok (.iaload, 1) := by decide +kernel
theorem dX8_tells_48 : decode cX8_tells 48 = .ok (.bipush 30, 2) := by decide +kernel
theorem dX8_tells_50 : decode cX8_tells 50 = .ok (.if_icmp .le 6, 3) := by decide +kernel
theorem dX8_tells_53 : decode cX8_tells 53 = .ok (.bipush (-2), 2) := by decide +kernel
theorem dX8_tells_55 : decode cX8_tells 55 = .ok (.ireturn, 1) := by decide +kernel
theorem dX8_tells_56 : decode cX8_tells 56 = .ok (.iload_n 3, 1) := by decide +kernel
theorem dX8_tells_57 : decode cX8_tells 57 = .ok (.ifCond .ne 9, 3) := by decide +kernel
theorem dX8_tells_60 : decode cX8_tells 60 = .ok (.aload_n 0, 1) := by decide +kernel
theorem dX8_tells_61 : decode cX8_tells 61 = .ok (.iload_n 1, 1) := by decide +kernel
theorem dX8_tells_62 : decode cX8_tells 62 = .ok (.invokevirtual 442, 3) := by decide +kernel
theorem dX8_tells_65 : decode cX8_tells 65 = .ok (.ireturn, 1) := by decide +kernel
theorem dX8_tells_66 : decode cX8_tells 66 = .ok (.iload_n 3, 1) := by decide +kernel
theorem dX8_tells_67 : decode cX8_tells 67 = .ok (.iconst 1, 1) := by decide +kernel
theorem dX8_tells_68 : decode cX8_tells 68 = .ok (.if_icmp .ne 7, 3) := by decide +kernel
theorem dX8_tells_71 : decode cX8_tells 71 = .ok (.iconst 5, 1) := by decide +kernel
theorem dX8_tells_72 : decode cX8_tells 72 = .ok (.goto 23, 3) := by decide +kernel
theorem dX8_tells_75 : decode cX8_tells 75 = .ok (.iload_n 3, 1) := by decide +kernel
theorem dX8_tells_76 : decode cX8_tells 76 = .ok (.iconst 2, 1) := by decide +kernel
theorem dX8_tells_77 : decode cX8_tells 77 = .ok (.if_icmp .ne 7, 3) := by decide +kernel
theorem dX8_tells_80 : decode cX8_tells 80 = .ok (.iconst 1, 1) := by decide +kernel
theorem dX8_tells_81 : decode cX8_tells 81 = .ok (.goto 14, 3) := by decide +kernel
theorem dX8_tells_84 : decode cX8_tells 84 = .ok (.iload_n 3, 1) := by decide +kernel
theorem dX8_tells_85 : decode cX8_tells 85 = .ok (.iconst 5, 1) := by decide +kernel
theorem dX8_tells_86 : decode cX8_tells 86 = .ok (.if_icmp .ne 8, 3) := by decide +kernel
theorem dX8_tells_89 : decode cX8_tells 89 = .ok (.bipush 6, 2) := by decide +kernel
theorem dX8_tells_91 : decode cX8_tells 91 = .ok (.goto 4, 3) := by decide +kernel
theorem dX8_tells_94 : decode cX8_tells 94 = .ok (.iconst 4, 1) := by decide +kernel
theorem dX8_tells_95 : decode cX8_tells 95 = .ok (.istore 4, 2) := by decide +kernel
theorem dX8_tells_97 : decode cX8_tells 97 = .ok (.iload 4, 2) := by decide +kernel
theorem dX8_tells_99 : decode cX8_tells 99 = .ok (.bipush 6, 2) := by decide +kernel
theorem dX8_tells_101 : decode cX8_tells 101 = .ok (.if_icmp .ne 10, 3) := by decide +kernel
theorem dX8_tells_104 : decode cX8_tells 104 = .ok (.aload_n 0, 1) := by decide +kernel
theorem dX8_tells_105 : decode cX8_tells 105 = .ok (.getfield 116, 3) := by decide +kernel
theorem dX8_tells_108 : decode cX8_tells 108 = .ok (.goto 10, 3) := by decide +kernel
theorem dX8_tells_111 : decode cX8_tells 111 = .ok (.aload_n 0, 1) := by decide +kernel
theorem dX8_tells_112 : decode cX8_tells 112 = .ok (.iload_n 2, 1) := by decide +kernel
theorem dX8_tells_113 : decode cX8_tells 113 = .ok (.iload 4, 2) := by decide +kernel
theorem dX8_tells_115 : decode cX8_tells 115 = .ok (.invokevirtual 105, 3) := by decide +kernel
theorem dX8_tells_118 : decode cX8_tells 118 = .ok (.istore 5, 2) := by decide +kernel
theorem dX8_tells_120 : decode cX8_tells 120 = .ok (.iload 4, 2) := by decide +kernel
theorem dX8_tells_122 : decode cX8_tells 122 = .ok (.bipush 6, 2) := by decide +kernel
theorem dX8_tells_124 : decode cX8_tells 124 = .ok (.if_icmp .ne 12, 3) := by decide +kernel
theorem dX8_tells_127 : decode cX8_tells 127 = .ok (.aload_n 0, 1) := by decide +kernel
theorem dX8_tells_128 : decode cX8_tells 128 = .ok (.getfield 85, 3) := by decide +kernel
theorem dX8_tells_131 : decode cX8_tells 131 = .ok (.iconst 1, 1) := by decide +kernel
theorem dX8_tells_132 : decode cX8_tells 132 = .ok (.isub, 1) := by decide +kernel
theorem dX8_tells_133 : decode cX8_tells 133 = .ok (.goto 18, 3) := by decide +kernel
theorem dX8_tells_136 : decode cX8_tells 136 = .ok (.iload 4, 2) := by decide +kernel
theorem dX8_tells_138 : decode cX8_tells 138 = .ok (.iconst 5, 1) := by decide +kernel
theorem dX8_tells_139 : decode cX8_tells 139 = .ok (.if_icmp .ne 7, 3) := by decide +kernel
theorem dX8_tells_142 : decode cX8_tells 142 = .ok (.iconst 5, 1) := by decide +kernel
theorem dX8_tells_143 : decode cX8_tells 143 = .ok (.goto 8, 3) := by decide +kernel
theorem dX8_tells_146 : decode cX8_tells 146 = .ok (.iload 4, 2) := by decide +kernel
theorem dX8_tells_148 : decode cX8_tells 148 = .ok (.invokestatic 101, 3) := by decide +kernel
theorem dX8_tells_151 : decode cX8_tells 151 = .ok (.istore 6, 2) := by decide +kernel
theorem dX8_tells_153 : decode cX8_tells 153 = .ok (.iconst 0, 1) := by decide +kernel
theorem dX8_tells_154 : decode cX8_tells 154 = .ok (.istore 7, 2) := by decide +kernel
theorem dX8_tells_156 : decode cX8_tells 156 = .ok (.iconst 0, 1) := by decide +kernel
theorem dX8_tells_157 : decode cX8_tells 157 = .ok (.istore 8, 2) := by decide +kernel
theorem dX8_tells_159 : decode cX8_tells 159 = .ok (.iconst (-1), 1) := by decide +kernel
theorem dX8_tells_160 : decode cX8_tells 160 = .ok (.istore 9, 2) := by decide +kernel
theorem dX8_tells_162 : decode cX8_tells 162 = .ok (.iload 6, 2) := by decide +kernel
theorem dX8_tells_164 : decode cX8_tells 164 = .ok (.istore 10, 2) := by decide +kernel
theorem dX8_tells_166 : decode cX8_tells 166 = .ok (.iload 10, 2) := by decide +kernel
theorem dX8_tells_168 : decode cX8_tells 168 = .ok (.ifCond .lt 54, 3) := by decide +kernel
theorem dX8_tells_171 : decode cX8_tells 171 = .ok (.aload_n 0, 1) := by decide +kernel
theorem dX8_tells_172 : decode cX8_tells 172 = .ok (.iload 4, 2) := by decide +kernel
theorem dX8_tells_174 : decode cX8_tells 174 = .ok (.iload_n 2, 1) := by decide +kernel
theorem dX8_tells_175 : decode cX8_tells 175 = .ok (.iload 10, 2) := by decide +kernel
theorem dX8_tells_177 : decode cX8_tells 177 = .ok (.invokevirtual 109, 3) := by decide +kernel
theorem dX8_tells_180 : decode cX8_tells 180 = .ok (.aload_n 0, 1) := by decide +kernel
theorem dX8_tells_181 : decode cX8_tells 181 = .ok (.iload_n 1, 1) := by decide +kernel
theorem dX8_tells_182 : decode cX8_tells 182 = .ok (.invokevirtual 442, 3) := by decide +kernel
theorem dX8_tells_185 : decode cX8_tells 185 = .ok (.iconst (-1), 1) := by decide +kernel
theorem dX8_tells_186 : decode cX8_tells 186 = .ok (.if_icmp .ne 30, 3) := by decide +kernel
theorem dX8_tells_189 : decode cX8_tells 189 = .ok (.iload 7, 2) := by decide +kernel
theorem dX8_tells_191 : decode cX8_tells 191 = .ok (.iload 10, 2) := by decide +kernel
theorem dX8_tells_193 : decode cX8_tells 193 = .ok (.bipush 10, 2) := by decide +kernel
theorem dX8_tells_195 : decode cX8_tells 195 = .ok (.if_icmp .ge 10, 3) := by decide +kernel
theorem dX8_tells_198 : decode cX8_tells 198 = .ok (.iconst 1, 1) := by decide +kernel
theorem dX8_tells_199 : decode cX8_tells 199 = .ok (.iload 10, 2) := by decide +kernel
theorem dX8_tells_201 : decode cX8_tells 201 = .ok (.ishl, 1) := by decide +kernel
theorem dX8_tells_202 : decode cX8_tells 202 = .ok (.goto 4, 3) := by decide +kernel
theorem dX8_tells_205 : decode cX8_tells 205 = .ok (.iconst 0, 1) := by decide +kernel
theorem dX8_tells_206 : decode cX8_tells 206 = .ok (.ior, 1) := by decide +kernel
theorem dX8_tells_207 : decode cX8_tells 207 = .ok (.istore 7, 2) := by decide +kernel
theorem dX8_tells_209 : decode cX8_tells 209 = .ok (.iinc 8 1, 3) := by decide +kernel
theorem dX8_tells_212 : decode cX8_tells 212 = .ok (.iload 10, 2) := by decide +kernel
theorem dX8_tells_214 : decode cX8_tells 214 = .ok (.istore 9, 2) := by decide +kernel
theorem dX8_tells_216 : decode cX8_tells 216 = .ok (.iinc 10 (-1), 3) := by decide +kernel
theorem dX8_tells_219 : decode cX8_tells 219 = .ok (.goto (-53), 3) := by decide +kernel
theorem dX8_tells_222 : decode cX8_tells 222 = .ok (.aload_n 0, 1) := by decide +kernel
theorem dX8_tells_223 : decode cX8_tells 223 = .ok (.iload 4, 2) := by decide +kernel
theorem dX8_tells_225 : decode cX8_tells 225 = .ok (.iload_n 2, 1) := by decide +kernel
theorem dX8_tells_226 : decode cX8_tells 226 = .ok (.iload 5, 2) := by decide +kernel
theorem dX8_tells_228 : decode cX8_tells 228 = .ok (.invokevirtual 109, 3) := by decide +kernel
theorem dX8_tells_231 : decode cX8_tells 231 = .ok (.iload_n 3, 1) := by decide +kernel
theorem dX8_tells_232 : decode cX8_tells 232 = .ok (.iconst 3, 1) := by decide +kernel
theorem dX8_tells_233 : decode cX8_tells 233 = .ok (.if_icmp .ne 8, 3) := by decide +kernel
theorem dX8_tells_236 : decode cX8_tells 236 = .ok (.iload 8, 2) := by decide +kernel
theorem dX8_tells_238 : decode cX8_tells 238 = .ok (.goto 15, 3) := by decide +kernel
theorem dX8_tells_241 : decode cX8_tells 241 = .ok (.iload_n 3, 1) := by decide +kernel
theorem dX8_tells_242 : decode cX8_tells 242 = .ok (.iconst 4, 1) := by decide +kernel
theorem dX8_tells_243 : decode cX8_tells 243 = .ok (.if_icmp .ne 8, 3) := by decide +kernel
theorem dX8_tells_246 : decode cX8_tells 246 = .ok (.iload 9, 2) := by decide +kernel
theorem dX8_tells_248 : decode cX8_tells 248 = .ok (.goto 5, 3) := by decide +kernel
theorem dX8_tells_251 : decode cX8_tells 251 = .ok (.iload 7, 2) := by decide +kernel
theorem dX8_tells_253 : decode cX8_tells 253 = .ok (.ireturn, 1) := by decide +kernel
theorem dX8_film_0 : decode cX8_film 0 = .ok (.iload_n 1, 1) := by decide +kernel
theorem dX8_film_1 : decode cX8_film 1 = .ok (.invokestatic 439, 3) := by decide +kernel
theorem dX8_film_4 : decode cX8_film 4 = .ok (.ifCond .eq 15, 3) := by decide +kernel
theorem dX8_film_7 : decode cX8_film 7 = .ok (.iload_n 2, 1) := by decide +kernel
theorem dX8_film_8 : decode cX8_film 8 = .ok (.i2l, 1) := by decide +kernel
theorem dX8_film_9 : decode cX8_film 9 = .ok (.lconst 0, 1) := by decide +kernel
theorem dX8_film_10 : decode cX8_film 10 = .ok (.ldc2_w 445, 3) := by decide +kernel
theorem dX8_film_13 : decode cX8_film 13 = .ok (.invokestatic 91, 3) := by decide +kernel
theorem dX8_film_16 : decode cX8_film 16 = .ok (.ifCond .ne 6, 3) := by decide +kernel
theorem dX8_film_19 : decode cX8_film 19 = .ok (.bipush (-2), 2) := by decide +kernel
theorem dX8_film_21 : decode cX8_film 21 = .ok (.ireturn, 1) := by decide +kernel
theorem dX8_film_22 : decode cX8_film 22 = .ok (.aload_n 0, 1) := by decide +kernel
theorem dX8_film_23 : decode cX8_film 23 = .ok (.iload_n 1, 1) := by decide +kernel
theorem dX8_film_24 : decode cX8_film 24 = .ok (.iconst 0, 1) := by decide +kernel
theorem dX8_film_25 : decode cX8_film 25 = .ok (.iload_n 2, 1) := by decide +kernel
theorem dX8_film_26 : decode cX8_film 26 = .ok (.invokevirtual 447, 3) := by decide +kernel
theorem dX8_film_29 : decode cX8_film 29 = .ok (.pop, 1) := by decide +kernel
theorem dX8_film_30 : decode cX8_film 30 = .ok (.aload_n 0, 1) := by decide +kernel
theorem dX8_film_31 : decode cX8_film 31 = .ok (.invokevirtual 430, 3) := by decide +kernel
theorem dX8_film_34 : decode cX8_film 34 = .ok (.iconst 0, 1) := by decide +kernel
theorem dX8_film_35 : decode cX8_film 35 = .ok (.istore_n 3, 1) := by decide +kernel
theorem dX8_film_36 : decode cX8_film 36 = .ok (.iload_n 3, 1) := by decide +kernel
theorem dX8_film_37 : decode cX8_film 37 = .ok (.iload_n 2, 1) := by decide +kernel
theorem dX8_film_38 : decode cX8_film 38 = .ok (.if_icmp .ge 29, 3) := by decide +kernel
theorem dX8_film_41 : decode cX8_film 41 = .ok (.aload_n 0, 1) := by decide +kernel
theorem dX8_film_42 : decode cX8_film 42 = .ok (.invokevirtual 368, 3) := by decide +kernel
theorem dX8_film_45 : decode cX8_film 45 = .ok (.pop, 1) := by decide +kernel
theorem dX8_film_46 : decode cX8_film 46 = .ok (.aload_n 0, 1) := by decide +kernel
theorem dX8_film_47 : decode cX8_film 47 = .ok (.getfield 78, 3) := by decide +kernel
theorem dX8_film_50 : decode cX8_film 50 = .ok (.bipush 40, 2) := by decide +kernel
theorem dX8_film_52 : decode cX8_film 52 = .ok (.iload_n 1, 1) := by decide +kernel
theorem dX8_film_53 : decode cX8_film 53 = .ok (.imul, 1) := by decide +kernel
theorem dX8_film_54 : decode cX8_film 54 = .ok (.iload_n 3, 1) := by decide +kernel
theorem dX8_film_55 : decode cX8_film 55 = .ok (.iadd, 1) := by decide +kernel
theorem dX8_film_56 : decode cX8_film 56 = .ok (.aload_n 0, 1) := by decide +kernel
theorem dX8_film_57 : decode cX8_film 57 = .ok (.invokevirtual 433, 3) := by decide +kernel
theorem dX8_film_60 : decode cX8_film 60 = .ok (.iastore, 1) := by decide +kernel
theorem dX8_film_61 : decode cX8_film 61 = .ok (.iinc 3 1, 3) := by decide +kernel
theorem dX8_film_64 : decode cX8_film 64 = .ok (.goto (-28), 3) := by decide +kernel
theorem dX8_film_67 : decode cX8_film 67 = .ok (.aload_n 0, 1) := by decide +kernel
theorem dX8_film_68 : decode cX8_film 68 = .ok (.invokevirtual 436, 3) := by decide +kernel
theorem dX8_film_71 : decode cX8_film 71 = .ok (.iload_n 2, 1) := by decide +kernel
theorem dX8_film_72 : decode cX8_film 72 = .ok (.ireturn, 1) := by decide +kernel
theorem dX8_draws_0 : decode cX8_draws 0 = .ok (.iload_n 1, 1) := by decide +kernel
theorem dX8_draws_1 : decode cX8_draws 1 = .ok (.istore_n 2, 1) := by decide +kernel
theorem dX8_draws_2 : decode cX8_draws 2 = .ok (.iconst 0, 1) := by decide +kernel
theorem dX8_draws_3 : decode cX8_draws 3 = .ok (.istore_n 3, 1) := by decide +kernel
theorem dX8_draws_4 : decode cX8_draws 4 = .ok (.iload_n 3, 1) := by decide +kernel
theorem dX8_draws_5 : decode cX8_draws 5 = .ok (.aload_n 0, 1) := by decide +kernel
theorem dX8_draws_6 : decode cX8_draws 6 = .ok (.getfield 88, 3) := by decide +kernel
theorem dX8_draws_9 : decode cX8_draws 9 = .ok (.if_icmp .ge 67, 3) := by decide +kernel
theorem dX8_draws_12 : decode cX8_draws 12 = .ok (.aload_n 0, 1) := by decide +kernel
theorem dX8_draws_13 : decode cX8_draws 13 = .ok (.getfield 57, 3) := by decide +kernel
theorem dX8_draws_16 : decode cX8_draws 16 = .ok (.iload_n 3, 1) := by decide +kernel
theorem dX8_draws_17 : decode cX8_draws 17 = .ok (.aload_n 0, 1) := by decide +kernel
theorem dX8_draws_18 : decode cX8_draws 18 = .ok (.getfield 26, 3) := by decide +kernel
theorem dX8_draws_21 : decode cX8_draws 21 = .ok (.iconst 4, 1) := by decide +kernel
theorem dX8_draws_22 : decode cX8_draws 22 = .ok (.iload_n 3, 1) := by decide +kernel
theorem dX8_draws_23 : decode cX8_draws 23 = .ok (.imul, 1) := by decide +kernel
theorem dX8_draws_24 : decode cX8_draws 24 = .ok (.iconst 1, 1) := by decide +kernel
theorem dX8_draws_25 : decode cX8_draws 25 = .ok (.iadd, 1) := by decide +kernel
theorem dX8_draws_26 : decode cX8_draws 26 = .ok (.iaload, 1) := by decide +kernel
theorem dX8_draws_27 : decode cX8_draws 27 = .ok (.iastore, 1) := by decide +kernel
theorem dX8_draws_28 : decode cX8_draws 28 = .ok (.iload_n 2, 1) := by decide +kernel
theorem dX8_draws_29 : decode cX8_draws 29 = .ok (.ldc_w 450, 3) := by decide +kernel
theorem dX8_draws_32 : decode cX8_draws 32 = .ok (.imul, 1) := by decide +kernel
theorem dX8_draws_33 : decode cX8_draws 33 = .ok (.sipush 12345, 3) := by decide +kernel
theorem dX8_draws_36 : decode cX8_draws 36 = .ok (.iadd, 1) := by decide +kernel
theorem dX8_draws_37 : decode cX8_draws 37 = .ok (.istore_n 2, 1) := by decide +kernel
theorem dX8_draws_38 : decode cX8_draws 38 = .ok (.aload_n 0, 1) := by decide +kernel
theorem dX8_draws_39 : decode cX8_draws 39 = .ok (.getfield 26, 3) := by decide +kernel
theorem dX8_draws_42 : decode cX8_draws 42 = .ok (.iconst 4, 1) := by decide +kernel
theorem dX8_draws_43 : decode cX8_draws 43 = .ok (.iload_n 3, 1) := by decide +kernel
theorem dX8_draws_44 : decode cX8_draws 44 = .ok (.imul, 1) := by decide +kernel
theorem dX8_draws_45 : decode cX8_draws 45 = .ok (.iconst 1, 1) := by decide +kernel
theorem dX8_draws_46 : decode cX8_draws 46 = .ok (.iadd, 1) := by decide +kernel
theorem dX8_draws_47 : decode cX8_draws 47 = .ok (.iload_n 2, 1) := by decide +kernel
theorem dX8_draws_48 : decode cX8_draws 48 = .ok (.bipush 9, 2) := by decide +kernel
theorem dX8_draws_50 : decode cX8_draws 50 = .ok (.iushr, 1) := by decide +kernel
theorem dX8_draws_51 : decode cX8_draws 51 = .ok (.bipush 32, 2) := by decide +kernel
theorem dX8_draws_53 : decode cX8_draws 53 = .ok (.irem, 1) := by decide +kernel
theorem dX8_draws_54 : decode cX8_draws 54 = .ok (.iconst 1, 1) := by decide +kernel
theorem dX8_draws_55 : decode cX8_draws 55 = .ok (.aload_n 0, 1) := by decide +kernel
theorem dX8_draws_56 : decode cX8_draws 56 = .ok (.getfield 88, 3) := by decide +kernel
theorem dX8_draws_59 : decode cX8_draws 59 = .ok (.ishl, 1) := by decide +kernel
theorem dX8_draws_60 : decode cX8_draws 60 = .ok (.iconst 1, 1) := by decide +kernel
theorem dX8_draws_61 : decode cX8_draws 61 = .ok (.isub, 1) := by decide +kernel
theorem dX8_draws_62 : decode cX8_draws 62 = .ok (.iand, 1) := by decide +kernel
theorem dX8_draws_63 : decode cX8_draws 63 = .ok (.iconst 1, 1) := by decide +kernel
theorem dX8_draws_64 : decode cX8_draws 64 = .ok (.iload_n 3, 1) := by decide +kernel
theorem dX8_draws_65 : decode cX8_draws 65 = .ok (.ishl, 1) := by decide +kernel
theorem dX8_draws_66 : decode cX8_draws 66 = .ok (.iconst (-1), 1) := by decide +kernel
theorem dX8_draws_67 : decode cX8_draws 67 = .ok (.ixor, 1) := by decide +kernel
theorem dX8_draws_68 : decode cX8_draws 68 = .ok (.iand, 1) := by decide +kernel
theorem dX8_draws_69 : decode cX8_draws 69 = .ok (.iastore, 1) := by decide +kernel
theorem dX8_draws_70 : decode cX8_draws 70 = .ok (.iinc 3 1, 3) := by decide +kernel
theorem dX8_draws_73 : decode cX8_draws 73 = .ok (.goto (-69), 3) := by decide +kernel
theorem dX8_draws_76 : decode cX8_draws 76 = .ok (.return_, 1) := by decide +kernel
