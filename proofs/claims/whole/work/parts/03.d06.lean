theorem dX8_likesAgain_0 : decode cX8_likesAgain 0 = .ok (.iconst 0, 1) := by decide +kernel
theorem dX8_likesAgain_1 : decode cX8_likesAgain 1 = .ok (.istore_n 1, 1) := by decide +kernel
theorem dX8_likesAgain_2 : decode cX8_likesAgain 2 = .ok (.iload_n 1, 1) := by decide +kernel
theorem dX8_likesAgain_3 : decode cX8_likesAgain 3 = .ok (.aload_n 0, 1) := by decide +kernel
theorem dX8_likesAgain_4 : decode cX8_likesAgain 4 = .ok (.getfield 88, 3) := by decide +kernel
theorem dX8_likesAgain_7 : decode cX8_likesAgain 7 = .ok (.if_icmp .ge 25, 3) := by decide +kernel
theorem dX8_likesAgain_10 : decode cX8_likesAgain 10 = .ok (.aload_n 0, 1) := by decide +kernel
theorem dX8_likesAgain_11 : decode cX8_likesAgain 11 = .ok (.getfield 26, 3) := by decide +kernel
theorem dX8_likesAgain_14 : decode cX8_likesAgain 14 = .ok (.iconst 4, 1) := by decide +kernel
theorem dX8_likesAgain_15 : decode cX8_likesAgain 15 = .ok (.iload_n 1, 1) := by decide +kernel
theorem dX8_likesAgain_16 : decode cX8_likesAgain 16 = .ok (.imul, 1) := by decide +kernel
theorem dX8_likesAgain_17 : decode cX8_likesAgain 17 = .ok (.iconst 1, 1) := by decide +kernel
theorem dX8_likesAgain_18 : decode cX8_likesAgain 18 = .ok (.iadd, 1) := by decide +kernel
theorem dX8_likesAgain_19 : decode cX8_likesAgain 19 = .ok (.aload_n 0, 1) := by decide +kernel
theorem dX8_likesAgain_20 : decode cX8_likesAgain 20 = .ok (.getfield 57, 3) := by decide +kernel
theorem dX8_likesAgain_23 : decode cX8_likesAgain 23 = .ok (.iload_n 1, 1) := by decide +kernel
theorem dX8_likesAgain_24 : decode cX8_likesAgain 24 = .ok (.iaload, 1) := by decide +kernel
theorem dX8_likesAgain_25 : decode cX8_likesAgain 25 = .ok (.iastore, 1) := by decide +kernel
theorem dX8_likesAgain_26 : decode cX8_likesAgain 26 = .ok (.iinc 1 1, 3) := by decide +kernel
theorem dX8_likesAgain_29 : decode cX8_likesAgain 29 = .ok (.goto (-27), 3) := by decide +kernel
theorem dX8_likesAgain_32 : decode cX8_likesAgain 32 = .ok (.return_, 1) := by decide +kernel
theorem dX8_drawn_0 : decode cX8_drawn 0 = .ok (.aload_n 0, 1) := by decide +kernel
theorem dX8_drawn_1 : decode cX8_drawn 1 = .ok (.iload_n 1, 1) := by decide +kernel
theorem dX8_drawn_2 : decode cX8_drawn 2 = .ok (.invokevirtual 451, 3) := by decide +kernel
theorem dX8_drawn_5 : decode cX8_drawn 5 = .ok (.aload_n 0, 1) := by decide +kernel
theorem dX8_drawn_6 : decode cX8_drawn 6 = .ok (.invokevirtual 401, 3) := by decide +kernel
theorem dX8_drawn_9 : decode cX8_drawn 9 = .ok (.aload_n 0, 1) := by decide +kernel
theorem dX8_drawn_10 : decode cX8_drawn 10 = .ok (.invokevirtual 454, 3) := by decide +kernel
theorem dX8_drawn_13 : decode cX8_drawn 13 = .ok (.aload_n 0, 1) := by decide +kernel
theorem dX8_drawn_14 : decode cX8_drawn 14 = .ok (.getfield 371, 3) := by decide +kernel
theorem dX8_drawn_17 : decode cX8_drawn 17 = .ok (.ireturn, 1) := by decide +kernel
theorem dX8_chance_0 : decode cX8_chance 0 = .ok (.iload_n 2, 1) := by decide +kernel
theorem dX8_chance_1 : decode cX8_chance 1 = .ok (.i2l, 1) := by decide +kernel
theorem dX8_chance_2 : decode cX8_chance 2 = .ok (.lconst 1, 1) := by decide +kernel
theorem dX8_chance_3 : decode cX8_chance 3 = .ok (.ldc2_w 179, 3) := by decide +kernel
theorem dX8_chance_6 : decode cX8_chance 6 = .ok (.invokestatic 91, 3) := by decide +kernel
theorem dX8_chance_9 : decode cX8_chance 9 = .ok (.ifCond .eq 22, 3) := by decide +kernel
theorem dX8_chance_12 : decode cX8_chance 12 = .ok (.aload_n 0, 1) := by decide +kernel
theorem dX8_chance_13 : decode cX8_chance 13 = .ok (.iload_n 3, 1) := by decide +kernel
theorem dX8_chance_14 : decode cX8_chance 14 = .ok (.invokevirtual 97, 3) := by decide +kernel
theorem dX8_chance_17 : decode cX8_chance 17 = .ok (.ifCond .eq 14, 3) := by decide +kernel
theorem dX8_chance_20 : decode cX8_chance 20 = .ok (.iload 4, 2) := by decide +kernel
theorem dX8_chance_22 : decode cX8_chance 22 = .ok (.i2l, 1) := by decide +kernel
theorem dX8_chance_23 : decode cX8_chance 23 = .ok (.lconst 0, 1) := by decide +kernel
theorem dX8_chance_24 : decode cX8_chance 24 = .ok (.lconst 1, 1) := by decide +kernel
theorem dX8_chance_25 : decode cX8_chance 25 = .ok (.invokestatic 91, 3) := by decide +kernel
theorem dX8_chance_28 : decode cX8_chance 28 = .ok (.ifCond .ne 7, 3) := by decide +kernel
theorem dX8_chance_31 : decode cX8_chance 31 = .ok (.ldc2_w 457, 3) := by decide +kernel
theorem dX8_chance_34 : decode cX8_chance 34 = .ok (.lreturn, 1) := by decide +kernel
theorem dX8_chance_35 : decode cX8_chance 35 = .ok (.lconst 0, 1) := by decide +kernel
theorem dX8_chance_36 : decode cX8_chance 36 = .ok (.lstore 5, 2) := by decide +kernel
theorem dX8_chance_38 : decode cX8_chance 38 = .ok (.iconst 0, 1) := by decide +kernel
theorem dX8_chance_39 : decode cX8_chance 39 = .ok (.istore 7, 2) := by decide +kernel
theorem dX8_chance_41 : decode cX8_chance 41 = .ok (.iload 7, 2) := by decide +kernel
theorem dX8_chance_43 : decode cX8_chance 43 = .ok (.iload_n 2, 1) := by decide +kernel
theorem dX8_chance_44 : decode cX8_chance 44 = .ok (.if_icmp .ge 43, 3) := by decide +kernel
theorem dX8_chance_47 : decode cX8_chance 47 = .ok (.aload_n 0, 1) := by decide +kernel
theorem dX8_chance_48 : decode cX8_chance 48 = .ok (.iload_n 1, 1) := by decide +kernel
theorem dX8_chance_49 : decode cX8_chance 49 = .ok (.iload 7, 2) := by decide +kernel
theorem dX8_chance_51 : decode cX8_chance 51 = .ok (.iadd, 1) := by decide +kernel
theorem dX8_chance_52 : decode cX8_chance 52 = .ok (.invokevirtual 451, 3) := by decide +kernel
theorem dX8_chance_55 : decode cX8_chance 55 = .ok (.aload_n 0, 1) := by decide +kernel
theorem dX8_chance_56 : decode cX8_chance 56 = .ok (.iload_n 3, 1) := by decide +kernel
theorem dX8_chance_57 : decode cX8_chance 57 = .ok (.invokevirtual 416, 3) := by decide +kernel
theorem dX8_chance_60 : decode cX8_chance 60 = .ok (.lload 5, 2) := by decide +kernel
theorem dX8_chance_62 : decode cX8_chance 62 = .ok (.aload_n 0, 1) := by decide +kernel
theorem dX8_chance_63 : decode cX8_chance 63 = .ok (.getfield 410, 3) := by decide +kernel
theorem dX8_chance_66 : decode cX8_chance 66 = .ok (.ifCond .ne 7, 3) := by decide +kernel
theorem dX8_chance_69 : decode cX8_chance 69 = .ok (.lconst 1, 1) := by decide +kernel
theorem dX8_chance_70 : decode cX8_chance 70 = .ok (.goto 4, 3) := by decide +kernel
theorem dX8_chance_73 : decode cX8_chance 73 = .ok (.lconst 0, 1) := by decide +kernel
theorem dX8_chance_74 : decode cX8_chance 74 = .ok (.ladd, 1) := by decide +kernel
theorem dX8_chance_75 : decode cX8_chance 75 = .ok (.lstore 5, 2) := by decide +kernel
theorem dX8_chance_77 : decode cX8_chance 77 = .ok (.aload_n 0, 1) := by decide +kernel
theorem dX8_chance_78 : decode cX8_chance 78 = .ok (.invokevirtual 454, 3) := by decide +kernel
theorem dX8_chance_81 : decode cX8_chance 81 = .ok (.iinc 7 1, 3) := by decide +kernel
theorem dX8_chance_84 : decode cX8_chance 84 = .ok (.goto (-43), 3) := by decide +kernel
theorem dX8_chance_87 : decode cX8_chance 87 = .ok (.lload 5, 2) := by decide +kernel
theorem dX8_chance_89 : decode cX8_chance 89 = .ok (.lstore 7, 2) := by decide +kernel
theorem dX8_chance_91 : decode cX8_chance 91 = .ok (.iload_n 2, 1) := by decide +kernel
theorem dX8_chance_92 : decode cX8_chance 92 = .ok (.i2l, 1) := by decide +kernel
theorem dX8_chance_93 : decode cX8_chance 93 = .ok (.lstore 9, 2) := by decide +kernel
theorem dX8_chance_95 : decode cX8_chance 95 = .ok (.lload 9, 2) := by decide +kernel
theorem dX8_chance_97 : decode cX8_chance 97 = .ok (.lconst 0, 1) := by decide +kernel
theorem dX8_chance_98 : decode cX8_chance 98 = .ok (.lcmp, 1) := by decide +kernel
theorem dX8_chance_99 : decode cX8_chance 99 = .ok (.ifCond .eq 21, 3) := by decide +kernel
theorem dX8_chance_102 : decode cX8_chance 102 = .ok (.lload 7, 2) := by decide +kernel
theorem dX8_chance_104 : decode cX8_chance 104 = .ok (.lload 9, 2) := by decide +kernel
theorem dX8_chance_106 : decode cX8_chance 106 = .ok (.lrem, 1) := by decide +kernel
theorem dX8_chance_107 : decode cX8_chance 107 = .ok (.lstore 11, 2) := by decide +kernel
theorem dX8_chance_109 : decode cX8_chance 109 = .ok (.lload 9, 2) := by decide +kernel
theorem dX8_chance_111 : decode cX8_chance 111 = .ok (.lstore 7, 2) := by decide +kernel
theorem dX8_chance_113 : decode cX8_chance 113 = .ok (.lload 11, 2) := by decide +kernel
theorem dX8_chance_115 : decode cX8_chance 115 = .ok (.lstore 9, 2) := by decide +kernel
theorem dX8_chance_117 : decode cX8_chance 117 = .ok (.goto (-22), 3) := by decide +kernel
theorem dX8_chance_120 : decode cX8_chance 120 = .ok (.iload 4, 2) := by decide +kernel
theorem dX8_chance_122 : decode cX8_chance 122 = .ok (.ifCond .ne 11, 3) := by decide +kernel
theorem dX8_chance_125 : decode cX8_chance 125 = .ok (.lload 5, 2) := by decide +kernel
theorem dX8_chance_127 : decode cX8_chance 127 = .ok (.lload 7, 2) := by decide +kernel
theorem dX8_chance_129 : decode cX8_chance 129 = .ok (.ldiv, 1) := by decide +kernel
theorem dX8_chance_130 : decode cX8_chance 130 = .ok (.goto 8, 3) := by decide +kernel
theorem dX8_chance_133 : decode cX8_chance 133 = .ok (.iload_n 2, 1) := by decide +kernel
theorem dX8_chance_134 : decode cX8_chance 134 = .ok (.i2l, 1) := by decide +kernel
theorem dX8_chance_135 : decode cX8_chance 135 = .ok (.lload 7, 2) := by decide +kernel
theorem dX8_chance_137 : decode cX8_chance 137 = .ok (.ldiv, 1) := by decide +kernel
theorem dX8_chance_138 : decode cX8_chance 138 = .ok (.lreturn, 1) := by decide +kernel
theorem dX8_image_0 : decode cX8_image 0 = .ok (.iconst 0, 1) := by decide +kernel
theorem dX8_image_1 : decode cX8_image 1 = .ok (.istore_n 1, 1) := by decide +kernel
theorem dX8_image_2 : decode cX8_image 2 = .ok (.iload_n 1, 1) := by decide +kernel
theorem dX8_image_3 : decode cX8_image 3 = .ok (.iconst 5, 1) := by decide +kernel
theorem dX8_image_4 : decode cX8_image 4 = .ok (.if_icmp .ge 21, 3) := by decide +kernel
theorem dX8_image_7 : decode cX8_image 7 = .ok (.aload_n 0, 1) := by decide +kernel
theorem dX8_image_8 : decode cX8_image 8 = .ok (.getfield 60, 3) := by decide +kernel
theorem dX8_image_11 : decode cX8_image 11 = .ok (.iload_n 1, 1) := by decide +kernel
theorem dX8_image_12 : decode cX8_image 12 = .ok (.aload_n 0, 1) := by decide +kernel
theorem dX8_image_13 : decode cX8_image 13 = .ok (.getfield 29, 3) := by decide +kernel
theorem dX8_image_16 : decode cX8_image 16 = .ok (.iload_n 1, 1) := by decide +kernel
theorem dX8_image_17 : decode cX8_image 17 = .ok (.iaload, 1) := by decide +kernel
theorem dX8_image_18 : decode cX8_image 18 = .ok (.iastore, 1) := by decide +kernel
theorem dX8_image_19 : decode cX8_image 19 = .ok (.iinc 1 1, 3) := by decide +kernel
theorem dX8_image_22 : decode cX8_image 22 = .ok (.goto (-20), 3) := by decide +kernel
theorem dX8_image_25 : decode cX8_image 25 = .ok (.iconst 0, 1) := by decide +kernel
theorem dX8_image_26 : decode cX8_image 26 = .ok (.istore_n 1, 1) := by decide +kernel
theorem dX8_image_27 : decode cX8_image 27 = .ok (.iload_n 1, 1) := by decide +kernel
theorem dX8_image_28 : decode cX8_image 28 = .ok (.bipush 20, 2) := by decide +kernel
theorem dX8_image_30 : decode cX8_image 30 = .ok (.if_icmp .ge 21, 3) := by decide +kernel
theorem dX8_image_33 : decode cX8_image 33 = .ok (.aload_n 0, 1) := by decide +kernel
theorem dX8_image_34 : decode cX8_image 34 = .ok (.getfield 63, 3) := by decide +kernel
theorem dX8_image_37 : decode cX8_image 37 = .ok (.iload_n 1, 1) := by decide +kernel
theorem dX8_image_38 : decode cX8_image 38 = .ok (.aload_n 0, 1) := by decide +kernel
theorem dX8_image_39 : decode cX8_image 39 = .ok (.getfield 26, 3) := by decide +kernel
theorem dX8_image_42 : decode cX8_image 42 = .ok (.iload_n 1, 1) := by decide +kernel
theorem dX8_image_43 : decode cX8_image 43 = .ok (.iaload, 1) := by decide +kernel
theorem dX8_image_44 : decode cX8_image 44 = .ok (.iastore, 1) := by decide +kernel
theorem dX8_image_45 : decode cX8_image 45 = .ok (.iinc 1 1, 3) := by decide +kernel
theorem dX8_image_48 : decode cX8_image 48 = .ok (.goto (-21), 3) := by decide +kernel
theorem dX8_image_51 : decode cX8_image 51 = .ok (.aload_n 0, 1) := by decide +kernel
theorem dX8_image_52 : decode cX8_image 52 = .ok (.aload_n 0, 1) := by decide +kernel
theorem dX8_image_53 : decode cX8_image 53 = .ok (.getfield 123, 3) := by decide +kernel
theorem dX8_image_56 : decode cX8_image 56 = .ok (.putfield 459, 3) := by decide +kernel
theorem dX8_image_59 : decode cX8_image 59 = .ok (.aload_n 0, 1) := by decide +kernel
theorem dX8_image_60 : decode cX8_image 60 = .ok (.aload_n 0, 1) := by decide +kernel
theorem dX8_image_61 : decode cX8_image 61 = .ok (.getfield 88, 3) := by decide +kernel
theorem dX8_image_64 : decode cX8_image 64 = .ok (.putfield 66, 3) := by decide +kernel
theorem dX8_image_67 : decode cX8_image 67 = .ok (.aload_n 0, 1) := by decide +kernel
theorem dX8_image_68 : decode cX8_image 68 = .ok (.aload_n 0, 1) := by decide +kernel
theorem dX8_image_69 : decode cX8_image 69 = .ok (.getfield 113, 3) := by decide +kernel
theorem dX8_image_72 : decode cX8_image 72 = .ok (.putfield 462, 3) := by decide +kernel
theorem dX8_image_75 : decode cX8_image 75 = .ok (.aload_n 0, 1) := by decide +kernel
theorem dX8_image_76 : decode cX8_image 76 = .ok (.aload_n 0, 1) := by decide +kernel
theorem dX8_image_77 : decode cX8_image 77 = .ok (.getfield 116, 3) := by decide +kernel
theorem dX8_image_80 : decode cX8_image 80 = .ok (.putfield 465, 3) := by decide +kernel
theorem dX8_image_83 : decode cX8_image 83 = .ok (.aload_n 0, 1) := by decide +kernel
theorem dX8_image_84 : decode cX8_image 84 = .ok (.getfield 88, 3) := by decide +kernel
theorem dX8_image_87 : decode cX8_image 87 = .ok (.ireturn, 1) := by decide +kernel
theorem dX8_back_0 : decode cX8_back 0 = .ok (.aload_n 0, 1) := by decide +kernel
theorem dX8_back_1 : decode cX8_back 1 = .ok (.getfield 66, 3) := by decide +kernel
theorem dX8_back_4 : decode cX8_back 4 = .ok (.iconst (-1), 1) := by decide +kernel
theorem dX8_back_5 : decode cX8_back 5 = .ok (.if_icmp .ne 6, 3) := by decide +kernel
theorem dX8_back_8 : decode cX8_back 8 = .ok (.bipush (-3), 2) := by decide +kernel
theorem dX8_back_10 : decode cX8_back 10 = .ok (.ireturn, 1) := by decide +kernel
theorem dX8_back_11 : decode cX8_back 11 = .ok (.iconst 0, 1) := by decide +kernel
theorem dX8_back_12 : decode cX8_back 12 = .ok (.istore_n 1, 1) := by decide +kernel
theorem dX8_back_13 : decode cX8_back 13 = .ok (.iload_n 1, 1) := by decide +kernel
theorem dX8_back_14 : decode cX8_back 14 = .ok (.iconst 5, 1) := by decide +kernel
theorem dX8_back_15 : decode cX8_back 15 = .ok (.if_icmp .ge 21, 3) := by decide +kernel
theorem dX8_back_18 : decode cX8_back 18 = .ok (.aload_n 0, 1) := by decide +kernel
theorem dX8_back_19 : decode cX8_back 19 = .ok (.getfield 29, 3) := by decide +kernel
theorem dX8_back_22 : decode cX8_back 22 = .ok (.iload_n 1, 1) := by decide +kernel
theorem dX8_back_23 : decode cX8_back 23 = .ok (.aload_n 0, 1) := by decide +kernel
theorem dX8_back_24 : decode cX8_back 24 = .ok (.getfield 60, 3) := by decide +kernel
theorem dX8_back_27 : decode cX8_back 27 = .ok (.iload_n 1, 1) := by decide +kernel
theorem dX8_back_28 : decode cX8_back 28 = .ok (.iaload, 1) := by decide +kernel
theorem dX8_back_29 : decode cX8_back 29 = .ok (.iastore, 1) := by decide +kernel
theorem dX8_back_30 : decode cX8_back 30 = .ok (.iinc 1 1, 3) := by decide +kernel
theorem dX8_back_33 : decode cX8_back 33 = .ok (.goto (-20), 3) := by decide +kernel
theorem dX8_back_36 : decode cX8_back 36 = .ok (.iconst 0, 1) := by decide +kernel
theorem dX8_back_37 : decode cX8_back 37 = .ok (.istore_n 1, 1) := by decide +kernel
theorem dX8_back_38 : decode cX8_back 38 = .ok (.iload_n 1, 1) := by decide +kernel
theorem dX8_back_39 : decode cX8_back 39 = .ok (.bipush 20, 2) := by decide +kernel
theorem dX8_back_41 : decode cX8_back 41 = .ok (.if_icmp .ge 21, 3) := by decide +kernel
theorem dX8_back_44 : decode cX8_back 44 = .ok (.aload_n 0, 1) := by decide +kernel
theorem dX8_back_45 : decode cX8_back 45 = .ok (.getfield 26, 3) := by decide +kernel
theorem dX8_back_48 : decode cX8_back 48 = .ok (.iload_n 1, 1) := by decide +kernel
theorem dX8_back_49 : decode cX8_back 49 = .ok (.aload_n 0, 1) := by decide +kernel
theorem dX8_back_50 : decode cX8_back 50 = .ok (.getfield 63, 3) := by decide +kernel
theorem dX8_back_53 : decode cX8_back 53 = .ok (.iload_n 1, 1) := by decide +kernel
theorem dX8_back_54 : decode cX8_back 54 = .ok (.iaload, 1) := by decide +kernel
theorem dX8_back_55 : decode cX8_back 55 = .ok (.iastore, 1) := by decide +kernel
theorem dX8_back_56 : decode cX8_back 56 = .ok (.iinc 1 1, 3) := by decide +kernel
theorem dX8_back_59 : decode cX8_back 59 = .ok (.goto (-21), 3) := by decide +kernel
theorem dX8_back_62 : decode cX8_back 62 = .ok (.aload_n 0, 1) := by decide +kernel
theorem dX8_back_63 : decode cX8_back 63 = .ok (.aload_n 0, 1) := by decide +kernel
theorem dX8_back_64 : decode cX8_back 64 = .ok (.getfield 459, 3) := by decide +kernel
theorem dX8_back_67 : decode cX8_back 67 = .ok (.putfield 123, 3) := by decide +kernel
theorem dX8_back_70 : decode cX8_back 70 = .ok (.aload_n 0, 1) := by decide +kernel
theorem dX8_back_71 : decode cX8_back 71 = .ok (.aload_n 0, 1) := by decide +kernel
theorem dX8_back_72 : decode cX8_back 72 = .ok (.getfield 66, 3) := by decide +kernel
theorem dX8_back_75 : decode cX8_back 75 = .ok (.putfield 88, 3) := by decide +kernel
theorem dX8_back_78 : decode cX8_back 78 = .ok (.aload_n 0, 1) := by decide +kernel
theorem dX8_back_79 : decode cX8_back 79 = .ok (.aload_n 0, 1) := by decide +kernel
theorem dX8_back_80 : decode cX8_back 80 = .ok (.getfield 462, 3) := by decide +kernel
theorem dX8_back_83 : decode cX8_back 83 = .ok (.putfield 113, 3) := by decide +kernel
theorem dX8_back_86 : decode cX8_back 86 = .ok (.aload_n 0, 1) := by decide +kernel
theorem dX8_back_87 : decode cX8_back 87 = .ok (.aload_n 0, 1) := by decide +kernel
theorem dX8_back_88 : decode cX8_back 88 = .ok (.getfield 465, 3) := by decide +kernel
theorem dX8_back_91 : decode cX8_back 91 = .ok (.putfield 116, 3) := by decide +kernel
theorem dX8_back_94 : decode cX8_back 94 = .ok (.aload_n 0, 1) := by decide +kernel
theorem dX8_back_95 : decode cX8_back 95 = .ok (.getfield 88, 3) := by decide +kernel
theorem dX8_back_98 : decode cX8_back 98 = .ok (.ireturn, 1) := by decide +kernel
theorem dX8_count_0 : decode cX8_count 0 = .ok (.iload_n 1, 1) := by decide +kernel
theorem dX8_count_1 : decode cX8_count 1 = .ok (.i2l, 1) := by decide +kernel
theorem dX8_count_2 : decode cX8_count 2 = .ok (.lconst 0, 1) := by decide +kernel
theorem dX8_count_3 : decode cX8_count 3 = .ok (.ldc2_w 119, 3) := by decide +kernel
theorem dX8_count_6 : decode cX8_count 6 = .ok (.invokestatic 91, 3) := by decide +kernel
theorem dX8_count_9 : decode cX8_count 9 = .ok (.ifCond .ne 6, 3) := by decide +kernel
theorem dX8_count_12 : decode cX8_count 12 = .ok (.bipush (-2), 2) := by decide +kernel
theorem dX8_count_14 : decode cX8_count 14 = .ok (.ireturn, 1) := by decide +kernel
theorem dX8_count_15 : decode cX8_count 15 = .ok (.iload_n 1, 1) := by decide +kernel
theorem dX8_count_16 : decode cX8_count 16 = .ok (.iconst 3, 1) := by decide +kernel
theorem dX8_count_17 : decode cX8_count 17 = .ok (.if_icmp .ge 31, 3) := by decide +kernel
theorem dX8_count_20 : decode cX8_count 20 = .ok (.iload_n 1, 1) := by decide +kernel
theorem dX8_count_21 : decode cX8_count 21 = .ok (.ifCond .ne 10, 3) := by decide +kernel
theorem dX8_count_24 : decode cX8_count 24 = .ok (.aload_n 0, 1) := by decide +kernel
theorem dX8_count_25 : decode cX8_count 25 = .ok (.getfield 88, 3) := by decide +kernel
theorem dX8_count_28 : decode cX8_count 28 = .ok (.goto 19, 3) := by decide +kernel
theorem dX8_count_31 : decode cX8_count 31 = .ok (.iload_n 1, 1) := by decide +kernel
theorem dX8_count_32 : decode cX8_count 32 = .ok (.iconst 1, 1) := by decide +kernel
theorem dX8_count_33 : decode cX8_count 33 = .ok (.if_icmp .ne 10, 3) := by decide +kernel
theorem dX8_count_36 : decode cX8_count 36 = .ok (.aload_n 0, 1) := by decide +kernel
theorem dX8_count_37 : decode cX8_count 37 = .ok (.getfield 123, 3) := by decide +kernel
theorem dX8_count_40 : decode cX8_count 40 = .ok (.goto 7, 3) := by decide +kernel
theorem dX8_count_43 : decode cX8_count 43 = .ok (.aload_n 0, 1) := by decide +kernel
theorem dX8_count_44 : decode cX8_count 44 = .ok (.getfield 113, 3) := by decide +kernel
theorem dX8_count_47 : decode cX8_count 47 = .ok (.ireturn, 1) := by decide +kernel
theorem dX8_count_48 : decode cX8_count 48 = .ok (.iload_n 1, 1) := by decide +kernel
theorem dX8_count_49 : decode cX8_count 49 = .ok (.iconst 3, 1) := by decide +kernel
theorem dX8_count_50 : decode cX8_count 50 = .ok (.if_icmp .ne 10, 3) := by decide +kernel
theorem dX8_count_53 : decode cX8_count 53 = .ok (.aload_n 0, 1) := by decide +kernel
theorem dX8_count_54 : decode cX8_count 54 = .ok (.getfield 85, 3) := by decide +kernel
theorem dX8_count_57 : decode cX8_count 57 = .ok (.goto 19, 3) := by decide +kernel
theorem dX8_count_60 : decode cX8_count 60 = .ok (.iload_n 1, 1) := by decide +kernel
theorem dX8_count_61 : decode cX8_count 61 = .ok (.iconst 4, 1) := by decide +kernel
theorem dX8_count_62 : decode cX8_count 62 = .ok (.if_icmp .ne 10, 3) := by decide +kernel
theorem dX8_count_65 : decode cX8_count 65 = .ok (.aload_n 0, 1) := by decide +kernel
theorem dX8_count_66 : decode cX8_count 66 = .ok (.getfield 146, 3) := by decide +kernel
theorem dX8_count_69 : decode cX8_count 69 = .ok (.goto 7, 3) := by decide +kernel
theorem dX8_count_72 : decode cX8_count 72 = .ok (.aload_n 0, 1) := by decide +kernel
theorem dX8_count_73 : decode cX8_count 73 = .ok (.getfield 116, 3) := by decide +kernel
theorem dX8_count_76 : decode cX8_count 76 = .ok (.ireturn, 1) := by decide +kernel
theorem dX8_isSheet_0 : decode cX8_isSheet 0 = .ok (.iload_n 0, 1) := by decide +kernel
theorem dX8_isSheet_1 : decode cX8_isSheet 1 = .ok (.i2l, 1) := by decide +kernel
theorem dX8_isSheet_2 : decode cX8_isSheet 2 = .ok (.lconst 0, 1) := by decide +kernel
theorem dX8_isSheet_3 : decode cX8_isSheet 3 = .ok (.ldc2_w 468, 3) := by decide +kernel
theorem dX8_isSheet_6 : decode cX8_isSheet 6 = .ok (.invokestatic 91, 3) := by decide +kernel
theorem dX8_isSheet_9 : decode cX8_isSheet 9 = .ok (.ireturn, 1) := by decide +kernel
theorem dX8_sheet_0 : decode cX8_sheet 0 = .ok (.iload_n 1, 1) := by decide +kernel
theorem dX8_sheet_1 : decode cX8_sheet 1 = .ok (.invokestatic 439, 3) := by decide +kernel
theorem dX8_sheet_4 : decode cX8_sheet 4 = .ok (.ifCond .eq 27, 3) := by decide +kernel
theorem dX8_sheet_7 : decode cX8_sheet 7 = .ok (.iload_n 2, 1) := by decide +kernel
theorem dX8_sheet_8 : decode cX8_sheet 8 = .ok (.i2l, 1) := by decide +kernel
theorem dX8_sheet_9 : decode cX8_sheet 9 = .ok (.ldc2_w 470, 3) := by decide +kernel
theorem dX8_sheet_12 : decode cX8_sheet 12 = .ok (.ldc2_w 419, 3) := by decide +kernel
theorem dX8_sheet_15 : decode cX8_sheet 15 = .ok (.invokestatic 91, 3) := by decide +kernel
theorem dX8_sheet_18 : decode cX8_sheet 18 = .ok (.ifCond .eq 13, 3) := by decide +kernel
theorem dX8_sheet_21 : decode cX8_sheet 21 = .ok (.iload_n 2, 1) := by decide +kernel
theorem dX8_sheet_22 : decode cX8_sheet 22 = .ok (.ifCond .lt 12, 3) := by decide +kernel
theorem dX8_sheet_25 : decode cX8_sheet 25 = .ok (.iload_n 3, 1) := by decide +kernel
theorem dX8_sheet_26 : decode cX8_sheet 26 = .ok (.bipush 40, 2) := by decide +kernel
theorem dX8_sheet_28 : decode cX8_sheet 28 = .ok (.if_icmp .le 6, 3) := by decide +kernel
theorem dX8_sheet_31 : decode cX8_sheet 31 = .ok (.bipush (-2), 2) := by decide +kernel
theorem dX8_sheet_33 : decode cX8_sheet 33 = .ok (.ireturn, 1) := by decide +kernel
theorem dX8_sheet_34 : decode cX8_sheet 34 = .ok (.iload_n 2, 1) := by decide +kernel
theorem dX8_sheet_35 : decode cX8_sheet 35 = .ok (.ifCond .lt 10, 3) := by decide +kernel
theorem dX8_sheet_38 : decode cX8_sheet 38 = .ok (.iload_n 3, 1) := by decide +kernel
theorem dX8_sheet_39 : decode cX8_sheet 39 = .ok (.ifCond .ge 6, 3) := by decide +kernel
theorem dX8_sheet_42 : decode cX8_sheet 42 = .ok (.bipush (-14), 2) := by decide +kernel
theorem dX8_sheet_44 : decode cX8_sheet 44 = .ok (.ireturn, 1) := by decide +kernel
theorem dX8_sheet_45 : decode cX8_sheet 45 = .ok (.aload_n 0, 1) := by decide +kernel
theorem dX8_sheet_46 : decode cX8_sheet 46 = .ok (.getfield 69, 3) := by decide +kernel
theorem dX8_sheet_49 : decode cX8_sheet 49 = .ok (.iload_n 1, 1) := by decide +kernel
theorem dX8_sheet_50 : decode cX8_sheet 50 = .ok (.iload_n 2, 1) := by decide +kernel
theorem dX8_sheet_51 : decode cX8_sheet 51 = .ok (.ifCond .lt 7, 3) := by decide +kernel
theorem dX8_sheet_54 : decode cX8_sheet 54 = .ok (.iconst 1, 1) := by decide +kernel
theorem dX8_sheet_55 : decode cX8_sheet 55 = .ok (.goto 4, 3) := by decide +kernel
theorem dX8_sheet_58 : decode cX8_sheet 58 = .ok (.iconst 0, 1) := by decide +kernel
theorem dX8_sheet_59 : decode cX8_sheet 59 = .ok (.bastore, 1) := by decide +kernel
theorem dX8_sheet_60 : decode cX8_sheet 60 = .ok (.aload_n 0, 1) := by decide +kernel
theorem dX8_sheet_61 : decode cX8_sheet 61 = .ok (.getfield 72, 3) := by decide +kernel
theorem dX8_sheet_64 : decode cX8_sheet 64 = .ok (.iload_n 1, 1) := by decide +kernel
theorem dX8_sheet_65 : decode cX8_sheet 65 = .ok (.iload_n 2, 1) := by decide +kernel
theorem dX8_sheet_66 : decode cX8_sheet 66 = .ok (.iastore, 1) := by decide +kernel
theorem dX8_sheet_67 : decode cX8_sheet 67 = .ok (.aload_n 0, 1) := by decide +kernel
theorem dX8_sheet_68 : decode cX8_sheet 68 = .ok (.getfield 75, 3) := by decide +kernel
theorem dX8_sheet_71 : decode cX8_sheet 71 = .ok (.iload_n 1, 1) := by decide +kernel
theorem dX8_sheet_72 : decode cX8_sheet 72 = .ok (.iload_n 3, 1) := by decide +kernel
theorem dX8_sheet_73 : decode cX8_sheet 73 = .ok (.iastore, 1) := by decide +kernel
theorem dX8_sheet_74 : decode cX8_sheet 74 = .ok (.iconst 0, 1) := by decide +kernel
theorem dX8_sheet_75 : decode cX8_sheet 75 = .ok (.istore 4, 2) := by decide +kernel
theorem dX8_sheet_77 : decode cX8_sheet 77 = .ok (.iload 4, 2) := by decide +kernel
theorem dX8_sheet_79 : decode cX8_sheet 79 = .ok (.iload_n 3, 1) := by decide +kernel
theorem dX8_sheet_80 : decode cX8_sheet 80 = .ok (.if_icmp .ge 26, 3) := by decide +kernel
theorem dX8_sheet_83 : decode cX8_sheet 83 = .ok (.iload_n 2, 1) := by decide +kernel
theorem dX8_sheet_84 : decode cX8_sheet 84 = .ok (.ifCond .lt 22, 3) := by decide +kernel
theorem dX8_sheet_87 : decode cX8_sheet 87 = .ok (.aload_n 0, 1) := by decide +kernel
theorem dX8_sheet_88 : decode cX8_sheet 88 = .ok (.getfield 78, 3) := by decide +kernel
theorem dX8_sheet_91 : decode cX8_sheet 91 = .ok (.bipush 40, 2) := by decide +kernel
theorem dX8_sheet_93 : decode cX8_sheet 93 = .ok (.iload_n 1, 1) := by decide +kernel
theorem dX8_sheet_94 : decode cX8_sheet 94 = .ok (.imul, 1) := by decide +kernel
theorem dX8_sheet_95 : decode cX8_sheet 95 = .ok (.iload 4, 2) := by decide +kernel
theorem dX8_sheet_97 : decode cX8_sheet 97 = .ok (.iadd, 1) := by decide +kernel
theorem dX8_sheet_98 : decode cX8_sheet 98 = .ok (.iconst 0, 1) := by decide +kernel
theorem dX8_sheet_99 : decode cX8_sheet 99 = .ok (.iastore, 1) := by decide +kernel
theorem dX8_sheet_100 : decode cX8_sheet 100 = .ok (.iinc 4 1, 3) := by decide +kernel
theorem dX8_sheet_103 : decode cX8_sheet 103 = .ok (.goto (-26), 3) := by decide +kernel
theorem dX8_sheet_106 : decode cX8_sheet 106 = .ok (.iconst 1, 1) := by decide +kernel
theorem dX8_sheet_107 : decode cX8_sheet 107 = .ok (.ireturn, 1) := by decide +kernel
theorem dX8_cell_0 : decode cX8_cell 0 = .ok (.iload_n 1, 1) := by decide +kernel
theorem dX8_cell_1 : decode cX8_cell 1 = .ok (.invokestatic 439, 3) := by decide +kernel
theorem dX8_cell_4 : decode cX8_cell 4 = .ok (.ifCond .ne 6, 3) := by decide +kernel
theorem dX8_cell_7 : decode cX8_cell 7 = .ok (.bipush (-2), 2) := by decide +kernel
theorem dX8_cell_9 : decode cX8_cell 9 = .ok (.ireturn, 1) := by decide +kernel
theorem dX8_cell_10 : decode cX8_cell 10 = .ok (.aload_n 0, 1) := by decide +kernel
theorem dX8_cell_11 : decode cX8_cell 11 = .ok (.getfield 69, 3) := by decide +kernel
theorem dX8_cell_14 : decode cX8_cell 14 = .ok (.iload_n 1, 1) := by decide +kernel
theorem dX8_cell_15 : decode cX8_cell 15 = .ok (.baload, 1) := by decide +kernel
theorem dX8_cell_16 : decode cX8_cell 16 = .ok (.ifCond .ne 6, 3) := by decide +kernel
theorem dX8_cell_19 : decode cX8_cell 19 = .ok (.bipush (-11), 2) := by decide +kernel
theorem dX8_cell_21 : decode cX8_cell 21 = .ok (.ireturn, 1) := by decide +kernel
theorem dX8_cell_22 : decode cX8_cell 22 = .ok (.iload_n 2, 1) := by decide +kernel
theorem dX8_cell_23 : decode cX8_cell 23 = .ok (.i2l, 1) := by decide +kernel
theorem dX8_cell_24 : decode cX8_cell 24 = .ok (.lconst 0, 1) := by decide +kernel
theorem dX8_cell_25 : decode cX8_cell 25 = .ok (.aload_n 0, 1) := by decide +kernel
theorem dX8_cell_26 : decode cX8_cell 26 = .ok (.getfield 75, 3) := by decide +kernel
theorem dX8_cell_29 : decode cX8_cell 29 = .ok (.iload_n 1, 1) := by decide +kernel
theorem dX8_cell_30 : decode cX8_cell 30 = .ok (.iaload, 1) := by decide +kernel
theorem dX8_cell_31 : decode cX8_cell 31 = .ok (.iconst 1, 1) := by decide +kernel
theorem dX8_cell_32 : decode cX8_cell 32 = .ok (.isub, 1) := by decide +kernel
theorem dX8_cell_33 : decode cX8_cell 33 = .ok (.i2l, 1) := by decide +kernel
theorem dX8_cell_34 : decode cX8_cell 34 = .ok (.invokestatic 91, 3) := by decide +kernel
theorem dX8_cell_37 : decode cX8_cell 37 = .ok (.ifCond .ne 6, 3) := by decide +kernel
theorem dX8_cell_40 : decode cX8_cell 40 = .ok (.bipush (-12), 2) := by decide +kernel
theorem dX8_cell_42 : decode cX8_cell 42 = .ok (.ireturn, 1) := by decide +kernel
theorem dX8_cell_43 : decode cX8_cell 43 = .ok (.aload_n 0, 1) := by decide +kernel
theorem dX8_cell_44 : decode cX8_cell 44 = .ok (.getfield 78, 3) := by decide +kernel
theorem dX8_cell_47 : decode cX8_cell 47 = .ok (.bipush 40, 2) := by decide +kernel
theorem dX8_cell_49 : decode cX8_cell 49 = .ok (.iload_n 1, 1) := by decide +kernel
theorem dX8_cell_50 : decode cX8_cell 50 = .ok (.imul, 1) := by decide +kernel
theorem dX8_cell_51 : decode cX8_cell 51 = .ok (.iload_n 2, 1) := by decide +kernel
theorem dX8_cell_52 : decode cX8_cell 52 = .ok (.iadd, 1) := by decide +kernel
theorem dX8_cell_53 : decode cX8_cell 53 = .ok (.aload_n 0, 1) := by decide +kernel
theorem dX8_cell_54 : decode cX8_cell 54 = .ok (.getfield 72, 3) := by decide +kernel
theorem dX8_cell_57 : decode cX8_cell 57 = .ok (.iload_n 1, 1) := by decide +kernel
theorem dX8_cell_58 : decode cX8_cell 58 = .ok (.iaload, 1) := by decide +kernel
theorem dX8_cell_59 : decode cX8_cell 59 = .ok (.ifCond .ne 8, 3) := by decide +kernel
theorem dX8_cell_62 : decode cX8_cell 62 = .ok (.iload_n 3, 1) := by decide +kernel
theorem dX8_cell_63 : decode cX8_cell 63 = .ok (.i2b, 1) := by decide +kernel
theorem dX8_cell_64 : decode cX8_cell 64 = .ok (.goto 19, 3) := by decide +kernel
theorem dX8_cell_67 : decode cX8_cell 67 = .ok (.aload_n 0, 1) := by decide +kernel
theorem dX8_cell_68 : decode cX8_cell 68 = .ok (.getfield 72, 3) := by decide +kernel
theorem dX8_cell_71 : decode cX8_cell 71 = .ok (.iload_n 1, 1) := by decide +kernel
theorem dX8_cell_72 : decode cX8_cell 72 = .ok (.iaload, 1) := by decide +kernel
theorem dX8_cell_73 : decode cX8_cell 73 = .ok (.iconst 1, 1) := by decide +kernel
theorem dX8_cell_74 : decode cX8_cell 74 = .ok (.if_icmp .ne 8, 3) := by decide +kernel
theorem dX8_cell_77 : decode cX8_cell 77 = .ok (.iload_n 3, 1) := by decide +kernel
theorem dX8_cell_78 : decode cX8_cell 78 = .ok (.i2s, 1) := by decide +kernel
theorem dX8_cell_79 : decode cX8_cell 79 = .ok (.goto 4, 3) := by decide +kernel
theorem dX8_cell_82 : decode cX8_cell 82 = .ok (.iload_n 3, 1) := by decide +kernel
theorem dX8_cell_83 : decode cX8_cell 83 = .ok (.iastore, 1) := by decide +kernel
theorem dX8_cell_84 : decode cX8_cell 84 = .ok (.iconst 1, 1) := by decide +kernel
theorem dX8_cell_85 : decode cX8_cell 85 = .ok (.ireturn, 1) := by decide +kernel
theorem dX8_copy_0 : decode cX8_copy 0 = .ok (.iload_n 1, 1) := by decide +kernel
theorem dX8_copy_1 : decode cX8_copy 1 = .ok (.invokestatic 439, 3) := by decide +kernel
theorem dX8_copy_4 : decode cX8_copy 4 = .ok (.ifCond .eq 10, 3) := by decide +kernel
theorem dX8_copy_7 : decode cX8_copy 7 = .ok (.iload_n 3, 1) := by decide +kernel
theorem dX8_copy_8 : decode cX8_copy 8 = .ok (.invokestatic 439, 3) := by decide +kernel
theorem dX8_copy_11 : decode cX8_copy 11 = .ok (.ifCond .ne 6, 3) := by decide +kernel
theorem dX8_copy_14 : decode cX8_copy 14 = .ok (.bipush (-2), 2) := by decide +kernel
theorem dX8_copy_16 : decode cX8_copy 16 = .ok (.ireturn, 1) := by decide +kernel
theorem dX8_copy_17 : decode cX8_copy 17 = .ok (.aload_n 0, 1) := by decide +kernel
theorem dX8_copy_18 : decode cX8_copy 18 = .ok (.getfield 69, 3) := by decide +kernel
theorem dX8_copy_21 : decode cX8_copy 21 = .ok (.iload_n 1, 1) := by decide +kernel
theorem dX8_copy_22 : decode cX8_copy 22 = .ok (.baload, 1) := by decide +kernel
theorem dX8_copy_23 : decode cX8_copy 23 = .ok (.ifCond .eq 12, 3) := by decide +kernel
theorem dX8_copy_26 : decode cX8_copy 26 = .ok (.aload_n 0, 1) := by decide +kernel
theorem dX8_copy_27 : decode cX8_copy 27 = .ok (.getfield 69, 3) := by decide +kernel
theorem dX8_copy_30 : decode cX8_copy 30 = .ok (.iload_n 3, 1) := by decide +kernel
theorem dX8_copy_31 : decode cX8_copy 31 = .ok (.baload, 1) := by decide +kernel
theorem dX8_copy_32 : decode cX8_copy 32 = .ok (.ifCond .ne 6, 3) := by decide +kernel
theorem dX8_copy_35 : decode cX8_copy 35 = .ok (.bipush (-11), 2) := by decide +kernel
theorem dX8_copy_37 : decode cX8_copy 37 = .ok (.ireturn, 1) := by decide +kernel
theorem dX8_copy_38 : decode cX8_copy 38 = .ok (.aload_n 0, 1) := by decide +kernel
theorem dX8_copy_39 : decode cX8_copy 39 = .ok (.getfield 72, 3) := by decide +kernel
theorem dX8_copy_42 : decode cX8_copy 42 = .ok (.iload_n 1, 1) := by decide +kernel
theorem dX8_copy_43 : decode cX8_copy 43 = .ok (.iaload, 1) := by decide +kernel
theorem dX8_copy_44 : decode cX8_copy 44 = .ok (.aload_n 0, 1) := by decide +kernel
theorem dX8_copy_45 : decode cX8_copy 45 = .ok (.getfield 72, 3) := by decide +kernel
theorem dX8_copy_48 : decode cX8_copy 48 = .ok (.iload_n 3, 1) := by decide +kernel
theorem dX8_copy_49 : decode cX8_copy 49 = .ok (.iaload, 1) := by decide +kernel
theorem dX8_copy_50 : decode cX8_copy 50 = .ok (.if_icmp .eq 6, 3) := by decide +kernel
theorem dX8_copy_53 : decode cX8_copy 53 = .ok (.bipush (-13), 2) := by decide +kernel
theorem dX8_copy_55 : decode cX8_copy 55 = .ok (.ireturn, 1) := by decide +kernel
theorem dX8_copy_56 : decode cX8_copy 56 = .ok (.iload 5, 2) := by decide +kernel
theorem dX8_copy_58 : decode cX8_copy 58 = .ok (.ifCond .lt 39, 3) := by decide +kernel
theorem dX8_copy_61 : decode cX8_copy 61 = .ok (.iload_n 2, 1) := by decide +kernel
theorem dX8_copy_62 : decode cX8_copy 62 = .ok (.ifCond .lt 35, 3) := by decide +kernel
theorem dX8_copy_65 : decode cX8_copy 65 = .ok (.iload 4, 2) := by decide +kernel
theorem dX8_copy_67 : decode cX8_copy 67 = .ok (.ifCond .lt 30, 3) := by decide +kernel
theorem dX8_copy_70 : decode cX8_copy 70 = .ok (.iload_n 2, 1) := by decide +kernel
theorem dX8_copy_71 : decode cX8_copy 71 = .ok (.aload_n 0, 1) := by decide +kernel
theorem dX8_copy_72 : decode cX8_copy 72 = .ok (.getfield 75, 3) := by decide +kernel
theorem dX8_copy_75 : decode cX8_copy 75 = .ok (.iload_n 1, 1) := by decide +kernel
theorem dX8_copy_76 : decode cX8_copy 76 = .ok (.iaload, 1) := by decide +kernel
theorem dX8_copy_77 : decode cX8_copy 77 = .ok (.iload 5, 2) := by decide +kernel
theorem dX8_copy_79 : decode cX8_copy 79 = .ok (.isub, 1) := by decide +kernel
theorem dX8_copy_80 : decode cX8_copy 80 = .ok (.if_icmp .gt 17, 3) := by decide +kernel
theorem dX8_copy_83 : decode cX8_copy 83 = .ok (.iload 4, 2) := by decide +kernel
theorem dX8_copy_85 : decode cX8_copy 85 = .ok (.aload_n 0, 1) := by decide +kernel
theorem dX8_copy_86 : decode cX8_copy 86 = .ok (.getfield 75, 3) := by decide +kernel
theorem dX8_copy_89 : decode cX8_copy 89 = .ok (.iload_n 3, 1) := by decide +kernel
theorem dX8_copy_90 : decode cX8_copy 90 = .ok (.iaload, 1) := by decide +kernel
theorem dX8_copy_91 : decode cX8_copy 91 = .ok (.iload 5, 2) := by decide +kernel
theorem dX8_copy_93 : decode cX8_copy 93 = .ok (.isub, 1) := by decide +kernel
theorem dX8_copy_94 : decode cX8_copy 94 = .ok (.if_icmp .le 6, 3) := by decide +kernel
theorem dX8_copy_97 : decode cX8_copy 97 = .ok (.bipush (-12), 2) := by decide +kernel
theorem dX8_copy_99 : decode cX8_copy 99 = .ok (.ireturn, 1) := by decide +kernel
theorem dX8_copy_100 : decode cX8_copy 100 = .ok (.iload_n 1, 1) := by decide +kernel
theorem dX8_copy_101 : decode cX8_copy 101 = .ok (.iload_n 3, 1) := by decide +kernel
theorem dX8_copy_102 : decode cX8_copy 102 = .ok (.if_icmp .ne 13, 3) := by decide +kernel
theorem dX8_copy_105 : decode cX8_copy 105 = .ok (.iload_n 2, 1) := by decide +kernel
theorem dX8_copy_106 : decode cX8_copy 106 = .ok (.iload 4, 2) := by decide +kernel
theorem dX8_copy_108 : decode cX8_copy 108 = .ok (.if_icmp .ge 7, 3) := by decide +kernel
theorem dX8_copy_111 : decode cX8_copy 111 = .ok (.iconst 1, 1) := by decide +kernel
theorem dX8_copy_112 : decode cX8_copy 112 = .ok (.goto 4, 3) := by decide +kernel
theorem dX8_copy_115 : decode cX8_copy 115 = .ok (.iconst 0, 1) := by decide +kernel
theorem dX8_copy_116 : decode cX8_copy 116 = .ok (.istore 6, 2) := by decide +kernel
theorem dX8_copy_118 : decode cX8_copy 118 = .ok (.iconst 0, 1) := by decide +kernel
theorem dX8_copy_119 : decode cX8_copy 119 = .ok (.istore 7, 2) := by decide +kernel
theorem dX8_copy_121 : decode cX8_copy 121 = .ok (.iload 7, 2) := by decide +kernel
theorem dX8_copy_123 : decode cX8_copy 123 = .ok (.iload 5, 2) := by decide +kernel
theorem dX8_copy_125 : decode cX8_copy 125 = .ok (.if_icmp .ge 57, 3) := by decide +kernel
theorem dX8_copy_128 : decode cX8_copy 128 = .ok (.iload 6, 2) := by decide +kernel
theorem dX8_copy_130 : decode cX8_copy 130 = .ok (.ifCond .eq 13, 3) := by decide +kernel
theorem dX8_copy_133 : decode cX8_copy 133 = .ok (.iload 5, 2) := by decide +kernel
theorem dX8_copy_135 : decode cX8_copy 135 = .ok (.iconst 1, 1) := by decide +kernel
theorem dX8_copy_136 : decode cX8_copy 136 = .ok (.isub, 1) := by decide +kernel
theorem dX8_copy_137 : decode cX8_copy 137 = .ok (.iload 7, 2) := by decide +kernel
theorem dX8_copy_139 : decode cX8_copy 139 = .ok (.isub, 1) := by decide +kernel
theorem dX8_copy_140 : decode cX8_copy 140 = .ok (.goto 5, 3) := by decide +kernel
theorem dX8_copy_143 : decode cX8_copy 143 = .ok (.iload 7, 2) := by decide +kernel
theorem dX8_copy_145 : decode cX8_copy 145 = .ok (.istore 8, 2) := by decide +kernel
theorem dX8_copy_147 : decode cX8_copy 147 = .ok (.aload_n 0, 1) := by decide +kernel
theorem dX8_copy_148 : decode cX8_copy 148 = .ok (.getfield 78, 3) := by decide +kernel
theorem dX8_copy_151 : decode cX8_copy 151 = .ok (.bipush 40, 2) := by decide +kernel
theorem dX8_copy_153 : decode cX8_copy 153 = .ok (.iload_n 3, 1) := by decide +kernel
theorem dX8_copy_154 : decode cX8_copy 154 = .ok (.imul, 1) := by decide +kernel
theorem dX8_copy_155 : decode cX8_copy 155 = .ok (.iload 4, 2) := by decide +kernel
theorem dX8_copy_157 : decode cX8_copy 157 = .ok (.iadd, 1) := by decide +kernel
theorem dX8_copy_158 : decode cX8_copy 158 = .ok (.iload 8, 2) := by decide +kernel
theorem dX8_copy_160 : decode cX8_copy 160 = .ok (.iadd, 1) := by decide +kernel
theorem dX8_copy_161 : decode cX8_copy 161 = .ok (.aload_n 0, 1) := by decide +kernel
theorem dX8_copy_162 : decode cX8_copy 162 = .ok (.getfield 78, 3) := by decide +kernel
theorem dX8_copy_165 : decode cX8_copy 165 = .ok (.bipush 40, 2) := by decide +kernel
theorem dX8_copy_167 : decode cX8_copy 167 = .ok (.iload_n 1, 1) := by decide +kernel
theorem dX8_copy_168 : decode cX8_copy 168 = .ok (.imul, 1) := by decide +kernel
theorem dX8_copy_169 : decode cX8_copy 169 = .ok (.iload_n 2, 1) := by decide +kernel
theorem dX8_copy_170 : decode cX8_copy 170 = .ok (.iadd, 1) := by decide +kernel
theorem dX8_copy_171 : decode cX8_copy 171 = .ok (.iload 8, 2) := by decide +kernel
theorem dX8_copy_173 : decode cX8_copy 173 = .ok (.iadd, 1) := by decide +kernel
theorem dX8_copy_174 : decode cX8_copy 174 = .ok (.iaload, 1) := by decide +kernel
theorem dX8_copy_175 : decode cX8_copy 175 = .ok (.iastore, 1) := by decide +kernel
theorem dX8_copy_176 : decode cX8_copy 176 = .ok (.iinc 7 1, 3) := by decide +kernel
theorem dX8_copy_179 : decode cX8_copy 179 = .ok (.goto (-58), 3) := by decide +kernel
theorem dX8_copy_182 : decode cX8_copy 182 = .ok (.iload 5, 2) := by decide +kernel
theorem dX8_copy_184 : decode cX8_copy 184 = .ok (.ireturn, 1) := by decide +kernel
theorem dX8_people_0 : decode cX8_people 0 = .ok (.iload_n 1, 1) := by decide +kernel
theorem dX8_people_1 : decode cX8_people 1 = .ok (.invokestatic 439, 3) := by decide +kernel
theorem dX8_people_4 : decode cX8_people 4 = .ok (.ifCond .eq 28, 3) := by decide +kernel
theorem dX8_people_7 : decode cX8_people 7 = .ok (.iload_n 2, 1) := by decide +kernel
theorem dX8_people_8 : decode cX8_people 8 = .ok (.i2l, 1) := by decide +kernel
theorem dX8_people_9 : decode cX8_people 9 = .ok (.lconst 0, 1) := by decide +kernel
theorem dX8_people_10 : decode cX8_people 10 = .ok (.ldc2_w 419, 3) := by decide +kernel
theorem dX8_people_13 : decode cX8_people 13 = .ok (.invokestatic 91, 3) := by decide +kernel
theorem dX8_people_16 : decode cX8_people 16 = .ok (.ifCond .eq 16, 3) := by decide +kernel
theorem dX8_people_19 : decode cX8_people 19 = .ok (.iload 4, 2) := by decide +kernel
theorem dX8_people_21 : decode cX8_people 21 = .ok (.i2l, 1) := by decide +kernel
theorem dX8_people_22 : decode cX8_people 22 = .ok (.lconst 0, 1) := by decide +kernel
theorem dX8_people_23 : decode cX8_people 23 = .ok (.ldc2_w 119, 3) := by decide +kernel
theorem dX8_people_26 : decode cX8_people 26 = .ok (.invokestatic 91, 3) := by decide +kernel
theorem dX8_people_29 : decode cX8_people 29 = .ok (.ifCond .ne 6, 3) := by decide +kernel
theorem dX8_people_32 : decode cX8_people 32 = .ok (.bipush (-2), 2) := by decide +kernel
theorem dX8_people_34 : decode cX8_people 34 = .ok (.ireturn, 1) := by decide +kernel
theorem dX8_people_35 : decode cX8_people 35 = .ok (.aload_n 0, 1) := by decide +kernel
theorem dX8_people_36 : decode cX8_people 36 = .ok (.getfield 69, 3) := by decide +kernel
theorem dX8_people_39 : decode cX8_people 39 = .ok (.iload_n 1, 1) := by decide +kernel
theorem dX8_people_40 : decode cX8_people 40 = .ok (.baload, 1) := by decide +kernel
theorem dX8_people_41 : decode cX8_people 41 = .ok (.ifCond .eq 16, 3) := by decide +kernel
theorem dX8_people_44 : decode cX8_people 44 = .ok (.aload_n 0, 1) := by decide +kernel
theorem dX8_people_45 : decode cX8_people 45 = .ok (.getfield 72, 3) := by decide +kernel
theorem dX8_people_48 : decode cX8_people 48 = .ok (.iload_n 1, 1) := by decide +kernel
theorem dX8_people_49 : decode cX8_people 49 = .ok (.iaload, 1) := by decide +kernel
theorem dX8_people_50 : decode cX8_people 50 = .ok (.iload_n 2, 1) := by decide +kernel
theorem dX8_people_51 : decode cX8_people 51 = .ok (.if_icmp .eq 6, 3) := by decide +kernel
theorem dX8_people_54 : decode cX8_people 54 = .ok (.bipush (-13), 2) := by decide +kernel
theorem dX8_people_56 : decode cX8_people 56 = .ok (.ireturn, 1) := by decide +kernel
theorem dX8_people_57 : decode cX8_people 57 = .ok (.aload_n 0, 1) := by decide +kernel
theorem dX8_people_58 : decode cX8_people 58 = .ok (.getfield 69, 3) := by decide +kernel
theorem dX8_people_61 : decode cX8_people 61 = .ok (.iload_n 1, 1) := by decide +kernel
theorem dX8_people_62 : decode cX8_people 62 = .ok (.baload, 1) := by decide +kernel
theorem dX8_people_63 : decode cX8_people 63 = .ok (.ifCond .ne 6, 3) := by decide +kernel
theorem dX8_people_66 : decode cX8_people 66 = .ok (.bipush (-11), 2) := by decide +kernel
theorem dX8_people_68 : decode cX8_people 68 = .ok (.ireturn, 1) := by decide +kernel
theorem dX8_people_69 : decode cX8_people 69 = .ok (.iconst 0, 1) := by decide +kernel
theorem dX8_people_70 : decode cX8_people 70 = .ok (.istore 5, 2) := by decide +kernel
theorem dX8_people_72 : decode cX8_people 72 = .ok (.iconst 0, 1) := by decide +kernel
theorem dX8_people_73 : decode cX8_people 73 = .ok (.istore 6, 2) := by decide +kernel
theorem dX8_people_75 : decode cX8_people 75 = .ok (.iload 6, 2) := by decide +kernel
theorem dX8_people_77 : decode cX8_people 77 = .ok (.iload 4, 2) := by decide +kernel
theorem dX8_people_79 : decode cX8_people 79 = .ok (.if_icmp .ge 79, 3) := by decide +kernel
theorem dX8_people_82 : decode cX8_people 82 = .ok (.iload_n 3, 1) := by decide +kernel
theorem dX8_people_83 : decode cX8_people 83 = .ok (.ifCond .lt 20, 3) := by decide +kernel
theorem dX8_people_86 : decode cX8_people 86 = .ok (.iload_n 3, 1) := by decide +kernel
theorem dX8_people_87 : decode cX8_people 87 = .ok (.aload_n 0, 1) := by decide +kernel
theorem dX8_people_88 : decode cX8_people 88 = .ok (.getfield 75, 3) := by decide +kernel
theorem dX8_people_91 : decode cX8_people 91 = .ok (.iload_n 1, 1) := by decide +kernel
theorem dX8_people_92 : decode cX8_people 92 = .ok (.iaload, 1) := by decide +kernel
theorem dX8_people_93 : decode cX8_people 93 = .ok (.iconst 2, 1) := by decide +kernel
theorem dX8_people_94 : decode cX8_people 94 = .ok (.iload 6, 2) := by decide +kernel
theorem dX8_people_96 : decode cX8_people 96 = .ok (.imul, 1) := by decide +kernel
theorem dX8_people_97 : decode cX8_people 97 = .ok (.isub, 1) := by decide +kernel
theorem dX8_people_98 : decode cX8_people 98 = .ok (.iconst 2, 1) := by decide +kernel
theorem dX8_people_99 : decode cX8_people 99 = .ok (.isub, 1) := by decide +kernel
theorem dX8_people_100 : decode cX8_people 100 = .ok (.if_icmp .le 6, 3) := by decide +kernel
theorem dX8_people_103 : decode cX8_people 103 = .ok (.bipush (-12), 2) := by decide +kernel
theorem dX8_people_105 : decode cX8_people 105 = .ok (.ireturn, 1) := by decide +kernel
theorem dX8_people_106 : decode cX8_people 106 = .ok (.bipush 40, 2) := by decide +kernel
theorem dX8_people_108 : decode cX8_people 108 = .ok (.iload_n 1, 1) := by decide +kernel
theorem dX8_people_109 : decode cX8_people 109 = .ok (.imul, 1) := by decide +kernel
theorem dX8_people_110 : decode cX8_people 110 = .ok (.iload_n 3, 1) := by decide +kernel
theorem dX8_people_111 : decode cX8_people 111 = .ok (.iadd, 1) := by decide +kernel
theorem dX8_people_112 : decode cX8_people 112 = .ok (.iconst 2, 1) := by decide +kernel
theorem dX8_people_113 : decode cX8_people 113 = .ok (.iload 6, 2) := by decide +kernel
theorem dX8_people_115 : decode cX8_people 115 = .ok (.imul, 1) := by decide +kernel
theorem dX8_people_116 : decode cX8_people 116 = .ok (.iadd, 1) := by decide +kernel
theorem dX8_people_117 : decode cX8_people 117 = .ok (.istore 7, 2) := by decide +kernel
theorem dX8_people_119 : decode cX8_people 119 = .ok (.iload 5, 2) := by decide +kernel
theorem dX8_people_121 : decode cX8_people 121 = .ok (.aload_n 0, 1) := by decide +kernel
theorem dX8_people_122 : decode cX8_people 122 = .ok (.aload_n 0, 1) := by decide +kernel
theorem dX8_people_123 : decode cX8_people 123 = .ok (.getfield 78, 3) := by decide +kernel
theorem dX8_people_126 : decode cX8_people 126 = .ok (.iload 7, 2) := by decide +kernel
theorem dX8_people_128 : decode cX8_people 128 = .ok (.iaload, 1) := by decide +kernel
theorem dX8_people_129 : decode cX8_people 129 = .ok (.aload_n 0, 1) := by decide +kernel
theorem dX8_people_130 : decode cX8_people 130 = .ok (.getfield 78, 3) := by decide +kernel
theorem dX8_people_133 : decode cX8_people 133 = .ok (.iload 7, 2) := by decide +kernel
theorem dX8_people_135 : decode cX8_people 135 = .ok (.iconst 1, 1) := by decide +kernel
theorem dX8_people_136 : decode cX8_people 136 = .ok (.iadd, 1) := by decide +kernel
theorem dX8_people_137 : decode cX8_people 137 = .ok (.iaload, 1) := by decide +kernel
theorem dX8_people_138 : decode cX8_people 138 = .ok (.invokevirtual 472, 3) := by decide +kernel
theorem dX8_people_141 : decode cX8_people 141 = .ok (.ifCond .lt 7, 3) := by decide +kernel
theorem dX8_people_144 : decode cX8_people 144 = .ok (.iconst 1, 1) := by decide +kernel
theorem dX8_people_145 : decode cX8_people 145 = .ok (.goto 4, 3) := by decide +kernel
theorem dX8_people_148 : decode cX8_people 148 = .ok (.iconst 0, 1) := by decide +kernel
theorem dX8_people_149 : decode cX8_people 149 = .ok (.iadd, 1) := by decide +kernel
theorem dX8_people_150 : decode cX8_people 150 = .ok (.istore 5, 2) := by decide +kernel
theorem dX8_people_152 : decode cX8_people 152 = .ok (.iinc 6 1, 3) := by decide +kernel
theorem dX8_people_155 : decode cX8_people 155 = .ok (.goto (-80), 3) := by decide +kernel
theorem dX8_people_158 : decode cX8_people 158 = .ok (.iload 5, 2) := by decide +kernel
theorem dX8_people_160 : decode cX8_people 160 = .ok (.ireturn, 1) := by decide +kernel
theorem dX8_over_0 : decode cX8_over 0 = .ok (.iload_n 0, 1) := by decide +kernel
theorem dX8_over_1 : decode cX8_over 1 = .ok (.ifCond .ne 7, 3) := by decide +kernel
theorem dX8_over_4 : decode cX8_over 4 = .ok (.iconst (-1), 1) := by decide +kernel
theorem dX8_over_5 : decode cX8_over 5 = .ok (.goto 22, 3) := by decide +kernel
theorem dX8_over_8 : decode cX8_over 8 = .ok (.iload_n 0, 1) := by decide +kernel
theorem dX8_over_9 : decode cX8_over 9 = .ok (.iconst 3, 1) := by decide +kernel
theorem dX8_over_10 : decode cX8_over 10 = .ok (.if_icmp .ne 7, 3) := by decide +kernel
theorem dX8_over_13 : decode cX8_over 13 = .ok (.iconst 1, 1) := by decide +kernel
theorem dX8_over_14 : decode cX8_over 14 = .ok (.goto 13, 3) := by decide +kernel
theorem dX8_over_17 : decode cX8_over 17 = .ok (.iload_n 0, 1) := by decide +kernel
theorem dX8_over_18 : decode cX8_over 18 = .ok (.iconst 4, 1) := by decide +kernel
theorem dX8_over_19 : decode cX8_over 19 = .ok (.if_icmp .ne 7, 3) := by decide +kernel
theorem dX8_over_22 : decode cX8_over 22 = .ok (.iconst 2, 1) := by decide +kernel
theorem dX8_over_23 : decode cX8_over 23 = .ok (.goto 4, 3) := by decide +kernel
theorem dX8_over_26 : decode cX8_over 26 = .ok (.iconst 0, 1) := by decide +kernel
theorem dX8_over_27 : decode cX8_over 27 = .ok (.ireturn, 1) := by decide +kernel
theorem dX8_taken_0 : decode cX8_taken 0 = .ok (.iload_n 2, 1) := by decide +kernel
theorem dX8_taken_1 : decode cX8_taken 1 = .ok (.i2l, 1) := by decide +kernel
theorem dX8_taken_2 : decode cX8_taken 2 = .ok (.lconst 0, 1) := by decide +kernel
theorem dX8_taken_3 : decode cX8_taken 3 = .ok (.ldc2_w 119, 3) := by decide +kernel
theorem dX8_taken_6 : decode cX8_taken 6 = .ok (.invokestatic 91, 3) := by decide +kernel
theorem dX8_taken_9 : decode cX8_taken 9 = .ok (.ifCond .ne 6, 3) := by decide +kernel
theorem dX8_taken_12 : decode cX8_taken 12 = .ok (.bipush (-2), 2) := by decide +kernel
theorem dX8_taken_14 : decode cX8_taken 14 = .ok (.ireturn, 1) := by decide +kernel
theorem dX8_taken_15 : decode cX8_taken 15 = .ok (.aload_n 0, 1) := by decide +kernel
theorem dX8_taken_16 : decode cX8_taken 16 = .ok (.iload_n 1, 1) := by decide +kernel
theorem dX8_taken_17 : decode cX8_taken 17 = .ok (.invokevirtual 97, 3) := by decide +kernel
theorem dX8_taken_20 : decode cX8_taken 20 = .ok (.ifCond .ne 6, 3) := by decide +kernel
theorem dX8_taken_23 : decode cX8_taken 23 = .ok (.bipush (-11), 2) := by decide +kernel
theorem dX8_taken_25 : decode cX8_taken 25 = .ok (.ireturn, 1) := by decide +kernel
theorem dX8_taken_26 : decode cX8_taken 26 = .ok (.aload_n 0, 1) := by decide +kernel
theorem dX8_taken_27 : decode cX8_taken 27 = .ok (.getfield 23, 3) := by decide +kernel
theorem dX8_taken_30 : decode cX8_taken 30 = .ok (.iload_n 1, 1) := by decide +kernel
theorem dX8_taken_31 : decode cX8_taken 31 = .ok (.iaload, 1) := by decide +kernel
theorem dX8_taken_32 : decode cX8_taken 32 = .ok (.istore_n 3, 1) := by decide +kernel
theorem dX8_taken_33 : decode cX8_taken 33 = .ok (.iload_n 3, 1) := by decide +kernel
theorem dX8_taken_34 : decode cX8_taken 34 = .ok (.iconst (-1), 1) := by decide +kernel
theorem dX8_taken_35 : decode cX8_taken 35 = .ok (.if_icmp .eq 16, 3) := by decide +kernel
theorem dX8_taken_38 : decode cX8_taken 38 = .ok (.iload_n 3, 1) := by decide +kernel
theorem dX8_taken_39 : decode cX8_taken 39 = .ok (.iload_n 2, 1) := by decide +kernel
theorem dX8_taken_40 : decode cX8_taken 40 = .ok (.if_icmp .eq 11, 3) := by decide +kernel
theorem dX8_taken_43 : decode cX8_taken 43 = .ok (.iload_n 3, 1) := by decide +kernel
theorem dX8_taken_44 : decode cX8_taken 44 = .ok (.invokestatic 475, 3) := by decide +kernel
theorem dX8_taken_47 : decode cX8_taken 47 = .ok (.istore_n 3, 1) := by decide +kernel
theorem dX8_taken_48 : decode cX8_taken 48 = .ok (.goto (-15), 3) := by decide +kernel
theorem dX8_taken_51 : decode cX8_taken 51 = .ok (.iload_n 3, 1) := by decide +kernel
theorem dX8_taken_52 : decode cX8_taken 52 = .ok (.iload_n 2, 1) := by decide +kernel
theorem dX8_taken_53 : decode cX8_taken 53 = .ok (.if_icmp .ne 14, 3) := by decide +kernel
theorem dX8_taken_56 : decode cX8_taken 56 = .ok (.aload_n 0, 1) := by decide +kernel
theorem dX8_taken_57 : decode cX8_taken 57 = .ok (.getfield 26, 3) := by decide +kernel
theorem dX8_taken_60 : decode cX8_taken 60 = .ok (.iconst 4, 1) := by decide +kernel
theorem dX8_taken_61 : decode cX8_taken 61 = .ok (.iload_n 1, 1) := by decide +kernel
theorem dX8_taken_62 : decode cX8_taken 62 = .ok (.imul, 1) := by decide +kernel
theorem dX8_taken_63 : decode cX8_taken 63 = .ok (.iaload, 1) := by decide +kernel
theorem dX8_taken_64 : decode cX8_taken 64 = .ok (.goto 5, 3) := by decide +kernel
theorem dX8_taken_67 : decode cX8_taken 67 = .ok (.bipush (-13), 2) := by decide +kernel
theorem dX8_taken_69 : decode cX8_taken 69 = .ok (.ireturn, 1) := by decide +kernel
theorem dJ6_numberOfTrailingZeros_0f7a4_0 : decode cJ6_numberOfTrailingZeros_0f7a4 0 = .ok (.iload_n 0, 1) := by decide +kernel
theorem dJ6_numberOfTrailingZeros_0f7a4_1 : decode cJ6_numberOfTrailingZeros_0f7a4 1 = .ok (.iconst (-1), 1) := by decide +kernel
theorem dJ6_numberOfTrailingZeros_0f7a4_2 : decode cJ6_numberOfTrailingZeros_0f7a4 2 = .ok (.ixor, 1) := by decide +kernel
theorem dJ6_numberOfTrailingZeros_0f7a4_3 : decode cJ6_numberOfTrailingZeros_0f7a4 3 = .ok (.iload_n 0, 1) := by decide +kernel
theorem dJ6_numberOfTrailingZeros_0f7a4_4 : decode cJ6_numberOfTrailingZeros_0f7a4 4 = .ok (.iconst 1, 1) := by decide +kernel
theorem dJ6_numberOfTrailingZeros_0f7a4_5 : decode cJ6_numberOfTrailingZeros_0f7a4 5 = .ok (.isub, 1) := by decide +kernel
theorem dJ6_numberOfTrailingZeros_0f7a4_6 : decode cJ6_numberOfTrailingZeros_0f7a4 6 = .ok (.iand, 1) := by decide +kernel
theorem dJ6_numberOfTrailingZeros_0f7a4_7 : decode cJ6_numberOfTrailingZeros_0f7a4 7 = .ok (.istore_n 0, 1) := by decide +kernel
theorem dJ6_numberOfTrailingZeros_0f7a4_8 : decode cJ6_numberOfTrailingZeros_0f7a4 8 = .ok (.iload_n 0, 1) := by decide +kernel
theorem dJ6_numberOfTrailingZeros_0f7a4_9 : decode cJ6_numberOfTrailingZeros_0f7a4 9 = .ok (.ifCond .gt 8, 3) := by decide +kernel
theorem dJ6_numberOfTrailingZeros_0f7a4_12 : decode cJ6_numberOfTrailingZeros_0f7a4 12 = .ok (.iload_n 0, 1) := by decide +kernel
theorem dJ6_numberOfTrailingZeros_0f7a4_13 : decode cJ6_numberOfTrailingZeros_0f7a4 13 = .ok (.bipush 32, 2) := by decide +kernel
theorem dJ6_numberOfTrailingZeros_0f7a4_15 : decode cJ6_numberOfTrailingZeros_0f7a4 15 = .ok (.iand, 1) := by decide +kernel
theorem dJ6_numberOfTrailingZeros_0f7a4_16 : decode cJ6_numberOfTrailingZeros_0f7a4 16 = .ok (.ireturn, 1) := by decide +kernel
theorem dJ6_numberOfTrailingZeros_0f7a4_17 : decode cJ6_numberOfTrailingZeros_0f7a4 17 = .ok (.iconst 1, 1) := by decide +kernel
theorem dJ6_numberOfTrailingZeros_0f7a4_18 : decode cJ6_numberOfTrailingZeros_0f7a4 18 = .ok (.istore_n 1, 1) := by decide +kernel
theorem dJ6_numberOfTrailingZeros_0f7a4_19 : decode cJ6_numberOfTrailingZeros_0f7a4 19 = .ok (.iload_n 0, 1) := by decide +kernel
theorem dJ6_numberOfTrailingZeros_0f7a4_20 : decode cJ6_numberOfTrailingZeros_0f7a4 20 = .ok (.ldc_w 264, 3) := by decide +kernel
theorem dJ6_numberOfTrailingZeros_0f7a4_23 : decode cJ6_numberOfTrailingZeros_0f7a4 23 = .ok (.if_icmp .le 11, 3) := by decide +kernel
theorem dJ6_numberOfTrailingZeros_0f7a4_26 : decode cJ6_numberOfTrailingZeros_0f7a4 26 = .ok (.iinc 1 16, 3) := by decide +kernel
theorem dJ6_numberOfTrailingZeros_0f7a4_29 : decode cJ6_numberOfTrailingZeros_0f7a4 29 = .ok (.iload_n 0, 1) := by decide +kernel
theorem dJ6_numberOfTrailingZeros_0f7a4_30 : decode cJ6_numberOfTrailingZeros_0f7a4 30 = .ok (.bipush 16, 2) := by decide +kernel
theorem dJ6_numberOfTrailingZeros_0f7a4_32 : decode cJ6_numberOfTrailingZeros_0f7a4 32 = .ok (.iushr, 1) := by decide +kernel
theorem dJ6_numberOfTrailingZeros_0f7a4_33 : decode cJ6_numberOfTrailingZeros_0f7a4 33 = .ok (.istore_n 0, 1) := by decide +kernel
theorem dJ6_numberOfTrailingZeros_0f7a4_34 : decode cJ6_numberOfTrailingZeros_0f7a4 34 = .ok (.iload_n 0, 1) := by decide +kernel
theorem dJ6_numberOfTrailingZeros_0f7a4_35 : decode cJ6_numberOfTrailingZeros_0f7a4 35 = .ok (.sipush 256, 3) := by decide +kernel
theorem dJ6_numberOfTrailingZeros_0f7a4_38 : decode cJ6_numberOfTrailingZeros_0f7a4 38 = .ok (.if_icmp .le 11, 3) := by decide +kernel
theorem dJ6_numberOfTrailingZeros_0f7a4_41 : decode cJ6_numberOfTrailingZeros_0f7a4 41 = .ok (.iinc 1 8, 3) := by decide +kernel
theorem dJ6_numberOfTrailingZeros_0f7a4_44 : decode cJ6_numberOfTrailingZeros_0f7a4 44 = .ok (.iload_n 0, 1) := by decide +kernel
theorem dJ6_numberOfTrailingZeros_0f7a4_45 : decode cJ6_numberOfTrailingZeros_0f7a4 45 = .ok (.bipush 8, 2) := by decide +kernel
theorem dJ6_numberOfTrailingZeros_0f7a4_47 : decode cJ6_numberOfTrailingZeros_0f7a4 47 = .ok (.iushr, 1) := by decide +kernel
theorem dJ6_numberOfTrailingZeros_0f7a4_48 : decode cJ6_numberOfTrailingZeros_0f7a4 48 = .ok (.istore_n 0, 1) := by decide +kernel
theorem dJ6_numberOfTrailingZeros_0f7a4_49 : decode cJ6_numberOfTrailingZeros_0f7a4 49 = .ok (.iload_n 0, 1) := by decide +kernel
theorem dJ6_numberOfTrailingZeros_0f7a4_50 : decode cJ6_numberOfTrailingZeros_0f7a4 50 = .ok (.bipush 16, 2) := by decide +kernel
theorem dJ6_numberOfTrailingZeros_0f7a4_52 : decode cJ6_numberOfTrailingZeros_0f7a4 52 = .ok (.if_icmp .le 10, 3) := by decide +kernel
theorem dJ6_numberOfTrailingZeros_0f7a4_55 : decode cJ6_numberOfTrailingZeros_0f7a4 55 = .ok (.iinc 1 4, 3) := by decide +kernel
theorem dJ6_numberOfTrailingZeros_0f7a4_58 : decode cJ6_numberOfTrailingZeros_0f7a4 58 = .ok (.iload_n 0, 1) := by decide +kernel
theorem dJ6_numberOfTrailingZeros_0f7a4_59 : decode cJ6_numberOfTrailingZeros_0f7a4 59 = .ok (.iconst 4, 1) := by decide +kernel
theorem dJ6_numberOfTrailingZeros_0f7a4_60 : decode cJ6_numberOfTrailingZeros_0f7a4 60 = .ok (.iushr, 1) := by decide +kernel
theorem dJ6_numberOfTrailingZeros_0f7a4_61 : decode cJ6_numberOfTrailingZeros_0f7a4 61 = .ok (.istore_n 0, 1) := by decide +kernel
theorem dJ6_numberOfTrailingZeros_0f7a4_62 : decode cJ6_numberOfTrailingZeros_0f7a4 62 = .ok (.iload_n 0, 1) := by decide +kernel
theorem dJ6_numberOfTrailingZeros_0f7a4_63 : decode cJ6_numberOfTrailingZeros_0f7a4 63 = .ok (.iconst 4, 1) := by decide +kernel
theorem dJ6_numberOfTrailingZeros_0f7a4_64 : decode cJ6_numberOfTrailingZeros_0f7a4 64 = .ok (.if_icmp .le 10, 3) := by decide +kernel
theorem dJ6_numberOfTrailingZeros_0f7a4_67 : decode cJ6_numberOfTrailingZeros_0f7a4 67 = .ok (.iinc 1 2, 3) := by decide +kernel
theorem dJ6_numberOfTrailingZeros_0f7a4_70 : decode cJ6_numberOfTrailingZeros_0f7a4 70 = .ok (.iload_n 0, 1) := by decide +kernel
theorem dJ6_numberOfTrailingZeros_0f7a4_71 : decode cJ6_numberOfTrailingZeros_0f7a4 71 = .ok (.iconst 2, 1) := by decide +kernel
theorem dJ6_numberOfTrailingZeros_0f7a4_72 : decode cJ6_numberOfTrailingZeros_0f7a4 72 = .ok (.iushr, 1) := by decide +kernel
theorem dJ6_numberOfTrailingZeros_0f7a4_73 : decode cJ6_numberOfTrailingZeros_0f7a4 73 = .ok (.istore_n 0, 1) := by decide +kernel
theorem dJ6_numberOfTrailingZeros_0f7a4_74 : decode cJ6_numberOfTrailingZeros_0f7a4 74 = .ok (.iload_n 1, 1) := by decide +kernel
theorem dJ6_numberOfTrailingZeros_0f7a4_75 : decode cJ6_numberOfTrailingZeros_0f7a4 75 = .ok (.iload_n 0, 1) := by decide +kernel
theorem dJ6_numberOfTrailingZeros_0f7a4_76 : decode cJ6_numberOfTrailingZeros_0f7a4 76 = .ok (.iconst 1, 1) := by decide +kernel
theorem dJ6_numberOfTrailingZeros_0f7a4_77 : decode cJ6_numberOfTrailingZeros_0f7a4 77 = .ok (.iushr, 1) := by decide +kernel
theorem dJ6_numberOfTrailingZeros_0f7a4_78 : decode cJ6_numberOfTrailingZeros_0f7a4 78 = .ok (.iadd, 1) := by decide +kernel
theorem dJ6_numberOfTrailingZeros_0f7a4_79 : decode cJ6_numberOfTrailingZeros_0f7a4 79 = .ok (.ireturn, 1) := by decide +kernel
theorem dJ13_numberOfTrailingZeros_95d88_0 : decode cJ13_numberOfTrailingZeros_95d88 0 = .ok (.lload_n 0, 1) := by decide +kernel
theorem dJ13_numberOfTrailingZeros_95d88_1 : decode cJ13_numberOfTrailingZeros_95d88 1 = .ok (.l2i, 1) := by decide +kernel
theorem dJ13_numberOfTrailingZeros_95d88_2 : decode cJ13_numberOfTrailingZeros_95d88 2 = .ok (.istore_n 2, 1) := by decide +kernel
theorem dJ13_numberOfTrailingZeros_95d88_3 : decode cJ13_numberOfTrailingZeros_95d88 3 = .ok (.iload_n 2, 1) := by decide +kernel
theorem dJ13_numberOfTrailingZeros_95d88_4 : decode cJ13_numberOfTrailingZeros_95d88 4 = .ok (.ifCond .ne 17, 3) := by decide +kernel
theorem dJ13_numberOfTrailingZeros_95d88_7 : decode cJ13_numberOfTrailingZeros_95d88 7 = .ok (.bipush 32, 2) := by decide +kernel
theorem dJ13_numberOfTrailingZeros_95d88_9 : decode cJ13_numberOfTrailingZeros_95d88 9 = .ok (.lload_n 0, 1) := by decide +kernel
theorem dJ13_numberOfTrailingZeros_95d88_10 : decode cJ13_numberOfTrailingZeros_95d88 10 = .ok (.bipush 32, 2) := by decide +kernel
theorem dJ13_numberOfTrailingZeros_95d88_12 : decode cJ13_numberOfTrailingZeros_95d88 12 = .ok (.lushr, 1) := by decide +kernel
theorem dJ13_numberOfTrailingZeros_95d88_13 : decode cJ13_numberOfTrailingZeros_95d88 13 = .ok (.l2i, 1) := by decide +kernel
theorem dJ13_numberOfTrailingZeros_95d88_14 : decode cJ13_numberOfTrailingZeros_95d88 14 = .ok (.invokestatic 311, 3) := by decide +kernel
theorem dJ13_numberOfTrailingZeros_95d88_17 : decode cJ13_numberOfTrailingZeros_95d88 17 = .ok (.iadd, 1) := by decide +kernel
theorem dJ13_numberOfTrailingZeros_95d88_18 : decode cJ13_numberOfTrailingZeros_95d88 18 = .ok (.goto 7, 3) := by decide +kernel
theorem dJ13_numberOfTrailingZeros_95d88_21 : decode cJ13_numberOfTrailingZeros_95d88 21 = .ok (.iload_n 2, 1) := by decide +kernel
theorem dJ13_numberOfTrailingZeros_95d88_22 : decode cJ13_numberOfTrailingZeros_95d88 22 = .ok (.invokestatic 311, 3) := by decide +kernel
theorem dJ13_numberOfTrailingZeros_95d88_25 : decode cJ13_numberOfTrailingZeros_95d88 25 = .ok (.ireturn, 1) := by decide +kernel
theorem dJ13_bitCount_95d88_0 : decode cJ13_bitCount_95d88 0 = .ok (.lload_n 0, 1) := by decide +kernel
theorem dJ13_bitCount_95d88_1 : decode cJ13_bitCount_95d88 1 = .ok (.lload_n 0, 1) := by decide +kernel
theorem dJ13_bitCount_95d88_2 : decode cJ13_bitCount_95d88 2 = .ok (.iconst 1, 1) := by decide +kernel
theorem dJ13_bitCount_95d88_3 : decode cJ13_bitCount_95d88 3 = .ok (.lushr, 1) := by decide +kernel
theorem dJ13_bitCount_95d88_4 : decode cJ13_bitCount_95d88 4 = .ok (.ldc2_w 314, 3) := by decide +kernel
theorem dJ13_bitCount_95d88_7 : decode cJ13_bitCount_95d88 7 = .ok (.land, 1) := by decide +kernel
theorem dJ13_bitCount_95d88_8 : decode cJ13_bitCount_95d88 8 = .ok (.lsub, 1) := by decide +kernel
theorem dJ13_bitCount_95d88_9 : decode cJ13_bitCount_95d88 9 = .ok (.lstore_n 0, 1) := by decide +kernel
theorem dJ13_bitCount_95d88_10 : decode cJ13_bitCount_95d88 10 = .ok (.lload_n 0, 1) := by decide +kernel
theorem dJ13_bitCount_95d88_11 : decode cJ13_bitCount_95d88 11 = .ok (.ldc2_w 316, 3) := by decide +kernel
theorem dJ13_bitCount_95d88_14 : decode cJ13_bitCount_95d88 14 = .ok (.land, 1) := by decide +kernel
theorem dJ13_bitCount_95d88_15 : decode cJ13_bitCount_95d88 15 = .ok (.lload_n 0, 1) := by decide +kernel
theorem dJ13_bitCount_95d88_16 : decode cJ13_bitCount_95d88 16 = .ok (.iconst 2, 1) := by decide +kernel
theorem dJ13_bitCount_95d88_17 : decode cJ13_bitCount_95d88 17 = .ok (.lushr, 1) := by decide +kernel
theorem dJ13_bitCount_95d88_18 : decode cJ13_bitCount_95d88 18 = .ok (.ldc2_w 316, 3) := by decide +kernel
theorem dJ13_bitCount_95d88_21 : decode cJ13_bitCount_95d88 21 = .ok (.land, 1) := by decide +kernel
theorem dJ13_bitCount_95d88_22 : decode cJ13_bitCount_95d88 22 = .ok (.ladd, 1) := by decide +kernel
theorem dJ13_bitCount_95d88_23 : decode cJ13_bitCount_95d88 23 = .ok (.lstore_n 0, 1) := by decide +kernel
theorem dJ13_bitCount_95d88_24 : decode cJ13_bitCount_95d88 24 = .ok (.lload_n 0, 1) := by decide +kernel
theorem dJ13_bitCount_95d88_25 : decode cJ13_bitCount_95d88 25 = .ok (.lload_n 0, 1) := by decide +kernel
theorem dJ13_bitCount_95d88_26 : decode cJ13_bitCount_95d88 26 = .ok (.iconst 4, 1) := by decide +kernel
theorem dJ13_bitCount_95d88_27 : decode cJ13_bitCount_95d88 27 = .ok (.lushr, 1) := by decide +kernel
theorem dJ13_bitCount_95d88_28 : decode cJ13_bitCount_95d88 28 = .ok (.ladd, 1) := by decide +kernel
theorem dJ13_bitCount_95d88_29 : decode cJ13_bitCount_95d88 29 = .ok (.ldc2_w 318, 3) := by decide +kernel
theorem dJ13_bitCount_95d88_32 : decode cJ13_bitCount_95d88 32 = .ok (.land, 1) := by decide +kernel
theorem dJ13_bitCount_95d88_33 : decode cJ13_bitCount_95d88 33 = .ok (.lstore_n 0, 1) := by decide +kernel
theorem dJ13_bitCount_95d88_34 : decode cJ13_bitCount_95d88 34 = .ok (.lload_n 0, 1) := by decide +kernel
theorem dJ13_bitCount_95d88_35 : decode cJ13_bitCount_95d88 35 = .ok (.lload_n 0, 1) := by decide +kernel
theorem dJ13_bitCount_95d88_36 : decode cJ13_bitCount_95d88 36 = .ok (.bipush 8, 2) := by decide +kernel
theorem dJ13_bitCount_95d88_38 : decode cJ13_bitCount_95d88 38 = .ok (.lushr, 1) := by decide +kernel
theorem dJ13_bitCount_95d88_39 : decode cJ13_bitCount_95d88 39 = .ok (.ladd, 1) := by decide +kernel
theorem dJ13_bitCount_95d88_40 : decode cJ13_bitCount_95d88 40 = .ok (.lstore_n 0, 1) := by decide +kernel
theorem dJ13_bitCount_95d88_41 : decode cJ13_bitCount_95d88 41 = .ok (.lload_n 0, 1) := by decide +kernel
theorem dJ13_bitCount_95d88_42 : decode cJ13_bitCount_95d88 42 = .ok (.lload_n 0, 1) := by decide +kernel
theorem dJ13_bitCount_95d88_43 : decode cJ13_bitCount_95d88 43 = .ok (.bipush 16, 2) := by decide +kernel
theorem dJ13_bitCount_95d88_45 : decode cJ13_bitCount_95d88 45 = .ok (.lushr, 1) := by decide +kernel
theorem dJ13_bitCount_95d88_46 : decode cJ13_bitCount_95d88 46 = .ok (.ladd, 1) := by decide +kernel
theorem dJ13_bitCount_95d88_47 : decode cJ13_bitCount_95d88 47 = .ok (.lstore_n 0, 1) := by decide +kernel
theorem dJ13_bitCount_95d88_48 : decode cJ13_bitCount_95d88 48 = .ok (.lload_n 0, 1) := by decide +kernel
theorem dJ13_bitCount_95d88_49 : decode cJ13_bitCount_95d88 49 = .ok (.lload_n 0, 1) := by decide +kernel
theorem dJ13_bitCount_95d88_50 : decode cJ13_bitCount_95d88 50 = .ok (.bipush 32, 2) := by decide +kernel
theorem dJ13_bitCount_95d88_52 : decode cJ13_bitCount_95d88 52 = .ok (.lushr, 1) := by decide +kernel
theorem dJ13_bitCount_95d88_53 : decode cJ13_bitCount_95d88 53 = .ok (.ladd, 1) := by decide +kernel
theorem dJ13_bitCount_95d88_54 : decode cJ13_bitCount_95d88 54 = .ok (.lstore_n 0, 1) := by decide +kernel
theorem dJ13_bitCount_95d88_55 : decode cJ13_bitCount_95d88 55 = .ok (.lload_n 0, 1) := by decide +kernel
theorem dJ13_bitCount_95d88_56 : decode cJ13_bitCount_95d88 56 = .ok (.l2i, 1) := by decide +kernel
theorem dJ13_bitCount_95d88_57 : decode cJ13_bitCount_95d88 57 = .ok (.bipush 127, 2) := by decide +kernel
theorem dJ13_bitCount_95d88_59 : decode cJ13_bitCount_95d88 59 = .ok (.iand, 1) := by decide +kernel
theorem dJ13_bitCount_95d88_60 : decode cJ13_bitCount_95d88 60 = .ok (.ireturn, 1) := by decide +kernel
theorem dJ9_max_7cf53_0 : decode cJ9_max_7cf53 0 = .ok (.iload_n 0, 1) := by decide +kernel
theorem dJ9_max_7cf53_1 : decode cJ9_max_7cf53 1 = .ok (.iload_n 1, 1) := by decide +kernel
theorem dJ9_max_7cf53_2 : decode cJ9_max_7cf53 2 = .ok (.if_icmp .lt 7, 3) := by decide +kernel
theorem dJ9_max_7cf53_5 : decode cJ9_max_7cf53 5 = .ok (.iload_n 0, 1) := by decide +kernel
theorem dJ9_max_7cf53_6 : decode cJ9_max_7cf53 6 = .ok (.goto 4, 3) := by decide +kernel
theorem dJ9_max_7cf53_9 : decode cJ9_max_7cf53 9 = .ok (.iload_n 1, 1) := by decide +kernel
theorem dJ9_max_7cf53_10 : decode cJ9_max_7cf53 10 = .ok (.ireturn, 1) := by decide +kernel
theorem dJ9_min_7cf53_0 : decode cJ9_min_7cf53 0 = .ok (.iload_n 0, 1) := by decide +kernel
theorem dJ9_min_7cf53_1 : decode cJ9_min_7cf53 1 = .ok (.iload_n 1, 1) := by decide +kernel
theorem dJ9_min_7cf53_2 : decode cJ9_min_7cf53 2 = .ok (.if_icmp .gt 7, 3) := by decide +kernel
theorem dJ9_min_7cf53_5 : decode cJ9_min_7cf53 5 = .ok (.iload_n 0, 1) := by decide +kernel
theorem dJ9_min_7cf53_6 : decode cJ9_min_7cf53 6 = .ok (.goto 4, 3) := by decide +kernel
theorem dJ9_min_7cf53_9 : decode cJ9_min_7cf53 9 = .ok (.iload_n 1, 1) := by decide +kernel
theorem dJ9_min_7cf53_10 : decode cJ9_min_7cf53 10 = .ok (.ireturn, 1) := by decide +kernel
theorem dJ0_length_8abf5_0 : decode cJ0_length_8abf5 0 = .ok (.aload_n 0, 1) := by decide +kernel
theorem dJ0_length_8abf5_1 : decode cJ0_length_8abf5 1 = .ok (.getfield 9, 3) := by decide +kernel
theorem dJ0_length_8abf5_4 : decode cJ0_length_8abf5 4 = .ok (.arraylength, 1) := by decide +kernel
theorem dJ0_length_8abf5_5 : decode cJ0_length_8abf5 5 = .ok (.aload_n 0, 1) := by decide +kernel
theorem dJ0_length_8abf5_6 : decode cJ0_length_8abf5 6 = .ok (.invokevirtual 335, 3) := by decide +kernel
theorem dJ0_length_8abf5_9 : decode cJ0_length_8abf5 9 = .ok (.ishr, 1) := by decide +kernel
theorem dJ0_length_8abf5_10 : decode cJ0_length_8abf5 10 = .ok (.ireturn, 1) := by decide +kernel
theorem dJ0_charAt_5068e_0 : decode cJ0_charAt_5068e 0 = .ok (.aload_n 0, 1) := by decide +kernel
theorem dJ0_charAt_5068e_1 : decode cJ0_charAt_5068e 1 = .ok (.invokevirtual 492, 3) := by decide +kernel
theorem dJ0_charAt_5068e_4 : decode cJ0_charAt_5068e 4 = .ok (.ifCond .eq 12, 3) := by decide +kernel
theorem dJ0_charAt_5068e_7 : decode cJ0_charAt_5068e 7 = .ok (.aload_n 0, 1) := by decide +kernel
theorem dJ0_charAt_5068e_8 : decode cJ0_charAt_5068e 8 = .ok (.getfield 9, 3) := by decide +kernel
theorem dJ0_charAt_5068e_11 : decode cJ0_charAt_5068e 11 = .ok (.iload_n 1, 1) := by decide +kernel
theorem dJ0_charAt_5068e_12 : decode cJ0_charAt_5068e 12 = .ok (.invokestatic 495, 3) := by decide +kernel
theorem dJ0_charAt_5068e_15 : decode cJ0_charAt_5068e 15 = .ok (.ireturn, 1) := by decide +kernel
theorem dJ0_charAt_5068e_16 : decode cJ0_charAt_5068e 16 = .ok (.aload_n 0, 1) := by decide +kernel
theorem dJ0_charAt_5068e_17 : decode cJ0_charAt_5068e 17 = .ok (.getfield 9, 3) := by decide +kernel
theorem dJ0_charAt_5068e_20 : decode cJ0_charAt_5068e 20 = .ok (.iload_n 1, 1) := by decide +kernel
theorem dJ0_charAt_5068e_21 : decode cJ0_charAt_5068e 21 = .ok (.invokestatic 498, 3) := by decide +kernel
theorem dJ0_charAt_5068e_24 : decode cJ0_charAt_5068e 24 = .ok (.ireturn, 1) := by decide +kernel
theorem dJ0_indexOf_0f7a4_0 : decode cJ0_indexOf_0f7a4 0 = .ok (.aload_n 0, 1) := by decide +kernel
theorem dJ0_indexOf_0f7a4_1 : decode cJ0_indexOf_0f7a4 1 = .ok (.iload_n 1, 1) := by decide +kernel
theorem dJ0_indexOf_0f7a4_2 : decode cJ0_indexOf_0f7a4 2 = .ok (.iconst 0, 1) := by decide +kernel
theorem dJ0_indexOf_0f7a4_3 : decode cJ0_indexOf_0f7a4 3 = .ok (.invokevirtual 633, 3) := by decide +kernel
theorem dJ0_indexOf_0f7a4_6 : decode cJ0_indexOf_0f7a4 6 = .ok (.ireturn, 1) := by decide +kernel
theorem dJ0_indexOf_7cf53_0 : decode cJ0_indexOf_7cf53 0 = .ok (.aload_n 0, 1) := by decide +kernel
theorem dJ0_indexOf_7cf53_1 : decode cJ0_indexOf_7cf53 1 = .ok (.invokevirtual 492, 3) := by decide +kernel
theorem dJ0_indexOf_7cf53_4 : decode cJ0_indexOf_7cf53 4 = .ok (.ifCond .eq 19, 3) := by decide +kernel
theorem dJ0_indexOf_7cf53_7 : decode cJ0_indexOf_7cf53 7 = .ok (.aload_n 0, 1) := by decide +kernel
theorem dJ0_indexOf_7cf53_8 : decode cJ0_indexOf_7cf53 8 = .ok (.getfield 9, 3) := by decide +kernel
theorem dJ0_indexOf_7cf53_11 : decode cJ0_indexOf_7cf53 11 = .ok (.iload_n 1, 1) := by decide +kernel
theorem dJ0_indexOf_7cf53_12 : decode cJ0_indexOf_7cf53 12 = .ok (.iload_n 2, 1) := by decide +kernel
theorem dJ0_indexOf_7cf53_13 : decode cJ0_indexOf_7cf53 13 = .ok (.aload_n 0, 1) := by decide +kernel
theorem dJ0_indexOf_7cf53_14 : decode cJ0_indexOf_7cf53 14 = .ok (.invokevirtual 505, 3) := by decide +kernel
theorem dJ0_indexOf_7cf53_17 : decode cJ0_indexOf_7cf53 17 = .ok (.invokestatic 637, 3) := by decide +kernel
theorem dJ0_indexOf_7cf53_20 : decode cJ0_indexOf_7cf53 20 = .ok (.goto 16, 3) := by decide +kernel
theorem dJ0_indexOf_7cf53_23 : decode cJ0_indexOf_7cf53 23 = .ok (.aload_n 0, 1) := by decide +kernel
theorem dJ0_indexOf_7cf53_24 : decode cJ0_indexOf_7cf53 24 = .ok (.getfield 9, 3) := by decide +kernel
theorem dJ0_indexOf_7cf53_27 : decode cJ0_indexOf_7cf53 27 = .ok (.iload_n 1, 1) := by decide +kernel
theorem dJ0_indexOf_7cf53_28 : decode cJ0_indexOf_7cf53 28 = .ok (.iload_n 2, 1) := by decide +kernel
theorem dJ0_indexOf_7cf53_29 : decode cJ0_indexOf_7cf53 29 = .ok (.aload_n 0, 1) := by decide +kernel
theorem dJ0_indexOf_7cf53_30 : decode cJ0_indexOf_7cf53 30 = .ok (.invokevirtual 505, 3) := by decide +kernel
theorem dJ0_indexOf_7cf53_33 : decode cJ0_indexOf_7cf53 33 = .ok (.invokestatic 640, 3) := by decide +kernel
theorem dJ0_indexOf_7cf53_36 : decode cJ0_indexOf_7cf53 36 = .ok (.ireturn, 1) := by decide +kernel
theorem dJ0_coder_7d493_0 : decode cJ0_coder_7d493 0 = .ok (.getstatic 38, 3) := by decide +kernel
theorem dJ0_coder_7d493_3 : decode cJ0_coder_7d493 3 = .ok (.ifCond .eq 10, 3) := by decide +kernel
theorem dJ0_coder_7d493_6 : decode cJ0_coder_7d493 6 = .ok (.aload_n 0, 1) := by decide +kernel
theorem dJ0_coder_7d493_7 : decode cJ0_coder_7d493 7 = .ok (.getfield 15, 3) := by decide +kernel
theorem dJ0_coder_7d493_10 : decode cJ0_coder_7d493 10 = .ok (.goto 4, 3) := by decide +kernel
theorem dJ0_coder_7d493_13 : decode cJ0_coder_7d493 13 = .ok (.iconst 1, 1) := by decide +kernel
theorem dJ0_coder_7d493_14 : decode cJ0_coder_7d493 14 = .ok (.ireturn, 1) := by decide +kernel
theorem dJ0_isLatin1_aae02_0 : decode cJ0_isLatin1_aae02 0 = .ok (.getstatic 38, 3) := by decide +kernel
theorem dJ0_isLatin1_aae02_3 : decode cJ0_isLatin1_aae02 3 = .ok (.ifCond .eq 14, 3) := by decide +kernel
theorem dJ0_isLatin1_aae02_6 : decode cJ0_isLatin1_aae02 6 = .ok (.aload_n 0, 1) := by decide +kernel
theorem dJ0_isLatin1_aae02_7 : decode cJ0_isLatin1_aae02 7 = .ok (.getfield 15, 3) := by decide +kernel
theorem dJ0_isLatin1_aae02_10 : decode cJ0_isLatin1_aae02 10 = .ok (.ifCond .ne 7, 3) := by decide +kernel
theorem dJ0_isLatin1_aae02_13 : decode cJ0_isLatin1_aae02 13 = .ok (.iconst 1, 1) := by decide +kernel
theorem dJ0_isLatin1_aae02_14 : decode cJ0_isLatin1_aae02 14 = .ok (.goto 4, 3) := by decide +kernel
theorem dJ0_isLatin1_aae02_17 : decode cJ0_isLatin1_aae02 17 = .ok (.iconst 0, 1) := by decide +kernel
theorem dJ0_isLatin1_aae02_18 : decode cJ0_isLatin1_aae02 18 = .ok (.ireturn, 1) := by decide +kernel
theorem dJ0_checkIndex_df160_0 : decode cJ0_checkIndex_df160 0 = .ok (.iload_n 0, 1) := by decide +kernel
theorem dJ0_checkIndex_df160_1 : decode cJ0_checkIndex_df160 1 = .ok (.iload_n 1, 1) := by decide +kernel
theorem dJ0_checkIndex_df160_2 : decode cJ0_checkIndex_df160 2 = .ok (.getstatic 1053, 3) := by decide +kernel
theorem dJ0_checkIndex_df160_5 : decode cJ0_checkIndex_df160 5 = .ok (.invokestatic 1059, 3) := by decide +kernel
theorem dJ0_checkIndex_df160_8 : decode cJ0_checkIndex_df160 8 = .ok (.pop, 1) := by decide +kernel
theorem dJ0_checkIndex_df160_9 : decode cJ0_checkIndex_df160 9 = .ok (.return_, 1) := by decide +kernel
theorem dJ1_charAt_3b067_0 : decode cJ1_charAt_3b067 0 = .ok (.iload_n 1, 1) := by decide +kernel
theorem dJ1_charAt_3b067_1 : decode cJ1_charAt_3b067 1 = .ok (.aload_n 0, 1) := by decide +kernel
theorem dJ1_charAt_3b067_2 : decode cJ1_charAt_3b067 2 = .ok (.arraylength, 1) := by decide +kernel
theorem dJ1_charAt_3b067_3 : decode cJ1_charAt_3b067 3 = .ok (.invokestatic 9, 3) := by decide +kernel
theorem dJ1_charAt_3b067_6 : decode cJ1_charAt_3b067 6 = .ok (.aload_n 0, 1) := by decide +kernel
theorem dJ1_charAt_3b067_7 : decode cJ1_charAt_3b067 7 = .ok (.iload_n 1, 1) := by decide +kernel
theorem dJ1_charAt_3b067_8 : decode cJ1_charAt_3b067 8 = .ok (.baload, 1) := by decide +kernel
theorem dJ1_charAt_3b067_9 : decode cJ1_charAt_3b067 9 = .ok (.sipush 255, 3) := by decide +kernel
theorem dJ1_charAt_3b067_12 : decode cJ1_charAt_3b067 12 = .ok (.iand, 1) := by decide +kernel
theorem dJ1_charAt_3b067_13 : decode cJ1_charAt_3b067 13 = .ok (.i2c, 1) := by decide +kernel
theorem dJ1_charAt_3b067_14 : decode cJ1_charAt_3b067 14 = .ok (.ireturn, 1) := by decide +kernel
theorem dJ1_canEncode_9a6ad_0 : decode cJ1_canEncode_9a6ad 0 = .ok (.iload_n 0, 1) := by decide +kernel
theorem dJ1_canEncode_9a6ad_1 : decode cJ1_canEncode_9a6ad 1 = .ok (.ifCond .lt 14, 3) := by decide +kernel
theorem dJ1_canEncode_9a6ad_4 : decode cJ1_canEncode_9a6ad 4 = .ok (.iload_n 0, 1) := by decide +kernel
theorem dJ1_canEncode_9a6ad_5 : decode cJ1_canEncode_9a6ad 5 = .ok (.sipush 255, 3) := by decide +kernel
theorem dJ1_canEncode_9a6ad_8 : decode cJ1_canEncode_9a6ad 8 = .ok (.if_icmp .gt 7, 3) := by decide +kernel
theorem dJ1_canEncode_9a6ad_11 : decode cJ1_canEncode_9a6ad 11 = .ok (.iconst 1, 1) := by decide +kernel
theorem dJ1_canEncode_9a6ad_12 : decode cJ1_canEncode_9a6ad 12 = .ok (.goto 4, 3) := by decide +kernel
theorem dJ1_canEncode_9a6ad_15 : decode cJ1_canEncode_9a6ad 15 = .ok (.iconst 0, 1) := by decide +kernel
theorem dJ1_canEncode_9a6ad_16 : decode cJ1_canEncode_9a6ad 16 = .ok (.ireturn, 1) := by decide +kernel
theorem dJ1_indexOf_4cfef_0 : decode cJ1_indexOf_4cfef 0 = .ok (.iload_n 1, 1) := by decide +kernel
theorem dJ1_indexOf_4cfef_1 : decode cJ1_indexOf_4cfef 1 = .ok (.invokestatic 88, 3) := by decide +kernel
theorem dJ1_indexOf_4cfef_4 : decode cJ1_indexOf_4cfef 4 = .ok (.ifCond .ne 5, 3) := by decide +kernel
theorem dJ1_indexOf_4cfef_7 : decode cJ1_indexOf_4cfef 7 = .ok (.iconst (-1), 1) := by decide +kernel
theorem dJ1_indexOf_4cfef_8 : decode cJ1_indexOf_4cfef 8 = .ok (.ireturn, 1) := by decide +kernel
theorem dJ1_indexOf_4cfef_9 : decode cJ1_indexOf_4cfef 9 = .ok (.iload_n 2, 1) := by decide +kernel
theorem dJ1_indexOf_4cfef_10 : decode cJ1_indexOf_4cfef 10 = .ok (.iconst 0, 1) := by decide +kernel
theorem dJ1_indexOf_4cfef_11 : decode cJ1_indexOf_4cfef 11 = .ok (.invokestatic 92, 3) := by decide +kernel
theorem dJ1_indexOf_4cfef_14 : decode cJ1_indexOf_4cfef 14 = .ok (.istore_n 2, 1) := by decide +kernel
theorem dJ1_indexOf_4cfef_15 : decode cJ1_indexOf_4cfef 15 = .ok (.iload_n 3, 1) := by decide +kernel
theorem dJ1_indexOf_4cfef_16 : decode cJ1_indexOf_4cfef 16 = .ok (.aload_n 0, 1) := by decide +kernel
theorem dJ1_indexOf_4cfef_17 : decode cJ1_indexOf_4cfef 17 = .ok (.arraylength, 1) := by decide +kernel
theorem dJ1_indexOf_4cfef_18 : decode cJ1_indexOf_4cfef 18 = .ok (.invokestatic 38, 3) := by decide +kernel
theorem dJ1_indexOf_4cfef_21 : decode cJ1_indexOf_4cfef 21 = .ok (.istore_n 3, 1) := by decide +kernel
theorem dJ1_indexOf_4cfef_22 : decode cJ1_indexOf_4cfef 22 = .ok (.iload_n 2, 1) := by decide +kernel
theorem dJ1_indexOf_4cfef_23 : decode cJ1_indexOf_4cfef 23 = .ok (.iload_n 3, 1) := by decide +kernel
theorem dJ1_indexOf_4cfef_24 : decode cJ1_indexOf_4cfef 24 = .ok (.if_icmp .lt 5, 3) := by decide +kernel
theorem dJ1_indexOf_4cfef_27 : decode cJ1_indexOf_4cfef 27 = .ok (.iconst (-1), 1) := by decide +kernel
theorem dJ1_indexOf_4cfef_28 : decode cJ1_indexOf_4cfef 28 = .ok (.ireturn, 1) := by decide +kernel
theorem dJ1_indexOf_4cfef_29 : decode cJ1_indexOf_4cfef 29 = .ok (.aload_n 0, 1) := by decide +kernel
theorem dJ1_indexOf_4cfef_30 : decode cJ1_indexOf_4cfef 30 = .ok (.iload_n 1, 1) := by decide +kernel
theorem dJ1_indexOf_4cfef_31 : decode cJ1_indexOf_4cfef 31 = .ok (.iload_n 2, 1) := by decide +kernel
theorem dJ1_indexOf_4cfef_32 : decode cJ1_indexOf_4cfef 32 = .ok (.iload_n 3, 1) := by decide +kernel
theorem dJ1_indexOf_4cfef_33 : decode cJ1_indexOf_4cfef 33 = .ok (.invokestatic 95, 3) := by decide +kernel
theorem dJ1_indexOf_4cfef_36 : decode cJ1_indexOf_4cfef 36 = .ok (.ireturn, 1) := by decide +kernel
theorem dJ1_indexOfChar_4cfef_0 : decode cJ1_indexOfChar_4cfef 0 = .ok (.iload_n 1, 1) := by decide +kernel
theorem dJ1_indexOfChar_4cfef_1 : decode cJ1_indexOfChar_4cfef 1 = .ok (.i2b, 1) := by decide +kernel
theorem dJ1_indexOfChar_4cfef_2 : decode cJ1_indexOfChar_4cfef 2 = .ok (.istore 4, 2) := by decide +kernel
theorem dJ1_indexOfChar_4cfef_4 : decode cJ1_indexOfChar_4cfef 4 = .ok (.iload_n 2, 1) := by decide +kernel
theorem dJ1_indexOfChar_4cfef_5 : decode cJ1_indexOfChar_4cfef 5 = .ok (.istore 5, 2) := by decide +kernel
theorem dJ1_indexOfChar_4cfef_7 : decode cJ1_indexOfChar_4cfef 7 = .ok (.iload 5, 2) := by decide +kernel
theorem dJ1_indexOfChar_4cfef_9 : decode cJ1_indexOfChar_4cfef 9 = .ok (.iload_n 3, 1) := by decide +kernel
theorem dJ1_indexOfChar_4cfef_10 : decode cJ1_indexOfChar_4cfef 10 = .ok (.if_icmp .ge 21, 3) := by decide +kernel
theorem dJ1_indexOfChar_4cfef_13 : decode cJ1_indexOfChar_4cfef 13 = .ok (.aload_n 0, 1) := by decide +kernel
theorem dJ1_indexOfChar_4cfef_14 : decode cJ1_indexOfChar_4cfef 14 = .ok (.iload 5, 2) := by decide +kernel
theorem dJ1_indexOfChar_4cfef_16 : decode cJ1_indexOfChar_4cfef 16 = .ok (.baload, 1) := by decide +kernel
theorem dJ1_indexOfChar_4cfef_17 : decode cJ1_indexOfChar_4cfef 17 = .ok (.iload 4, 2) := by decide +kernel
theorem dJ1_indexOfChar_4cfef_19 : decode cJ1_indexOfChar_4cfef 19 = .ok (.if_icmp .ne 6, 3) := by decide +kernel
theorem dJ1_indexOfChar_4cfef_22 : decode cJ1_indexOfChar_4cfef 22 = .ok (.iload 5, 2) := by decide +kernel
theorem dJ1_indexOfChar_4cfef_24 : decode cJ1_indexOfChar_4cfef 24 = .ok (.ireturn, 1) := by decide +kernel
theorem dJ1_indexOfChar_4cfef_25 : decode cJ1_indexOfChar_4cfef 25 = .ok (.iinc 5 1, 3) := by decide +kernel
theorem dJ1_indexOfChar_4cfef_28 : decode cJ1_indexOfChar_4cfef 28 = .ok (.goto (-21), 3) := by decide +kernel
theorem dJ1_indexOfChar_4cfef_31 : decode cJ1_indexOfChar_4cfef 31 = .ok (.iconst (-1), 1) := by decide +kernel
theorem dJ1_indexOfChar_4cfef_32 : decode cJ1_indexOfChar_4cfef 32 = .ok (.ireturn, 1) := by decide +kernel
theorem dJ3_checkIndex_8e157_0 : decode cJ3_checkIndex_8e157 0 = .ok (.iload_n 0, 1) := by decide +kernel
theorem dJ3_checkIndex_8e157_1 : decode cJ3_checkIndex_8e157 1 = .ok (.ifCond .lt 8, 3) := by decide +kernel
theorem dJ3_checkIndex_8e157_4 : decode cJ3_checkIndex_8e157 4 = .ok (.iload_n 0, 1) := by decide +kernel
theorem dJ3_checkIndex_8e157_5 : decode cJ3_checkIndex_8e157 5 = .ok (.iload_n 1, 1) := by decide +kernel
theorem dJ3_checkIndex_8e157_6 : decode cJ3_checkIndex_8e157 6 = .ok (.if_icmp .lt 10, 3) := by decide +kernel
theorem dJ3_checkIndex_8e157_9 : decode cJ3_checkIndex_8e157 9 = .ok (.aload_n 2, 1) := by decide +kernel
theorem dJ3_checkIndex_8e157_10 : decode cJ3_checkIndex_8e157 10 = .ok (.iload_n 0, 1) := by decide +kernel
theorem dJ3_checkIndex_8e157_11 : decode cJ3_checkIndex_8e157 11 = .ok (.iload_n 1, 1) := by decide +kernel
theorem dJ3_checkIndex_8e157_12 : decode cJ3_checkIndex_8e157 12 = .ok (.invokestatic 95, 3) := by decide +kernel
theorem dJ3_checkIndex_8e157_15 : decode cJ3_checkIndex_8e157 15 = .ok (.athrow, 1) := by decide +kernel
theorem dJ3_checkIndex_8e157_16 : decode cJ3_checkIndex_8e157 16 = .ok (.iload_n 0, 1) := by decide +kernel
theorem dJ3_checkIndex_8e157_17 : decode cJ3_checkIndex_8e157 17 = .ok (.ireturn, 1) := by decide +kernel
