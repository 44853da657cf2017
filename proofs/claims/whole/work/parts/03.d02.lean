theorem dX7_told_0 : decode cX7_told 0 = .ok (.iload_n 2, 1) := by decide +kernel
theorem dX7_told_1 : decode cX7_told 1 = .ok (.ifCond .ne 11, 3) := by decide +kernel
theorem dX7_told_4 : decode cX7_told 4 = .ok (.aload_n 0, 1) := by decide +kernel
theorem dX7_told_5 : decode cX7_told 5 = .ok (.getfield 10, 3) := by decide +kernel
theorem dX7_told_8 : decode cX7_told 8 = .ok (.getfield 95, 3) := by decide +kernel
theorem dX7_told_11 : decode cX7_told 11 = .ok (.ireturn, 1) := by decide +kernel
theorem dX7_told_12 : decode cX7_told 12 = .ok (.aload_n 0, 1) := by decide +kernel
theorem dX7_told_13 : decode cX7_told 13 = .ok (.getfield 10, 3) := by decide +kernel
theorem dX7_told_16 : decode cX7_told 16 = .ok (.iload_n 1, 1) := by decide +kernel
theorem dX7_told_17 : decode cX7_told 17 = .ok (.invokevirtual 87, 3) := by decide +kernel
theorem dX7_told_20 : decode cX7_told 20 = .ok (.ifCond .ne 6, 3) := by decide +kernel
theorem dX7_told_23 : decode cX7_told 23 = .ok (.bipush (-2), 2) := by decide +kernel
theorem dX7_told_25 : decode cX7_told 25 = .ok (.ireturn, 1) := by decide +kernel
theorem dX7_told_26 : decode cX7_told 26 = .ok (.iload_n 2, 1) := by decide +kernel
theorem dX7_told_27 : decode cX7_told 27 = .ok (.bipush 10, 2) := by decide +kernel
theorem dX7_told_29 : decode cX7_told 29 = .ok (.if_icmp .lt 34, 3) := by decide +kernel
theorem dX7_told_32 : decode cX7_told 32 = .ok (.iload_n 2, 1) := by decide +kernel
theorem dX7_told_33 : decode cX7_told 33 = .ok (.bipush 15, 2) := by decide +kernel
theorem dX7_told_35 : decode cX7_told 35 = .ok (.if_icmp .ge 28, 3) := by decide +kernel
theorem dX7_told_38 : decode cX7_told 38 = .ok (.aload_n 0, 1) := by decide +kernel
theorem dX7_told_39 : decode cX7_told 39 = .ok (.getfield 41, 3) := by decide +kernel
theorem dX7_told_42 : decode cX7_told 42 = .ok (.aload_n 0, 1) := by decide +kernel
theorem dX7_told_43 : decode cX7_told 43 = .ok (.getfield 10, 3) := by decide +kernel
theorem dX7_told_46 : decode cX7_told 46 = .ok (.iload_n 1, 1) := by decide +kernel
theorem dX7_told_47 : decode cX7_told 47 = .ok (.iload_n 2, 1) := by decide +kernel
theorem dX7_told_48 : decode cX7_told 48 = .ok (.bipush 10, 2) := by decide +kernel
theorem dX7_told_50 : decode cX7_told 50 = .ok (.isub, 1) := by decide +kernel
theorem dX7_told_51 : decode cX7_told 51 = .ok (.invokevirtual 103, 3) := by decide +kernel
theorem dX7_told_54 : decode cX7_told 54 = .ok (.ifCond .eq 7, 3) := by decide +kernel
theorem dX7_told_57 : decode cX7_told 57 = .ok (.iconst 1, 1) := by decide +kernel
theorem dX7_told_58 : decode cX7_told 58 = .ok (.goto 4, 3) := by decide +kernel
theorem dX7_told_61 : decode cX7_told 61 = .ok (.iconst 0, 1) := by decide +kernel
theorem dX7_told_62 : decode cX7_told 62 = .ok (.ireturn, 1) := by decide +kernel
theorem dX7_told_63 : decode cX7_told 63 = .ok (.iload_n 2, 1) := by decide +kernel
theorem dX7_told_64 : decode cX7_told 64 = .ok (.tableswitch 96 5 9 #[36, 52, 61, 74, 87], 36) := by decide +kernel
theorem dX7_told_100 : decode cX7_told 100 = .ok (.aload_n 0, 1) := by decide +kernel
theorem dX7_told_101 : decode cX7_told 101 = .ok (.getfield 10, 3) := by decide +kernel
theorem dX7_told_104 : decode cX7_told 104 = .ok (.aload_n 0, 1) := by decide +kernel
theorem dX7_told_105 : decode cX7_told 105 = .ok (.getfield 10, 3) := by decide +kernel
theorem dX7_told_108 : decode cX7_told 108 = .ok (.getfield 107, 3) := by decide +kernel
theorem dX7_told_111 : decode cX7_told 111 = .ok (.iload_n 1, 1) := by decide +kernel
theorem dX7_told_112 : decode cX7_told 112 = .ok (.invokevirtual 111, 3) := by decide +kernel
theorem dX7_told_115 : decode cX7_told 115 = .ok (.ireturn, 1) := by decide +kernel
theorem dX7_told_116 : decode cX7_told 116 = .ok (.aload_n 0, 1) := by decide +kernel
theorem dX7_told_117 : decode cX7_told 117 = .ok (.getfield 10, 3) := by decide +kernel
theorem dX7_told_120 : decode cX7_told 120 = .ok (.iload_n 1, 1) := by decide +kernel
theorem dX7_told_121 : decode cX7_told 121 = .ok (.invokevirtual 115, 3) := by decide +kernel
theorem dX7_told_124 : decode cX7_told 124 = .ok (.ireturn, 1) := by decide +kernel
theorem dX7_told_125 : decode cX7_told 125 = .ok (.aload_n 0, 1) := by decide +kernel
theorem dX7_told_126 : decode cX7_told 126 = .ok (.getfield 41, 3) := by decide +kernel
theorem dX7_told_129 : decode cX7_told 129 = .ok (.aload_n 0, 1) := by decide +kernel
theorem dX7_told_130 : decode cX7_told 130 = .ok (.getfield 10, 3) := by decide +kernel
theorem dX7_told_133 : decode cX7_told 133 = .ok (.iload_n 1, 1) := by decide +kernel
theorem dX7_told_134 : decode cX7_told 134 = .ok (.invokevirtual 118, 3) := by decide +kernel
theorem dX7_told_137 : decode cX7_told 137 = .ok (.ireturn, 1) := by decide +kernel
theorem dX7_told_138 : decode cX7_told 138 = .ok (.aload_n 0, 1) := by decide +kernel
theorem dX7_told_139 : decode cX7_told 139 = .ok (.getfield 41, 3) := by decide +kernel
theorem dX7_told_142 : decode cX7_told 142 = .ok (.aload_n 0, 1) := by decide +kernel
theorem dX7_told_143 : decode cX7_told 143 = .ok (.getfield 10, 3) := by decide +kernel
theorem dX7_told_146 : decode cX7_told 146 = .ok (.iload_n 1, 1) := by decide +kernel
theorem dX7_told_147 : decode cX7_told 147 = .ok (.invokevirtual 122, 3) := by decide +kernel
theorem dX7_told_150 : decode cX7_told 150 = .ok (.ireturn, 1) := by decide +kernel
theorem dX7_told_151 : decode cX7_told 151 = .ok (.aload_n 0, 1) := by decide +kernel
theorem dX7_told_152 : decode cX7_told 152 = .ok (.getfield 10, 3) := by decide +kernel
theorem dX7_told_155 : decode cX7_told 155 = .ok (.iload_n 1, 1) := by decide +kernel
theorem dX7_told_156 : decode cX7_told 156 = .ok (.invokevirtual 125, 3) := by decide +kernel
theorem dX7_told_159 : decode cX7_told 159 = .ok (.ireturn, 1) := by decide +kernel
theorem dX7_told_160 : decode cX7_told 160 = .ok (.aload_n 0, 1) := by decide +kernel
theorem dX7_told_161 : decode cX7_told 161 = .ok (.getfield 10, 3) := by decide +kernel
theorem dX7_told_164 : decode cX7_told 164 = .ok (.iload_n 2, 1) := by decide +kernel
theorem dX7_told_165 : decode cX7_told 165 = .ok (.invokevirtual 83, 3) := by decide +kernel
theorem dX7_told_168 : decode cX7_told 168 = .ok (.astore_n 3, 1) := by decide +kernel
theorem dX7_told_169 : decode cX7_told 169 = .ok (.aload_n 3, 1) := by decide +kernel
theorem dX7_told_170 : decode cX7_told 170 = .ok (.ifnonnull 8, 3) := by decide +kernel
theorem dX7_told_173 : decode cX7_told 173 = .ok (.bipush (-2), 2) := by decide +kernel
theorem dX7_told_175 : decode cX7_told 175 = .ok (.goto 12, 3) := by decide +kernel
theorem dX7_told_178 : decode cX7_told 178 = .ok (.aload_n 0, 1) := by decide +kernel
theorem dX7_told_179 : decode cX7_told 179 = .ok (.getfield 10, 3) := by decide +kernel
theorem dX7_told_182 : decode cX7_told 182 = .ok (.aload_n 3, 1) := by decide +kernel
theorem dX7_told_183 : decode cX7_told 183 = .ok (.iload_n 1, 1) := by decide +kernel
theorem dX7_told_184 : decode cX7_told 184 = .ok (.invokevirtual 111, 3) := by decide +kernel
theorem dX7_told_187 : decode cX7_told 187 = .ok (.ireturn, 1) := by decide +kernel
theorem dX7_feed_0 : decode cX7_feed 0 = .ok (.iload_n 1, 1) := by decide +kernel
theorem dX7_feed_1 : decode cX7_feed 1 = .ok (.ifCond .lt 10, 3) := by decide +kernel
theorem dX7_feed_4 : decode cX7_feed 4 = .ok (.iload_n 1, 1) := by decide +kernel
theorem dX7_feed_5 : decode cX7_feed 5 = .ok (.sipush 255, 3) := by decide +kernel
theorem dX7_feed_8 : decode cX7_feed 8 = .ok (.if_icmp .le 6, 3) := by decide +kernel
theorem dX7_feed_11 : decode cX7_feed 11 = .ok (.bipush (-2), 2) := by decide +kernel
theorem dX7_feed_13 : decode cX7_feed 13 = .ok (.ireturn, 1) := by decide +kernel
theorem dX7_feed_14 : decode cX7_feed 14 = .ok (.aload_n 0, 1) := by decide +kernel
theorem dX7_feed_15 : decode cX7_feed 15 = .ok (.getfield 25, 3) := by decide +kernel
theorem dX7_feed_18 : decode cX7_feed 18 = .ok (.iload_n 1, 1) := by decide +kernel
theorem dX7_feed_19 : decode cX7_feed 19 = .ok (.invokevirtual 128, 3) := by decide +kernel
theorem dX7_feed_22 : decode cX7_feed 22 = .ok (.ifCond .eq 13, 3) := by decide +kernel
theorem dX7_feed_25 : decode cX7_feed 25 = .ok (.aload_n 0, 1) := by decide +kernel
theorem dX7_feed_26 : decode cX7_feed 26 = .ok (.getfield 25, 3) := by decide +kernel
theorem dX7_feed_29 : decode cX7_feed 29 = .ok (.getfield 131, 3) := by decide +kernel
theorem dX7_feed_32 : decode cX7_feed 32 = .ok (.goto 5, 3) := by decide +kernel
theorem dX7_feed_35 : decode cX7_feed 35 = .ok (.bipush (-4), 2) := by decide +kernel
theorem dX7_feed_37 : decode cX7_feed 37 = .ok (.ireturn, 1) := by decide +kernel
theorem dX7_text_0 : decode cX7_text 0 = .ok (.aload_n 0, 1) := by decide +kernel
theorem dX7_text_1 : decode cX7_text 1 = .ok (.getfield 32, 3) := by decide +kernel
theorem dX7_text_4 : decode cX7_text 4 = .ok (.invokevirtual 134, 3) := by decide +kernel
theorem dX7_text_7 : decode cX7_text 7 = .ok (.ifCond .eq 6, 3) := by decide +kernel
theorem dX7_text_10 : decode cX7_text 10 = .ok (.bipush (-4), 2) := by decide +kernel
theorem dX7_text_12 : decode cX7_text 12 = .ok (.ireturn, 1) := by decide +kernel
theorem dX7_text_13 : decode cX7_text 13 = .ok (.aload_n 0, 1) := by decide +kernel
theorem dX7_text_14 : decode cX7_text 14 = .ok (.getfield 25, 3) := by decide +kernel
theorem dX7_text_17 : decode cX7_text 17 = .ok (.aload_n 0, 1) := by decide +kernel
theorem dX7_text_18 : decode cX7_text 18 = .ok (.getfield 32, 3) := by decide +kernel
theorem dX7_text_21 : decode cX7_text 21 = .ok (.invokevirtual 66, 3) := by decide +kernel
theorem dX7_text_24 : decode cX7_text 24 = .ok (.invokevirtual 70, 3) := by decide +kernel
theorem dX7_text_27 : decode cX7_text 27 = .ok (.istore_n 1, 1) := by decide +kernel
theorem dX7_text_28 : decode cX7_text 28 = .ok (.iload_n 1, 1) := by decide +kernel
theorem dX7_text_29 : decode cX7_text 29 = .ok (.iconst (-1), 1) := by decide +kernel
theorem dX7_text_30 : decode cX7_text 30 = .ok (.if_icmp .ne 13, 3) := by decide +kernel
theorem dX7_text_33 : decode cX7_text 33 = .ok (.aload_n 0, 1) := by decide +kernel
theorem dX7_text_34 : decode cX7_text 34 = .ok (.getfield 32, 3) := by decide +kernel
theorem dX7_text_37 : decode cX7_text 37 = .ok (.invokevirtual 74, 3) := by decide +kernel
theorem dX7_text_40 : decode cX7_text 40 = .ok (.goto 7, 3) := by decide +kernel
theorem dX7_text_43 : decode cX7_text 43 = .ok (.bipush (-100), 2) := by decide +kernel
theorem dX7_text_45 : decode cX7_text 45 = .ok (.iload_n 1, 1) := by decide +kernel
theorem dX7_text_46 : decode cX7_text 46 = .ok (.isub, 1) := by decide +kernel
theorem dX7_text_47 : decode cX7_text 47 = .ok (.ireturn, 1) := by decide +kernel
theorem dX7_force_0 : decode cX7_force 0 = .ok (.aload_n 0, 1) := by decide +kernel
theorem dX7_force_1 : decode cX7_force 1 = .ok (.getfield 32, 3) := by decide +kernel
theorem dX7_force_4 : decode cX7_force 4 = .ok (.iload_n 1, 1) := by decide +kernel
theorem dX7_force_5 : decode cX7_force 5 = .ok (.invokevirtual 138, 3) := by decide +kernel
theorem dX7_force_8 : decode cX7_force 8 = .ok (.ifCond .ne 6, 3) := by decide +kernel
theorem dX7_force_11 : decode cX7_force 11 = .ok (.bipush (-2), 2) := by decide +kernel
theorem dX7_force_13 : decode cX7_force 13 = .ok (.ireturn, 1) := by decide +kernel
theorem dX7_force_14 : decode cX7_force 14 = .ok (.aload_n 0, 1) := by decide +kernel
theorem dX7_force_15 : decode cX7_force 15 = .ok (.getfield 10, 3) := by decide +kernel
theorem dX7_force_18 : decode cX7_force 18 = .ok (.getfield 139, 3) := by decide +kernel
theorem dX7_force_21 : decode cX7_force 21 = .ok (.istore_n 2, 1) := by decide +kernel
theorem dX7_force_22 : decode cX7_force 22 = .ok (.aload_n 0, 1) := by decide +kernel
theorem dX7_force_23 : decode cX7_force 23 = .ok (.getfield 10, 3) := by decide +kernel
theorem dX7_force_26 : decode cX7_force 26 = .ok (.iload_n 1, 1) := by decide +kernel
theorem dX7_force_27 : decode cX7_force 27 = .ok (.putfield 139, 3) := by decide +kernel
theorem dX7_force_30 : decode cX7_force 30 = .ok (.iload_n 2, 1) := by decide +kernel
theorem dX7_force_31 : decode cX7_force 31 = .ok (.ireturn, 1) := by decide +kernel
theorem dX7_first_0 : decode cX7_first 0 = .ok (.iload_n 1, 1) := by decide +kernel
theorem dX7_first_1 : decode cX7_first 1 = .ok (.ifCond .lt 8, 3) := by decide +kernel
theorem dX7_first_4 : decode cX7_first 4 = .ok (.iload_n 1, 1) := by decide +kernel
theorem dX7_first_5 : decode cX7_first 5 = .ok (.iconst 5, 1) := by decide +kernel
theorem dX7_first_6 : decode cX7_first 6 = .ok (.if_icmp .lt 8, 3) := by decide +kernel
theorem dX7_first_9 : decode cX7_first 9 = .ok (.bipush (-2), 2) := by decide +kernel
theorem dX7_first_11 : decode cX7_first 11 = .ok (.goto 11, 3) := by decide +kernel
theorem dX7_first_14 : decode cX7_first 14 = .ok (.aload_n 0, 1) := by decide +kernel
theorem dX7_first_15 : decode cX7_first 15 = .ok (.getfield 10, 3) := by decide +kernel
theorem dX7_first_18 : decode cX7_first 18 = .ok (.iload_n 1, 1) := by decide +kernel
theorem dX7_first_19 : decode cX7_first 19 = .ok (.invokevirtual 142, 3) := by decide +kernel
theorem dX7_first_22 : decode cX7_first 22 = .ok (.ireturn, 1) := by decide +kernel
theorem dX7_pass_0 : decode cX7_pass 0 = .ok (.aload_n 0, 1) := by decide +kernel
theorem dX7_pass_1 : decode cX7_pass 1 = .ok (.getfield 10, 3) := by decide +kernel
theorem dX7_pass_4 : decode cX7_pass 4 = .ok (.iload_n 1, 1) := by decide +kernel
theorem dX7_pass_5 : decode cX7_pass 5 = .ok (.invokevirtual 87, 3) := by decide +kernel
theorem dX7_pass_8 : decode cX7_pass 8 = .ok (.ifCond .ne 6, 3) := by decide +kernel
theorem dX7_pass_11 : decode cX7_pass 11 = .ok (.bipush (-2), 2) := by decide +kernel
theorem dX7_pass_13 : decode cX7_pass 13 = .ok (.ireturn, 1) := by decide +kernel
theorem dX7_pass_14 : decode cX7_pass 14 = .ok (.aload_n 0, 1) := by decide +kernel
theorem dX7_pass_15 : decode cX7_pass 15 = .ok (.getfield 10, 3) := by decide +kernel
theorem dX7_pass_18 : decode cX7_pass 18 = .ok (.iload_n 1, 1) := by decide +kernel
theorem dX7_pass_19 : decode cX7_pass 19 = .ok (.invokevirtual 115, 3) := by decide +kernel
theorem dX7_pass_22 : decode cX7_pass 22 = .ok (.istore_n 2, 1) := by decide +kernel
theorem dX7_pass_23 : decode cX7_pass 23 = .ok (.aload_n 0, 1) := by decide +kernel
theorem dX7_pass_24 : decode cX7_pass 24 = .ok (.getfield 41, 3) := by decide +kernel
theorem dX7_pass_27 : decode cX7_pass 27 = .ok (.aload_n 0, 1) := by decide +kernel
theorem dX7_pass_28 : decode cX7_pass 28 = .ok (.getfield 10, 3) := by decide +kernel
theorem dX7_pass_31 : decode cX7_pass 31 = .ok (.iload_n 2, 1) := by decide +kernel
theorem dX7_pass_32 : decode cX7_pass 32 = .ok (.invokevirtual 145, 3) := by decide +kernel
theorem dX7_pass_35 : decode cX7_pass 35 = .ok (.ifCond .ne 6, 3) := by decide +kernel
theorem dX7_pass_38 : decode cX7_pass 38 = .ok (.bipush (-3), 2) := by decide +kernel
theorem dX7_pass_40 : decode cX7_pass 40 = .ok (.ireturn, 1) := by decide +kernel
theorem dX7_pass_41 : decode cX7_pass 41 = .ok (.aload_n 0, 1) := by decide +kernel
theorem dX7_pass_42 : decode cX7_pass 42 = .ok (.getfield 10, 3) := by decide +kernel
theorem dX7_pass_45 : decode cX7_pass 45 = .ok (.iload_n 2, 1) := by decide +kernel
theorem dX7_pass_46 : decode cX7_pass 46 = .ok (.invokevirtual 149, 3) := by decide +kernel
theorem dX7_pass_49 : decode cX7_pass 49 = .ok (.iload_n 2, 1) := by decide +kernel
theorem dX7_pass_50 : decode cX7_pass 50 = .ok (.iconst 1, 1) := by decide +kernel
theorem dX7_pass_51 : decode cX7_pass 51 = .ok (.isub, 1) := by decide +kernel
theorem dX7_pass_52 : decode cX7_pass 52 = .ok (.ireturn, 1) := by decide +kernel
theorem dX7_haste_0 : decode cX7_haste 0 = .ok (.aload_n 0, 1) := by decide +kernel
theorem dX7_haste_1 : decode cX7_haste 1 = .ok (.getfield 41, 3) := by decide +kernel
theorem dX7_haste_4 : decode cX7_haste 4 = .ok (.aload_n 0, 1) := by decide +kernel
theorem dX7_haste_5 : decode cX7_haste 5 = .ok (.getfield 10, 3) := by decide +kernel
theorem dX7_haste_8 : decode cX7_haste 8 = .ok (.invokevirtual 153, 3) := by decide +kernel
theorem dX7_haste_11 : decode cX7_haste 11 = .ok (.ireturn, 1) := by decide +kernel
theorem dX7_minute_0 : decode cX7_minute 0 = .ok (.aload_n 0, 1) := by decide +kernel
theorem dX7_minute_1 : decode cX7_minute 1 = .ok (.getfield 10, 3) := by decide +kernel
theorem dX7_minute_4 : decode cX7_minute 4 = .ok (.getfield 95, 3) := by decide +kernel
theorem dX7_minute_7 : decode cX7_minute 7 = .ok (.sipush 999, 3) := by decide +kernel
theorem dX7_minute_10 : decode cX7_minute 10 = .ok (.if_icmp .lt 8, 3) := by decide +kernel
theorem dX7_minute_13 : decode cX7_minute 13 = .ok (.bipush (-3), 2) := by decide +kernel
theorem dX7_minute_15 : decode cX7_minute 15 = .ok (.goto 14, 3) := by decide +kernel
theorem dX7_minute_18 : decode cX7_minute 18 = .ok (.aload_n 0, 1) := by decide +kernel
theorem dX7_minute_19 : decode cX7_minute 19 = .ok (.getfield 41, 3) := by decide +kernel
theorem dX7_minute_22 : decode cX7_minute 22 = .ok (.aload_n 0, 1) := by decide +kernel
theorem dX7_minute_23 : decode cX7_minute 23 = .ok (.getfield 10, 3) := by decide +kernel
theorem dX7_minute_26 : decode cX7_minute 26 = .ok (.invokevirtual 157, 3) := by decide +kernel
theorem dX7_minute_29 : decode cX7_minute 29 = .ok (.ireturn, 1) := by decide +kernel
theorem dX7_come_0 : decode cX7_come 0 = .ok (.aload_n 0, 1) := by decide +kernel
theorem dX7_come_1 : decode cX7_come 1 = .ok (.getfield 10, 3) := by decide +kernel
theorem dX7_come_4 : decode cX7_come 4 = .ok (.iload_n 1, 1) := by decide +kernel
theorem dX7_come_5 : decode cX7_come 5 = .ok (.invokevirtual 87, 3) := by decide +kernel
theorem dX7_come_8 : decode cX7_come 8 = .ok (.ifCond .ne 6, 3) := by decide +kernel
theorem dX7_come_11 : decode cX7_come 11 = .ok (.bipush (-2), 2) := by decide +kernel
theorem dX7_come_13 : decode cX7_come 13 = .ok (.ireturn, 1) := by decide +kernel
theorem dX7_come_14 : decode cX7_come 14 = .ok (.aload_n 0, 1) := by decide +kernel
theorem dX7_come_15 : decode cX7_come 15 = .ok (.getfield 10, 3) := by decide +kernel
theorem dX7_come_18 : decode cX7_come 18 = .ok (.iload_n 1, 1) := by decide +kernel
theorem dX7_come_19 : decode cX7_come 19 = .ok (.invokevirtual 115, 3) := by decide +kernel
theorem dX7_come_22 : decode cX7_come 22 = .ok (.iconst (-1), 1) := by decide +kernel
theorem dX7_come_23 : decode cX7_come 23 = .ok (.if_icmp .eq 6, 3) := by decide +kernel
theorem dX7_come_26 : decode cX7_come 26 = .ok (.bipush (-3), 2) := by decide +kernel
theorem dX7_come_28 : decode cX7_come 28 = .ok (.ireturn, 1) := by decide +kernel
theorem dX7_come_29 : decode cX7_come 29 = .ok (.aload_n 0, 1) := by decide +kernel
theorem dX7_come_30 : decode cX7_come 30 = .ok (.getfield 10, 3) := by decide +kernel
theorem dX7_come_33 : decode cX7_come 33 = .ok (.getfield 160, 3) := by decide +kernel
theorem dX7_come_36 : decode cX7_come 36 = .ok (.iload_n 1, 1) := by decide +kernel
theorem dX7_come_37 : decode cX7_come 37 = .ok (.iconst 0, 1) := by decide +kernel
theorem dX7_come_38 : decode cX7_come 38 = .ok (.iastore, 1) := by decide +kernel
theorem dX7_come_39 : decode cX7_come 39 = .ok (.aload_n 0, 1) := by decide +kernel
theorem dX7_come_40 : decode cX7_come 40 = .ok (.getfield 10, 3) := by decide +kernel
theorem dX7_come_43 : decode cX7_come 43 = .ok (.iload_n 1, 1) := by decide +kernel
theorem dX7_come_44 : decode cX7_come 44 = .ok (.invokevirtual 163, 3) := by decide +kernel
theorem dX7_come_47 : decode cX7_come 47 = .ok (.ireturn, 1) := by decide +kernel
theorem dX7_orders_0 : decode cX7_orders 0 = .ok (.iload_n 1, 1) := by decide +kernel
theorem dX7_orders_1 : decode cX7_orders 1 = .ok (.ifCond .lt 9, 3) := by decide +kernel
theorem dX7_orders_4 : decode cX7_orders 4 = .ok (.iload_n 1, 1) := by decide +kernel
theorem dX7_orders_5 : decode cX7_orders 5 = .ok (.bipush 6, 2) := by decide +kernel
theorem dX7_orders_7 : decode cX7_orders 7 = .ok (.if_icmp .le 6, 3) := by decide +kernel
theorem dX7_orders_10 : decode cX7_orders 10 = .ok (.bipush (-2), 2) := by decide +kernel
theorem dX7_orders_12 : decode cX7_orders 12 = .ok (.ireturn, 1) := by decide +kernel
theorem dX7_orders_13 : decode cX7_orders 13 = .ok (.aload_n 0, 1) := by decide +kernel
theorem dX7_orders_14 : decode cX7_orders 14 = .ok (.getfield 50, 3) := by decide +kernel
theorem dX7_orders_17 : decode cX7_orders 17 = .ok (.aload_n 0, 1) := by decide +kernel
theorem dX7_orders_18 : decode cX7_orders 18 = .ok (.getfield 10, 3) := by decide +kernel
theorem dX7_orders_21 : decode cX7_orders 21 = .ok (.invokevirtual 166, 3) := by decide +kernel
theorem dX7_orders_24 : decode cX7_orders 24 = .ok (.iload_n 1, 1) := by decide +kernel
theorem dX7_orders_25 : decode cX7_orders 25 = .ok (.tableswitch 109 0 5 #[39, 47, 56, 71, 86, 101], 39) := by decide +kernel
theorem dX7_orders_64 : decode cX7_orders 64 = .ok (.aload_n 0, 1) := by decide +kernel
theorem dX7_orders_65 : decode cX7_orders 65 = .ok (.getfield 50, 3) := by decide +kernel
theorem dX7_orders_68 : decode cX7_orders 68 = .ok (.getfield 170, 3) := by decide +kernel
theorem dX7_orders_71 : decode cX7_orders 71 = .ok (.ireturn, 1) := by decide +kernel
theorem dX7_orders_72 : decode cX7_orders 72 = .ok (.aload_n 0, 1) := by decide +kernel
theorem dX7_orders_73 : decode cX7_orders 73 = .ok (.getfield 50, 3) := by decide +kernel
theorem dX7_orders_76 : decode cX7_orders 76 = .ok (.iconst 0, 1) := by decide +kernel
theorem dX7_orders_77 : decode cX7_orders 77 = .ok (.invokevirtual 173, 3) := by decide +kernel
theorem dX7_orders_80 : decode cX7_orders 80 = .ok (.ireturn, 1) := by decide +kernel
theorem dX7_orders_81 : decode cX7_orders 81 = .ok (.aload_n 0, 1) := by decide +kernel
theorem dX7_orders_82 : decode cX7_orders 82 = .ok (.getfield 50, 3) := by decide +kernel
theorem dX7_orders_85 : decode cX7_orders 85 = .ok (.aload_n 0, 1) := by decide +kernel
theorem dX7_orders_86 : decode cX7_orders 86 = .ok (.getfield 50, 3) := by decide +kernel
theorem dX7_orders_89 : decode cX7_orders 89 = .ok (.invokevirtual 176, 3) := by decide +kernel
theorem dX7_orders_92 : decode cX7_orders 92 = .ok (.invokevirtual 179, 3) := by decide +kernel
theorem dX7_orders_95 : decode cX7_orders 95 = .ok (.ireturn, 1) := by decide +kernel
theorem dX7_orders_96 : decode cX7_orders 96 = .ok (.aload_n 0, 1) := by decide +kernel
theorem dX7_orders_97 : decode cX7_orders 97 = .ok (.getfield 50, 3) := by decide +kernel
theorem dX7_orders_100 : decode cX7_orders 100 = .ok (.aload_n 0, 1) := by decide +kernel
theorem dX7_orders_101 : decode cX7_orders 101 = .ok (.getfield 50, 3) := by decide +kernel
theorem dX7_orders_104 : decode cX7_orders 104 = .ok (.invokevirtual 176, 3) := by decide +kernel
theorem dX7_orders_107 : decode cX7_orders 107 = .ok (.invokevirtual 173, 3) := by decide +kernel
theorem dX7_orders_110 : decode cX7_orders 110 = .ok (.ireturn, 1) := by decide +kernel
theorem dX7_orders_111 : decode cX7_orders 111 = .ok (.aload_n 0, 1) := by decide +kernel
theorem dX7_orders_112 : decode cX7_orders 112 = .ok (.getfield 50, 3) := by decide +kernel
theorem dX7_orders_115 : decode cX7_orders 115 = .ok (.aload_n 0, 1) := by decide +kernel
theorem dX7_orders_116 : decode cX7_orders 116 = .ok (.getfield 50, 3) := by decide +kernel
theorem dX7_orders_119 : decode cX7_orders 119 = .ok (.invokevirtual 176, 3) := by decide +kernel
theorem dX7_orders_122 : decode cX7_orders 122 = .ok (.invokevirtual 182, 3) := by decide +kernel
theorem dX7_orders_125 : decode cX7_orders 125 = .ok (.ireturn, 1) := by decide +kernel
theorem dX7_orders_126 : decode cX7_orders 126 = .ok (.aload_n 0, 1) := by decide +kernel
theorem dX7_orders_127 : decode cX7_orders 127 = .ok (.getfield 50, 3) := by decide +kernel
theorem dX7_orders_130 : decode cX7_orders 130 = .ok (.invokevirtual 185, 3) := by decide +kernel
theorem dX7_orders_133 : decode cX7_orders 133 = .ok (.ireturn, 1) := by decide +kernel
theorem dX7_orders_134 : decode cX7_orders 134 = .ok (.aload_n 0, 1) := by decide +kernel
theorem dX7_orders_135 : decode cX7_orders 135 = .ok (.getfield 50, 3) := by decide +kernel
theorem dX7_orders_138 : decode cX7_orders 138 = .ok (.invokevirtual 188, 3) := by decide +kernel
theorem dX7_orders_141 : decode cX7_orders 141 = .ok (.ireturn, 1) := by decide +kernel
theorem dX7_fewest_0 : decode cX7_fewest 0 = .ok (.iload_n 1, 1) := by decide +kernel
theorem dX7_fewest_1 : decode cX7_fewest 1 = .ok (.ifCond .ge 6, 3) := by decide +kernel
theorem dX7_fewest_4 : decode cX7_fewest 4 = .ok (.bipush (-2), 2) := by decide +kernel
theorem dX7_fewest_6 : decode cX7_fewest 6 = .ok (.ireturn, 1) := by decide +kernel
theorem dX7_fewest_7 : decode cX7_fewest 7 = .ok (.aload_n 0, 1) := by decide +kernel
theorem dX7_fewest_8 : decode cX7_fewest 8 = .ok (.getfield 50, 3) := by decide +kernel
theorem dX7_fewest_11 : decode cX7_fewest 11 = .ok (.aload_n 0, 1) := by decide +kernel
theorem dX7_fewest_12 : decode cX7_fewest 12 = .ok (.getfield 10, 3) := by decide +kernel
theorem dX7_fewest_15 : decode cX7_fewest 15 = .ok (.invokevirtual 166, 3) := by decide +kernel
theorem dX7_fewest_18 : decode cX7_fewest 18 = .ok (.aload_n 0, 1) := by decide +kernel
theorem dX7_fewest_19 : decode cX7_fewest 19 = .ok (.getfield 50, 3) := by decide +kernel
theorem dX7_fewest_22 : decode cX7_fewest 22 = .ok (.iload_n 1, 1) := by decide +kernel
theorem dX7_fewest_23 : decode cX7_fewest 23 = .ok (.invokevirtual 191, 3) := by decide +kernel
theorem dX7_fewest_26 : decode cX7_fewest 26 = .ok (.ireturn, 1) := by decide +kernel
theorem dX7_ahead_0 : decode cX7_ahead 0 = .ok (.aload_n 0, 1) := by decide +kernel
theorem dX7_ahead_1 : decode cX7_ahead 1 = .ok (.getfield 10, 3) := by decide +kernel
theorem dX7_ahead_4 : decode cX7_ahead 4 = .ok (.iload_n 1, 1) := by decide +kernel
theorem dX7_ahead_5 : decode cX7_ahead 5 = .ok (.invokevirtual 87, 3) := by decide +kernel
theorem dX7_ahead_8 : decode cX7_ahead 8 = .ok (.ifCond .eq 12, 3) := by decide +kernel
theorem dX7_ahead_11 : decode cX7_ahead 11 = .ok (.iload_n 2, 1) := by decide +kernel
theorem dX7_ahead_12 : decode cX7_ahead 12 = .ok (.ifCond .lt 8, 3) := by decide +kernel
theorem dX7_ahead_15 : decode cX7_ahead 15 = .ok (.iload_n 2, 1) := by decide +kernel
theorem dX7_ahead_16 : decode cX7_ahead 16 = .ok (.iconst 2, 1) := by decide +kernel
theorem dX7_ahead_17 : decode cX7_ahead 17 = .ok (.if_icmp .le 6, 3) := by decide +kernel
theorem dX7_ahead_20 : decode cX7_ahead 20 = .ok (.bipush (-2), 2) := by decide +kernel
theorem dX7_ahead_22 : decode cX7_ahead 22 = .ok (.ireturn, 1) := by decide +kernel
theorem dX7_ahead_23 : decode cX7_ahead 23 = .ok (.aload_n 0, 1) := by decide +kernel
theorem dX7_ahead_24 : decode cX7_ahead 24 = .ok (.getfield 10, 3) := by decide +kernel
theorem dX7_ahead_27 : decode cX7_ahead 27 = .ok (.iload_n 1, 1) := by decide +kernel
theorem dX7_ahead_28 : decode cX7_ahead 28 = .ok (.invokevirtual 115, 3) := by decide +kernel
theorem dX7_ahead_31 : decode cX7_ahead 31 = .ok (.iconst (-1), 1) := by decide +kernel
theorem dX7_ahead_32 : decode cX7_ahead 32 = .ok (.if_icmp .ne 5, 3) := by decide +kernel
theorem dX7_ahead_35 : decode cX7_ahead 35 = .ok (.iconst (-1), 1) := by decide +kernel
theorem dX7_ahead_36 : decode cX7_ahead 36 = .ok (.ireturn, 1) := by decide +kernel
theorem dX7_ahead_37 : decode cX7_ahead 37 = .ok (.aload_n 0, 1) := by decide +kernel
theorem dX7_ahead_38 : decode cX7_ahead 38 = .ok (.getfield 50, 3) := by decide +kernel
theorem dX7_ahead_41 : decode cX7_ahead 41 = .ok (.aload_n 0, 1) := by decide +kernel
theorem dX7_ahead_42 : decode cX7_ahead 42 = .ok (.getfield 10, 3) := by decide +kernel
theorem dX7_ahead_45 : decode cX7_ahead 45 = .ok (.invokevirtual 166, 3) := by decide +kernel
theorem dX7_ahead_48 : decode cX7_ahead 48 = .ok (.aload_n 0, 1) := by decide +kernel
theorem dX7_ahead_49 : decode cX7_ahead 49 = .ok (.getfield 50, 3) := by decide +kernel
theorem dX7_ahead_52 : decode cX7_ahead 52 = .ok (.iload_n 1, 1) := by decide +kernel
theorem dX7_ahead_53 : decode cX7_ahead 53 = .ok (.invokevirtual 194, 3) := by decide +kernel
theorem dX7_ahead_56 : decode cX7_ahead 56 = .ok (.istore_n 3, 1) := by decide +kernel
theorem dX7_ahead_57 : decode cX7_ahead 57 = .ok (.iload_n 2, 1) := by decide +kernel
theorem dX7_ahead_58 : decode cX7_ahead 58 = .ok (.ifCond .ne 5, 3) := by decide +kernel
theorem dX7_ahead_61 : decode cX7_ahead 61 = .ok (.iload_n 3, 1) := by decide +kernel
theorem dX7_ahead_62 : decode cX7_ahead 62 = .ok (.ireturn, 1) := by decide +kernel
theorem dX7_ahead_63 : decode cX7_ahead 63 = .ok (.iload_n 2, 1) := by decide +kernel
theorem dX7_ahead_64 : decode cX7_ahead 64 = .ok (.iconst 1, 1) := by decide +kernel
theorem dX7_ahead_65 : decode cX7_ahead 65 = .ok (.if_icmp .ne 15, 3) := by decide +kernel
theorem dX7_ahead_68 : decode cX7_ahead 68 = .ok (.aload_n 0, 1) := by decide +kernel
theorem dX7_ahead_69 : decode cX7_ahead 69 = .ok (.getfield 50, 3) := by decide +kernel
theorem dX7_ahead_72 : decode cX7_ahead 72 = .ok (.iload_n 1, 1) := by decide +kernel
theorem dX7_ahead_73 : decode cX7_ahead 73 = .ok (.iload_n 3, 1) := by decide +kernel
theorem dX7_ahead_74 : decode cX7_ahead 74 = .ok (.invokevirtual 197, 3) := by decide +kernel
theorem dX7_ahead_77 : decode cX7_ahead 77 = .ok (.goto 9, 3) := by decide +kernel
theorem dX7_ahead_80 : decode cX7_ahead 80 = .ok (.aload_n 0, 1) := by decide +kernel
theorem dX7_ahead_81 : decode cX7_ahead 81 = .ok (.iload_n 1, 1) := by decide +kernel
theorem dX7_ahead_82 : decode cX7_ahead 82 = .ok (.iload_n 3, 1) := by decide +kernel
theorem dX7_ahead_83 : decode cX7_ahead 83 = .ok (.invokevirtual 200, 3) := by decide +kernel
theorem dX7_ahead_86 : decode cX7_ahead 86 = .ok (.ireturn, 1) := by decide +kernel
theorem dX7_whomToBefriend_0 : decode cX7_whomToBefriend 0 = .ok (.iload_n 2, 1) := by decide +kernel
theorem dX7_whomToBefriend_1 : decode cX7_whomToBefriend 1 = .ok (.istore_n 3, 1) := by decide +kernel
theorem dX7_whomToBefriend_2 : decode cX7_whomToBefriend 2 = .ok (.iconst (-1), 1) := by decide +kernel
theorem dX7_whomToBefriend_3 : decode cX7_whomToBefriend 3 = .ok (.istore 4, 2) := by decide +kernel
theorem dX7_whomToBefriend_5 : decode cX7_whomToBefriend 5 = .ok (.iconst 0, 1) := by decide +kernel
theorem dX7_whomToBefriend_6 : decode cX7_whomToBefriend 6 = .ok (.istore 5, 2) := by decide +kernel
theorem dX7_whomToBefriend_8 : decode cX7_whomToBefriend 8 = .ok (.iload 5, 2) := by decide +kernel
theorem dX7_whomToBefriend_10 : decode cX7_whomToBefriend 10 = .ok (.iconst 5, 1) := by decide +kernel
theorem dX7_whomToBefriend_11 : decode cX7_whomToBefriend 11 = .ok (.if_icmp .ge 92, 3) := by decide +kernel
theorem dX7_whomToBefriend_14 : decode cX7_whomToBefriend 14 = .ok (.iload 5, 2) := by decide +kernel
theorem dX7_whomToBefriend_16 : decode cX7_whomToBefriend 16 = .ok (.iload_n 1, 1) := by decide +kernel
theorem dX7_whomToBefriend_17 : decode cX7_whomToBefriend 17 = .ok (.if_icmp .eq 80, 3) := by decide +kernel
theorem dX7_whomToBefriend_20 : decode cX7_whomToBefriend 20 = .ok (.aload_n 0, 1) := by decide +kernel
theorem dX7_whomToBefriend_21 : decode cX7_whomToBefriend 21 = .ok (.getfield 10, 3) := by decide +kernel
theorem dX7_whomToBefriend_24 : decode cX7_whomToBefriend 24 = .ok (.iload 5, 2) := by decide +kernel
theorem dX7_whomToBefriend_26 : decode cX7_whomToBefriend 26 = .ok (.invokevirtual 115, 3) := by decide +kernel
theorem dX7_whomToBefriend_29 : decode cX7_whomToBefriend 29 = .ok (.iconst (-1), 1) := by decide +kernel
theorem dX7_whomToBefriend_30 : decode cX7_whomToBefriend 30 = .ok (.if_icmp .ne 6, 3) := by decide +kernel
theorem dX7_whomToBefriend_33 : decode cX7_whomToBefriend 33 = .ok (.goto 64, 3) := by decide +kernel
theorem dX7_whomToBefriend_36 : decode cX7_whomToBefriend 36 = .ok (.aload_n 0, 1) := by decide +kernel
theorem dX7_whomToBefriend_37 : decode cX7_whomToBefriend 37 = .ok (.getfield 19, 3) := by decide +kernel
theorem dX7_whomToBefriend_40 : decode cX7_whomToBefriend 40 = .ok (.aload_n 0, 1) := by decide +kernel
theorem dX7_whomToBefriend_41 : decode cX7_whomToBefriend 41 = .ok (.getfield 10, 3) := by decide +kernel
theorem dX7_whomToBefriend_44 : decode cX7_whomToBefriend 44 = .ok (.invokevirtual 203, 3) := by decide +kernel
theorem dX7_whomToBefriend_47 : decode cX7_whomToBefriend 47 = .ok (.aload_n 0, 1) := by decide +kernel
theorem dX7_whomToBefriend_48 : decode cX7_whomToBefriend 48 = .ok (.getfield 19, 3) := by decide +kernel
theorem dX7_whomToBefriend_51 : decode cX7_whomToBefriend 51 = .ok (.getfield 206, 3) := by decide +kernel
theorem dX7_whomToBefriend_54 : decode cX7_whomToBefriend 54 = .ok (.iload 5, 2) := by decide +kernel
theorem dX7_whomToBefriend_56 : decode cX7_whomToBefriend 56 = .ok (.dup2, 1) := by decide +kernel
theorem dX7_whomToBefriend_57 : decode cX7_whomToBefriend 57 = .ok (.iaload, 1) := by decide +kernel
theorem dX7_whomToBefriend_58 : decode cX7_whomToBefriend 58 = .ok (.iconst 1, 1) := by decide +kernel
theorem dX7_whomToBefriend_59 : decode cX7_whomToBefriend 59 = .ok (.iload_n 1, 1) := by decide +kernel
theorem dX7_whomToBefriend_60 : decode cX7_whomToBefriend 60 = .ok (.ishl, 1) := by decide +kernel
theorem dX7_whomToBefriend_61 : decode cX7_whomToBefriend 61 = .ok (.ior, 1) := by decide +kernel
theorem dX7_whomToBefriend_62 : decode cX7_whomToBefriend 62 = .ok (.iastore, 1) := by decide +kernel
theorem dX7_whomToBefriend_63 : decode cX7_whomToBefriend 63 = .ok (.aload_n 0, 1) := by decide +kernel
theorem dX7_whomToBefriend_64 : decode cX7_whomToBefriend 64 = .ok (.getfield 50, 3) := by decide +kernel
theorem dX7_whomToBefriend_67 : decode cX7_whomToBefriend 67 = .ok (.aload_n 0, 1) := by decide +kernel
theorem dX7_whomToBefriend_68 : decode cX7_whomToBefriend 68 = .ok (.getfield 19, 3) := by decide +kernel
theorem dX7_whomToBefriend_71 : decode cX7_whomToBefriend 71 = .ok (.invokevirtual 166, 3) := by decide +kernel
theorem dX7_whomToBefriend_74 : decode cX7_whomToBefriend 74 = .ok (.aload_n 0, 1) := by decide +kernel
theorem dX7_whomToBefriend_75 : decode cX7_whomToBefriend 75 = .ok (.getfield 50, 3) := by decide +kernel
theorem dX7_whomToBefriend_78 : decode cX7_whomToBefriend 78 = .ok (.iload_n 1, 1) := by decide +kernel
theorem dX7_whomToBefriend_79 : decode cX7_whomToBefriend 79 = .ok (.invokevirtual 194, 3) := by decide +kernel
theorem dX7_whomToBefriend_82 : decode cX7_whomToBefriend 82 = .ok (.istore 6, 2) := by decide +kernel
theorem dX7_whomToBefriend_84 : decode cX7_whomToBefriend 84 = .ok (.iload 6, 2) := by decide +kernel
theorem dX7_whomToBefriend_86 : decode cX7_whomToBefriend 86 = .ok (.iload_n 3, 1) := by decide +kernel
theorem dX7_whomToBefriend_87 : decode cX7_whomToBefriend 87 = .ok (.if_icmp .ge 10, 3) := by decide +kernel
theorem dX7_whomToBefriend_90 : decode cX7_whomToBefriend 90 = .ok (.iload 6, 2) := by decide +kernel
theorem dX7_whomToBefriend_92 : decode cX7_whomToBefriend 92 = .ok (.istore_n 3, 1) := by decide +kernel
theorem dX7_whomToBefriend_93 : decode cX7_whomToBefriend 93 = .ok (.iload 5, 2) := by decide +kernel
theorem dX7_whomToBefriend_95 : decode cX7_whomToBefriend 95 = .ok (.istore 4, 2) := by decide +kernel
theorem dX7_whomToBefriend_97 : decode cX7_whomToBefriend 97 = .ok (.iinc 5 1, 3) := by decide +kernel
theorem dX7_whomToBefriend_100 : decode cX7_whomToBefriend 100 = .ok (.goto (-92), 3) := by decide +kernel
theorem dX7_whomToBefriend_103 : decode cX7_whomToBefriend 103 = .ok (.iload 4, 2) := by decide +kernel
theorem dX7_whomToBefriend_105 : decode cX7_whomToBefriend 105 = .ok (.ireturn, 1) := by decide +kernel
theorem dX7_run_0 : decode cX7_run 0 = .ok (.iload_n 1, 1) := by decide +kernel
theorem dX7_run_1 : decode cX7_run 1 = .ok (.ifCond .lt 32, 3) := by decide +kernel
theorem dX7_run_4 : decode cX7_run 4 = .ok (.iload_n 1, 1) := by decide +kernel
theorem dX7_run_5 : decode cX7_run 5 = .ok (.bipush 60, 2) := by decide +kernel
theorem dX7_run_7 : decode cX7_run 7 = .ok (.if_icmp .gt 26, 3) := by decide +kernel
theorem dX7_run_10 : decode cX7_run 10 = .ok (.iload_n 2, 1) := by decide +kernel
theorem dX7_run_11 : decode cX7_run 11 = .ok (.ifCond .eq 25, 3) := by decide +kernel
theorem dX7_run_14 : decode cX7_run 14 = .ok (.iload_n 2, 1) := by decide +kernel
theorem dX7_run_15 : decode cX7_run 15 = .ok (.iconst 1, 1) := by decide +kernel
theorem dX7_run_16 : decode cX7_run 16 = .ok (.if_icmp .eq 20, 3) := by decide +kernel
theorem dX7_run_19 : decode cX7_run 19 = .ok (.aload_n 0, 1) := by decide +kernel
theorem dX7_run_20 : decode cX7_run 20 = .ok (.getfield 10, 3) := by decide +kernel
theorem dX7_run_23 : decode cX7_run 23 = .ok (.iload_n 2, 1) := by decide +kernel
theorem dX7_run_24 : decode cX7_run 24 = .ok (.bipush 10, 2) := by decide +kernel
theorem dX7_run_26 : decode cX7_run 26 = .ok (.isub, 1) := by decide +kernel
theorem dX7_run_27 : decode cX7_run 27 = .ok (.invokevirtual 87, 3) := by decide +kernel
theorem dX7_run_30 : decode cX7_run 30 = .ok (.ifCond .ne 6, 3) := by decide +kernel
theorem dX7_run_33 : decode cX7_run 33 = .ok (.bipush (-2), 2) := by decide +kernel
theorem dX7_run_35 : decode cX7_run 35 = .ok (.ireturn, 1) := by decide +kernel
theorem dX7_run_36 : decode cX7_run 36 = .ok (.aload_n 0, 1) := by decide +kernel
theorem dX7_run_37 : decode cX7_run 37 = .ok (.getfield 19, 3) := by decide +kernel
theorem dX7_run_40 : decode cX7_run 40 = .ok (.aload_n 0, 1) := by decide +kernel
theorem dX7_run_41 : decode cX7_run 41 = .ok (.getfield 10, 3) := by decide +kernel
theorem dX7_run_44 : decode cX7_run 44 = .ok (.invokevirtual 203, 3) := by decide +kernel
theorem dX7_run_47 : decode cX7_run 47 = .ok (.iconst (-1), 1) := by decide +kernel
theorem dX7_run_48 : decode cX7_run 48 = .ok (.istore_n 3, 1) := by decide +kernel
theorem dX7_run_49 : decode cX7_run 49 = .ok (.iconst 0, 1) := by decide +kernel
theorem dX7_run_50 : decode cX7_run 50 = .ok (.istore 4, 2) := by decide +kernel
theorem dX7_run_52 : decode cX7_run 52 = .ok (.iload 4, 2) := by decide +kernel
theorem dX7_run_54 : decode cX7_run 54 = .ok (.iload_n 1, 1) := by decide +kernel
theorem dX7_run_55 : decode cX7_run 55 = .ok (.if_icmp .ge 30, 3) := by decide +kernel
theorem dX7_run_58 : decode cX7_run 58 = .ok (.aload_n 0, 1) := by decide +kernel
theorem dX7_run_59 : decode cX7_run 59 = .ok (.getfield 41, 3) := by decide +kernel
theorem dX7_run_62 : decode cX7_run 62 = .ok (.aload_n 0, 1) := by decide +kernel
theorem dX7_run_63 : decode cX7_run 63 = .ok (.getfield 19, 3) := by decide +kernel
theorem dX7_run_66 : decode cX7_run 66 = .ok (.invokevirtual 157, 3) := by decide +kernel
theorem dX7_run_69 : decode cX7_run 69 = .ok (.iload_n 2, 1) := by decide +kernel
theorem dX7_run_70 : decode cX7_run 70 = .ok (.bipush 10, 2) := by decide +kernel
theorem dX7_run_72 : decode cX7_run 72 = .ok (.isub, 1) := by decide +kernel
theorem dX7_run_73 : decode cX7_run 73 = .ok (.if_icmp .ne 6, 3) := by decide +kernel
theorem dX7_run_76 : decode cX7_run 76 = .ok (.iload 4, 2) := by decide +kernel
theorem dX7_run_78 : decode cX7_run 78 = .ok (.istore_n 3, 1) := by decide +kernel
theorem dX7_run_79 : decode cX7_run 79 = .ok (.iinc 4 1, 3) := by decide +kernel
theorem dX7_run_82 : decode cX7_run 82 = .ok (.goto (-30), 3) := by decide +kernel
theorem dX7_run_85 : decode cX7_run 85 = .ok (.iload_n 2, 1) := by decide +kernel
theorem dX7_run_86 : decode cX7_run 86 = .ok (.ifCond .ne 11, 3) := by decide +kernel
theorem dX7_run_89 : decode cX7_run 89 = .ok (.aload_n 0, 1) := by decide +kernel
theorem dX7_run_90 : decode cX7_run 90 = .ok (.getfield 19, 3) := by decide +kernel
theorem dX7_run_93 : decode cX7_run 93 = .ok (.getfield 209, 3) := by decide +kernel
theorem dX7_run_96 : decode cX7_run 96 = .ok (.ireturn, 1) := by decide +kernel
theorem dX7_run_97 : decode cX7_run 97 = .ok (.iload_n 2, 1) := by decide +kernel
theorem dX7_run_98 : decode cX7_run 98 = .ok (.iconst 1, 1) := by decide +kernel
theorem dX7_run_99 : decode cX7_run 99 = .ok (.if_icmp .ne 14, 3) := by decide +kernel
theorem dX7_run_102 : decode cX7_run 102 = .ok (.aload_n 0, 1) := by decide +kernel
theorem dX7_run_103 : decode cX7_run 103 = .ok (.getfield 19, 3) := by decide +kernel
theorem dX7_run_106 : decode cX7_run 106 = .ok (.iconst 0, 1) := by decide +kernel
theorem dX7_run_107 : decode cX7_run 107 = .ok (.invokevirtual 142, 3) := by decide +kernel
theorem dX7_run_110 : decode cX7_run 110 = .ok (.goto 4, 3) := by decide +kernel
theorem dX7_run_113 : decode cX7_run 113 = .ok (.iload_n 3, 1) := by decide +kernel
theorem dX7_run_114 : decode cX7_run 114 = .ok (.ireturn, 1) := by decide +kernel
theorem dX7_tells_0 : decode cX7_tells 0 = .ok (.aload_n 0, 1) := by decide +kernel
theorem dX7_tells_1 : decode cX7_tells 1 = .ok (.iload_n 1, 1) := by decide +kernel
theorem dX7_tells_2 : decode cX7_tells 2 = .ok (.invokevirtual 212, 3) := by decide +kernel
theorem dX7_tells_5 : decode cX7_tells 5 = .ok (.astore 4, 2) := by decide +kernel
theorem dX7_tells_7 : decode cX7_tells 7 = .ok (.aload 4, 2) := by decide +kernel
theorem dX7_tells_9 : decode cX7_tells 9 = .ok (.ifnull 23, 3) := by decide +kernel
theorem dX7_tells_12 : decode cX7_tells 12 = .ok (.aload_n 0, 1) := by decide +kernel
theorem dX7_tells_13 : decode cX7_tells 13 = .ok (.getfield 10, 3) := by decide +kernel
theorem dX7_tells_16 : decode cX7_tells 16 = .ok (.iload_n 2, 1) := by decide +kernel
theorem dX7_tells_17 : decode cX7_tells 17 = .ok (.invokevirtual 87, 3) := by decide +kernel
theorem dX7_tells_20 : decode cX7_tells 20 = .ok (.ifCond .eq 12, 3) := by decide +kernel
theorem dX7_tells_23 : decode cX7_tells 23 = .ok (.iload_n 3, 1) := by decide +kernel
theorem dX7_tells_24 : decode cX7_tells 24 = .ok (.ifCond .lt 8, 3) := by decide +kernel
theorem dX7_tells_27 : decode cX7_tells 27 = .ok (.iload_n 3, 1) := by decide +kernel
theorem dX7_tells_28 : decode cX7_tells 28 = .ok (.iconst 5, 1) := by decide +kernel
theorem dX7_tells_29 : decode cX7_tells 29 = .ok (.if_icmp .le 6, 3) := by decide +kernel
theorem dX7_tells_32 : decode cX7_tells 32 = .ok (.bipush (-2), 2) := by decide +kernel
theorem dX7_tells_34 : decode cX7_tells 34 = .ok (.ireturn, 1) := by decide +kernel
theorem dX7_tells_35 : decode cX7_tells 35 = .ok (.aload 4, 2) := by decide +kernel
theorem dX7_tells_37 : decode cX7_tells 37 = .ok (.invokevirtual 216, 3) := by decide +kernel
theorem dX7_tells_40 : decode cX7_tells 40 = .ok (.ifCond .eq 6, 3) := by decide +kernel
theorem dX7_tells_43 : decode cX7_tells 43 = .ok (.bipush (-11), 2) := by decide +kernel
theorem dX7_tells_45 : decode cX7_tells 45 = .ok (.ireturn, 1) := by decide +kernel
theorem dX7_tells_46 : decode cX7_tells 46 = .ok (.aload 4, 2) := by decide +kernel
theorem dX7_tells_48 : decode cX7_tells 48 = .ok (.getfield 219, 3) := by decide +kernel
theorem dX7_tells_51 : decode cX7_tells 51 = .ok (.bipush 30, 2) := by decide +kernel
theorem dX7_tells_53 : decode cX7_tells 53 = .ok (.if_icmp .le 6, 3) := by decide +kernel
theorem dX7_tells_56 : decode cX7_tells 56 = .ok (.bipush (-2), 2) := by decide +kernel
theorem dX7_tells_58 : decode cX7_tells 58 = .ok (.ireturn, 1) := by decide +kernel
theorem dX7_tells_59 : decode cX7_tells 59 = .ok (.iload_n 3, 1) := by decide +kernel
theorem dX7_tells_60 : decode cX7_tells 60 = .ok (.ifCond .ne 21, 3) := by decide +kernel
theorem dX7_tells_63 : decode cX7_tells 63 = .ok (.aload_n 0, 1) := by decide +kernel
theorem dX7_tells_64 : decode cX7_tells 64 = .ok (.getfield 19, 3) := by decide +kernel
theorem dX7_tells_67 : decode cX7_tells 67 = .ok (.aload_n 0, 1) := by decide +kernel
theorem dX7_tells_68 : decode cX7_tells 68 = .ok (.getfield 10, 3) := by decide +kernel
theorem dX7_tells_71 : decode cX7_tells 71 = .ok (.invokevirtual 203, 3) := by decide +kernel
theorem dX7_tells_74 : decode cX7_tells 74 = .ok (.aload_n 0, 1) := by decide +kernel
theorem dX7_tells_75 : decode cX7_tells 75 = .ok (.aload 4, 2) := by decide +kernel
theorem dX7_tells_77 : decode cX7_tells 77 = .ok (.invokevirtual 220, 3) := by decide +kernel
theorem dX7_tells_80 : decode cX7_tells 80 = .ok (.ireturn, 1) := by decide +kernel
theorem dX7_tells_81 : decode cX7_tells 81 = .ok (.aload_n 0, 1) := by decide +kernel
theorem dX7_tells_82 : decode cX7_tells 82 = .ok (.aload 4, 2) := by decide +kernel
theorem dX7_tells_84 : decode cX7_tells 84 = .ok (.iload_n 2, 1) := by decide +kernel
theorem dX7_tells_85 : decode cX7_tells 85 = .ok (.iload_n 3, 1) := by decide +kernel
theorem dX7_tells_86 : decode cX7_tells 86 = .ok (.invokevirtual 224, 3) := by decide +kernel
theorem dX7_tells_89 : decode cX7_tells 89 = .ok (.lstore 5, 2) := by decide +kernel
theorem dX7_tells_91 : decode cX7_tells 91 = .ok (.iload_n 3, 1) := by decide +kernel
theorem dX7_tells_92 : decode cX7_tells 92 = .ok (.iconst 3, 1) := by decide +kernel
theorem dX7_tells_93 : decode cX7_tells 93 = .ok (.if_icmp .ne 9, 3) := by decide +kernel
theorem dX7_tells_96 : decode cX7_tells 96 = .ok (.lload 5, 2) := by decide +kernel
theorem dX7_tells_98 : decode cX7_tells 98 = .ok (.invokestatic 228, 3) := by decide +kernel
theorem dX7_tells_101 : decode cX7_tells 101 = .ok (.ireturn, 1) := by decide +kernel
theorem dX7_tells_102 : decode cX7_tells 102 = .ok (.iload_n 3, 1) := by decide +kernel
theorem dX7_tells_103 : decode cX7_tells 103 = .ok (.iconst 4, 1) := by decide +kernel
theorem dX7_tells_104 : decode cX7_tells 104 = .ok (.if_icmp .ne 20, 3) := by decide +kernel
theorem dX7_tells_107 : decode cX7_tells 107 = .ok (.lload 5, 2) := by decide +kernel
theorem dX7_tells_109 : decode cX7_tells 109 = .ok (.lconst 0, 1) := by decide +kernel
theorem dX7_tells_110 : decode cX7_tells 110 = .ok (.lcmp, 1) := by decide +kernel
theorem dX7_tells_111 : decode cX7_tells 111 = .ok (.ifCond .ne 7, 3) := by decide +kernel
theorem dX7_tells_114 : decode cX7_tells 114 = .ok (.iconst (-1), 1) := by decide +kernel
theorem dX7_tells_115 : decode cX7_tells 115 = .ok (.goto 8, 3) := by decide +kernel
theorem dX7_tells_118 : decode cX7_tells 118 = .ok (.lload 5, 2) := by decide +kernel
theorem dX7_tells_120 : decode cX7_tells 120 = .ok (.invokestatic 234, 3) := by decide +kernel
theorem dX7_tells_123 : decode cX7_tells 123 = .ok (.ireturn, 1) := by decide +kernel
theorem dX7_tells_124 : decode cX7_tells 124 = .ok (.lload 5, 2) := by decide +kernel
theorem dX7_tells_126 : decode cX7_tells 126 = .ok (.l2i, 1) := by decide +kernel
theorem dX7_tells_127 : decode cX7_tells 127 = .ok (.ireturn, 1) := by decide +kernel
theorem dX7_fitting_0 : decode cX7_fitting 0 = .ok (.lconst 0, 1) := by decide +kernel
theorem dX7_fitting_1 : decode cX7_fitting 1 = .ok (.lstore 4, 2) := by decide +kernel
theorem dX7_fitting_3 : decode cX7_fitting 3 = .ok (.iconst 0, 1) := by decide +kernel
theorem dX7_fitting_4 : decode cX7_fitting 4 = .ok (.istore 6, 2) := by decide +kernel
theorem dX7_fitting_6 : decode cX7_fitting 6 = .ok (.iload 6, 2) := by decide +kernel
theorem dX7_fitting_8 : decode cX7_fitting 8 = .ok (.aload_n 0, 1) := by decide +kernel
theorem dX7_fitting_9 : decode cX7_fitting 9 = .ok (.iload_n 3, 1) := by decide +kernel
theorem dX7_fitting_10 : decode cX7_fitting 10 = .ok (.invokevirtual 237, 3) := by decide +kernel
theorem dX7_fitting_13 : decode cX7_fitting 13 = .ok (.if_icmp .ge 111, 3) := by decide +kernel
theorem dX7_fitting_16 : decode cX7_fitting 16 = .ok (.aload_n 0, 1) := by decide +kernel
theorem dX7_fitting_17 : decode cX7_fitting 17 = .ok (.getfield 19, 3) := by decide +kernel
theorem dX7_fitting_20 : decode cX7_fitting 20 = .ok (.aload_n 0, 1) := by decide +kernel
theorem dX7_fitting_21 : decode cX7_fitting 21 = .ok (.getfield 10, 3) := by decide +kernel
theorem dX7_fitting_24 : decode cX7_fitting 24 = .ok (.invokevirtual 203, 3) := by decide +kernel
theorem dX7_fitting_27 : decode cX7_fitting 27 = .ok (.iload_n 3, 1) := by decide +kernel
theorem dX7_fitting_28 : decode cX7_fitting 28 = .ok (.iconst 5, 1) := by decide +kernel
theorem dX7_fitting_29 : decode cX7_fitting 29 = .ok (.if_icmp .ne 15, 3) := by decide +kernel
theorem dX7_fitting_32 : decode cX7_fitting 32 = .ok (.aload_n 0, 1) := by decide +kernel
theorem dX7_fitting_33 : decode cX7_fitting 33 = .ok (.getfield 19, 3) := by decide +kernel
theorem dX7_fitting_36 : decode cX7_fitting 36 = .ok (.iload 6, 2) := by decide +kernel
theorem dX7_fitting_38 : decode cX7_fitting 38 = .ok (.putfield 139, 3) := by decide +kernel
theorem dX7_fitting_41 : decode cX7_fitting 41 = .ok (.goto 59, 3) := by decide +kernel
theorem dX7_fitting_44 : decode cX7_fitting 44 = .ok (.aload_n 0, 1) := by decide +kernel
theorem dX7_fitting_45 : decode cX7_fitting 45 = .ok (.getfield 19, 3) := by decide +kernel
theorem dX7_fitting_48 : decode cX7_fitting 48 = .ok (.iload_n 2, 1) := by decide +kernel
theorem dX7_fitting_49 : decode cX7_fitting 49 = .ok (.invokevirtual 87, 3) := by decide +kernel
theorem dX7_fitting_52 : decode cX7_fitting 52 = .ok (.ifCond .eq 48, 3) := by decide +kernel
theorem dX7_fitting_55 : decode cX7_fitting 55 = .ok (.iload_n 3, 1) := by decide +kernel
theorem dX7_fitting_56 : decode cX7_fitting 56 = .ok (.iconst 1, 1) := by decide +kernel
theorem dX7_fitting_57 : decode cX7_fitting 57 = .ok (.if_icmp .ne 13, 3) := by decide +kernel
theorem dX7_fitting_60 : decode cX7_fitting 60 = .ok (.aload_n 0, 1) := by decide +kernel
theorem dX7_fitting_61 : decode cX7_fitting 61 = .ok (.getfield 19, 3) := by decide +kernel
theorem dX7_fitting_64 : decode cX7_fitting 64 = .ok (.getfield 107, 3) := by decide +kernel
theorem dX7_fitting_67 : decode cX7_fitting 67 = .ok (.goto 25, 3) := by decide +kernel
theorem dX7_fitting_70 : decode cX7_fitting 70 = .ok (.iload_n 3, 1) := by decide +kernel
theorem dX7_fitting_71 : decode cX7_fitting 71 = .ok (.iconst 2, 1) := by decide +kernel
theorem dX7_fitting_72 : decode cX7_fitting 72 = .ok (.if_icmp .ne 13, 3) := by decide +kernel
theorem dX7_fitting_75 : decode cX7_fitting 75 = .ok (.aload_n 0, 1) := by decide +kernel
theorem dX7_fitting_76 : decode cX7_fitting 76 = .ok (.getfield 19, 3) := by decide +kernel
theorem dX7_fitting_79 : decode cX7_fitting 79 = .ok (.getfield 240, 3) := by decide +kernel
theorem dX7_fitting_82 : decode cX7_fitting 82 = .ok (.goto 10, 3) := by decide +kernel
theorem dX7_fitting_85 : decode cX7_fitting 85 = .ok (.aload_n 0, 1) := by decide +kernel
theorem dX7_fitting_86 : decode cX7_fitting 86 = .ok (.getfield 19, 3) := by decide +kernel
theorem dX7_fitting_89 : decode cX7_fitting 89 = .ok (.getfield 160, 3) := by decide +kernel
theorem dX7_fitting_92 : decode cX7_fitting 92 = .ok (.astore 7, 2) := by decide +kernel
theorem dX7_fitting_94 : decode cX7_fitting 94 = .ok (.aload 7, 2) := by decide +kernel
theorem dX7_fitting_96 : decode cX7_fitting 96 = .ok (.iload_n 2, 1) := by decide +kernel
theorem dX7_fitting_97 : decode cX7_fitting 97 = .ok (.iload 6, 2) := by decide +kernel
theorem dX7_fitting_99 : decode cX7_fitting 99 = .ok (.iastore, 1) := by decide +kernel
theorem dX7_fitting_100 : decode cX7_fitting 100 = .ok (.aload_n 0, 1) := by decide +kernel
theorem dX7_fitting_101 : decode cX7_fitting 101 = .ok (.aload_n 1, 1) := by decide +kernel
theorem dX7_fitting_102 : decode cX7_fitting 102 = .ok (.invokevirtual 220, 3) := by decide +kernel
theorem dX7_fitting_105 : decode cX7_fitting 105 = .ok (.iconst (-1), 1) := by decide +kernel
theorem dX7_fitting_106 : decode cX7_fitting 106 = .ok (.if_icmp .ne 12, 3) := by decide +kernel
theorem dX7_fitting_109 : decode cX7_fitting 109 = .ok (.lload 4, 2) := by decide +kernel
theorem dX7_fitting_111 : decode cX7_fitting 111 = .ok (.lconst 1, 1) := by decide +kernel
theorem dX7_fitting_112 : decode cX7_fitting 112 = .ok (.iload 6, 2) := by decide +kernel
theorem dX7_fitting_114 : decode cX7_fitting 114 = .ok (.lshl, 1) := by decide +kernel
theorem dX7_fitting_115 : decode cX7_fitting 115 = .ok (.lor, 1) := by decide +kernel
theorem dX7_fitting_116 : decode cX7_fitting 116 = .ok (.lstore 4, 2) := by decide +kernel
theorem dX7_fitting_118 : decode cX7_fitting 118 = .ok (.iinc 6 1, 3) := by decide +kernel
theorem dX7_fitting_121 : decode cX7_fitting 121 = .ok (.goto (-115), 3) := by decide +kernel
theorem dX7_fitting_124 : decode cX7_fitting 124 = .ok (.lload 4, 2) := by decide +kernel
theorem dX7_fitting_126 : decode cX7_fitting 126 = .ok (.lreturn, 1) := by decide +kernel
theorem dX7_howMany_0 : decode cX7_howMany 0 = .ok (.iload_n 1, 1) := by decide +kernel
theorem dX7_howMany_1 : decode cX7_howMany 1 = .ok (.tableswitch 49 1 5 #[35, 38, 49, 49, 41], 35) := by decide +kernel
theorem dX7_howMany_36 : decode cX7_howMany 36 = .ok (.bipush 6, 2) := by decide +kernel
theorem dX7_howMany_38 : decode cX7_howMany 38 = .ok (.ireturn, 1) := by decide +kernel
theorem dX7_howMany_39 : decode cX7_howMany 39 = .ok (.bipush 10, 2) := by decide +kernel
theorem dX7_howMany_41 : decode cX7_howMany 41 = .ok (.ireturn, 1) := by decide +kernel
theorem dX7_howMany_42 : decode cX7_howMany 42 = .ok (.aload_n 0, 1) := by decide +kernel
theorem dX7_howMany_43 : decode cX7_howMany 43 = .ok (.getfield 32, 3) := by decide +kernel
theorem dX7_howMany_46 : decode cX7_howMany 46 = .ok (.getfield 243, 3) := by decide +kernel
theorem dX7_howMany_49 : decode cX7_howMany 49 = .ok (.ireturn, 1) := by decide +kernel
theorem dX7_howMany_50 : decode cX7_howMany 50 = .ok (.bipush 41, 2) := by decide +kernel
theorem dX7_howMany_52 : decode cX7_howMany 52 = .ok (.ireturn, 1) := by decide +kernel
theorem dX7_firstOtherwise_0 : decode cX7_firstOtherwise 0 = .ok (.iconst 0, 1) := by decide +kernel
theorem dX7_firstOtherwise_1 : decode cX7_firstOtherwise 1 = .ok (.istore_n 2, 1) := by decide +kernel
theorem dX7_firstOtherwise_2 : decode cX7_firstOtherwise 2 = .ok (.iload_n 2, 1) := by decide +kernel
theorem dX7_firstOtherwise_3 : decode cX7_firstOtherwise 3 = .ok (.aload_n 1, 1) := by decide +kernel
theorem dX7_firstOtherwise_4 : decode cX7_firstOtherwise 4 = .ok (.getfield 219, 3) := by decide +kernel
theorem dX7_firstOtherwise_7 : decode cX7_firstOtherwise 7 = .ok (.if_icmp .ge 39, 3) := by decide +kernel
theorem dX7_firstOtherwise_10 : decode cX7_firstOtherwise 10 = .ok (.aload_n 0, 1) := by decide +kernel
theorem dX7_firstOtherwise_11 : decode cX7_firstOtherwise 11 = .ok (.getfield 41, 3) := by decide +kernel
theorem dX7_firstOtherwise_14 : decode cX7_firstOtherwise 14 = .ok (.aload_n 0, 1) := by decide +kernel
theorem dX7_firstOtherwise_15 : decode cX7_firstOtherwise 15 = .ok (.getfield 19, 3) := by decide +kernel
theorem dX7_firstOtherwise_18 : decode cX7_firstOtherwise 18 = .ok (.invokevirtual 157, 3) := by decide +kernel
theorem dX7_firstOtherwise_21 : decode cX7_firstOtherwise 21 = .ok (.pop, 1) := by decide +kernel
theorem dX7_firstOtherwise_22 : decode cX7_firstOtherwise 22 = .ok (.aload_n 1, 1) := by decide +kernel
theorem dX7_firstOtherwise_23 : decode cX7_firstOtherwise 23 = .ok (.iload_n 2, 1) := by decide +kernel
theorem dX7_firstOtherwise_24 : decode cX7_firstOtherwise 24 = .ok (.invokevirtual 244, 3) := by decide +kernel
theorem dX7_firstOtherwise_27 : decode cX7_firstOtherwise 27 = .ok (.aload_n 0, 1) := by decide +kernel
theorem dX7_firstOtherwise_28 : decode cX7_firstOtherwise 28 = .ok (.getfield 19, 3) := by decide +kernel
theorem dX7_firstOtherwise_31 : decode cX7_firstOtherwise 31 = .ok (.iconst 0, 1) := by decide +kernel
theorem dX7_firstOtherwise_32 : decode cX7_firstOtherwise 32 = .ok (.invokevirtual 142, 3) := by decide +kernel
theorem dX7_firstOtherwise_35 : decode cX7_firstOtherwise 35 = .ok (.if_icmp .eq 5, 3) := by decide +kernel
theorem dX7_firstOtherwise_38 : decode cX7_firstOtherwise 38 = .ok (.iload_n 2, 1) := by decide +kernel
theorem dX7_firstOtherwise_39 : decode cX7_firstOtherwise 39 = .ok (.ireturn, 1) := by decide +kernel
theorem dX7_firstOtherwise_40 : decode cX7_firstOtherwise 40 = .ok (.iinc 2 1, 3) := by decide +kernel
theorem dX7_firstOtherwise_43 : decode cX7_firstOtherwise 43 = .ok (.goto (-41), 3) := by decide +kernel
theorem dX7_firstOtherwise_46 : decode cX7_firstOtherwise 46 = .ok (.iconst (-1), 1) := by decide +kernel
theorem dX7_firstOtherwise_47 : decode cX7_firstOtherwise 47 = .ok (.ireturn, 1) := by decide +kernel
theorem dX7_film_0 : decode cX7_film 0 = .ok (.aload_n 0, 1) := by decide +kernel
theorem dX7_film_1 : decode cX7_film 1 = .ok (.iload_n 1, 1) := by decide +kernel
theorem dX7_film_2 : decode cX7_film 2 = .ok (.invokevirtual 212, 3) := by decide +kernel
theorem dX7_film_5 : decode cX7_film 5 = .ok (.astore_n 3, 1) := by decide +kernel
theorem dX7_film_6 : decode cX7_film 6 = .ok (.aload_n 3, 1) := by decide +kernel
theorem dX7_film_7 : decode cX7_film 7 = .ok (.ifnull 13, 3) := by decide +kernel
theorem dX7_film_10 : decode cX7_film 10 = .ok (.iload_n 2, 1) := by decide +kernel
theorem dX7_film_11 : decode cX7_film 11 = .ok (.ifCond .lt 9, 3) := by decide +kernel
theorem dX7_film_14 : decode cX7_film 14 = .ok (.iload_n 2, 1) := by decide +kernel
theorem dX7_film_15 : decode cX7_film 15 = .ok (.bipush 30, 2) := by decide +kernel
theorem dX7_film_17 : decode cX7_film 17 = .ok (.if_icmp .le 6, 3) := by decide +kernel
theorem dX7_film_20 : decode cX7_film 20 = .ok (.bipush (-2), 2) := by decide +kernel
theorem dX7_film_22 : decode cX7_film 22 = .ok (.ireturn, 1) := by decide +kernel
theorem dX7_film_23 : decode cX7_film 23 = .ok (.aload_n 0, 1) := by decide +kernel
theorem dX7_film_24 : decode cX7_film 24 = .ok (.getfield 19, 3) := by decide +kernel
theorem dX7_film_27 : decode cX7_film 27 = .ok (.aload_n 0, 1) := by decide +kernel
theorem dX7_film_28 : decode cX7_film 28 = .ok (.getfield 10, 3) := by decide +kernel
theorem dX7_film_31 : decode cX7_film 31 = .ok (.invokevirtual 203, 3) := by decide +kernel
theorem dX7_film_34 : decode cX7_film 34 = .ok (.aload_n 3, 1) := by decide +kernel
theorem dX7_film_35 : decode cX7_film 35 = .ok (.iconst 0, 1) := by decide +kernel
theorem dX7_film_36 : decode cX7_film 36 = .ok (.iload_n 2, 1) := by decide +kernel
theorem dX7_film_37 : decode cX7_film 37 = .ok (.invokevirtual 247, 3) := by decide +kernel
theorem dX7_film_40 : decode cX7_film 40 = .ok (.iconst 0, 1) := by decide +kernel
theorem dX7_film_41 : decode cX7_film 41 = .ok (.istore 4, 2) := by decide +kernel
theorem dX7_film_43 : decode cX7_film 43 = .ok (.iload 4, 2) := by decide +kernel
theorem dX7_film_45 : decode cX7_film 45 = .ok (.iload_n 2, 1) := by decide +kernel
theorem dX7_film_46 : decode cX7_film 46 = .ok (.if_icmp .ge 35, 3) := by decide +kernel
theorem dX7_film_49 : decode cX7_film 49 = .ok (.aload_n 0, 1) := by decide +kernel
theorem dX7_film_50 : decode cX7_film 50 = .ok (.getfield 41, 3) := by decide +kernel
theorem dX7_film_53 : decode cX7_film 53 = .ok (.aload_n 0, 1) := by decide +kernel
theorem dX7_film_54 : decode cX7_film 54 = .ok (.getfield 19, 3) := by decide +kernel
theorem dX7_film_57 : decode cX7_film 57 = .ok (.invokevirtual 157, 3) := by decide +kernel
theorem dX7_film_60 : decode cX7_film 60 = .ok (.pop, 1) := by decide +kernel
theorem dX7_film_61 : decode cX7_film 61 = .ok (.aload_n 3, 1) := by decide +kernel
theorem dX7_film_62 : decode cX7_film 62 = .ok (.iload 4, 2) := by decide +kernel
theorem dX7_film_64 : decode cX7_film 64 = .ok (.aload_n 0, 1) := by decide +kernel
theorem dX7_film_65 : decode cX7_film 65 = .ok (.getfield 19, 3) := by decide +kernel
theorem dX7_film_68 : decode cX7_film 68 = .ok (.iconst 0, 1) := by decide +kernel
theorem dX7_film_69 : decode cX7_film 69 = .ok (.invokevirtual 142, 3) := by decide +kernel
theorem dX7_film_72 : decode cX7_film 72 = .ok (.invokevirtual 250, 3) := by decide +kernel
theorem dX7_film_75 : decode cX7_film 75 = .ok (.iinc 4 1, 3) := by decide +kernel
theorem dX7_film_78 : decode cX7_film 78 = .ok (.goto (-35), 3) := by decide +kernel
theorem dX7_film_81 : decode cX7_film 81 = .ok (.iload_n 2, 1) := by decide +kernel
theorem dX7_film_82 : decode cX7_film 82 = .ok (.ireturn, 1) := by decide +kernel
theorem dX7_drawn_0 : decode cX7_drawn 0 = .ok (.aload_n 0, 1) := by decide +kernel
theorem dX7_drawn_1 : decode cX7_drawn 1 = .ok (.getfield 19, 3) := by decide +kernel
theorem dX7_drawn_4 : decode cX7_drawn 4 = .ok (.aload_n 0, 1) := by decide +kernel
theorem dX7_drawn_5 : decode cX7_drawn 5 = .ok (.getfield 10, 3) := by decide +kernel
theorem dX7_drawn_8 : decode cX7_drawn 8 = .ok (.invokevirtual 203, 3) := by decide +kernel
theorem dX7_drawn_11 : decode cX7_drawn 11 = .ok (.aload_n 0, 1) := by decide +kernel
theorem dX7_drawn_12 : decode cX7_drawn 12 = .ok (.getfield 19, 3) := by decide +kernel
theorem dX7_drawn_15 : decode cX7_drawn 15 = .ok (.iload_n 1, 1) := by decide +kernel
theorem dX7_drawn_16 : decode cX7_drawn 16 = .ok (.invokevirtual 252, 3) := by decide +kernel
theorem dX7_drawn_19 : decode cX7_drawn 19 = .ok (.aload_n 0, 1) := by decide +kernel
theorem dX7_drawn_20 : decode cX7_drawn 20 = .ok (.getfield 50, 3) := by decide +kernel
theorem dX7_drawn_23 : decode cX7_drawn 23 = .ok (.aload_n 0, 1) := by decide +kernel
theorem dX7_drawn_24 : decode cX7_drawn 24 = .ok (.getfield 19, 3) := by decide +kernel
theorem dX7_drawn_27 : decode cX7_drawn 27 = .ok (.invokevirtual 166, 3) := by decide +kernel
theorem dX7_drawn_30 : decode cX7_drawn 30 = .ok (.aload_n 0, 1) := by decide +kernel
theorem dX7_drawn_31 : decode cX7_drawn 31 = .ok (.getfield 50, 3) := by decide +kernel
theorem dX7_drawn_34 : decode cX7_drawn 34 = .ok (.getfield 170, 3) := by decide +kernel
theorem dX7_drawn_37 : decode cX7_drawn 37 = .ok (.ireturn, 1) := by decide +kernel
theorem dX7_chance_0 : decode cX7_chance 0 = .ok (.iload_n 2, 1) := by decide +kernel
theorem dX7_chance_1 : decode cX7_chance 1 = .ok (.iconst 1, 1) := by decide +kernel
theorem dX7_chance_2 : decode cX7_chance 2 = .ok (.if_icmp .lt 31, 3) := by decide +kernel
theorem dX7_chance_5 : decode cX7_chance 5 = .ok (.iload_n 2, 1) := by decide +kernel
theorem dX7_chance_6 : decode cX7_chance 6 = .ok (.bipush 10, 2) := by decide +kernel
theorem dX7_chance_8 : decode cX7_chance 8 = .ok (.if_icmp .gt 25, 3) := by decide +kernel
theorem dX7_chance_11 : decode cX7_chance 11 = .ok (.aload_n 0, 1) := by decide +kernel
theorem dX7_chance_12 : decode cX7_chance 12 = .ok (.getfield 10, 3) := by decide +kernel
theorem dX7_chance_15 : decode cX7_chance 15 = .ok (.iload_n 3, 1) := by decide +kernel
theorem dX7_chance_16 : decode cX7_chance 16 = .ok (.invokevirtual 87, 3) := by decide +kernel
theorem dX7_chance_19 : decode cX7_chance 19 = .ok (.ifCond .eq 14, 3) := by decide +kernel
theorem dX7_chance_22 : decode cX7_chance 22 = .ok (.iload 4, 2) := by decide +kernel
theorem dX7_chance_24 : decode cX7_chance 24 = .ok (.ifCond .lt 9, 3) := by decide +kernel
theorem dX7_chance_27 : decode cX7_chance 27 = .ok (.iload 4, 2) := by decide +kernel
theorem dX7_chance_29 : decode cX7_chance 29 = .ok (.iconst 1, 1) := by decide +kernel
theorem dX7_chance_30 : decode cX7_chance 30 = .ok (.if_icmp .le 7, 3) := by decide +kernel
theorem dX7_chance_33 : decode cX7_chance 33 = .ok (.ldc2_w 255, 3) := by decide +kernel
theorem dX7_chance_36 : decode cX7_chance 36 = .ok (.lreturn, 1) := by decide +kernel
theorem dX7_chance_37 : decode cX7_chance 37 = .ok (.iconst 0, 1) := by decide +kernel
theorem dX7_chance_38 : decode cX7_chance 38 = .ok (.istore 5, 2) := by decide +kernel
theorem dX7_chance_40 : decode cX7_chance 40 = .ok (.iconst 0, 1) := by decide +kernel
theorem dX7_chance_41 : decode cX7_chance 41 = .ok (.istore 6, 2) := by decide +kernel
theorem dX7_chance_43 : decode cX7_chance 43 = .ok (.iload 6, 2) := by decide +kernel
theorem dX7_chance_45 : decode cX7_chance 45 = .ok (.iload_n 2, 1) := by decide +kernel
theorem dX7_chance_46 : decode cX7_chance 46 = .ok (.if_icmp .ge 56, 3) := by decide +kernel
theorem dX7_chance_49 : decode cX7_chance 49 = .ok (.aload_n 0, 1) := by decide +kernel
theorem dX7_chance_50 : decode cX7_chance 50 = .ok (.getfield 19, 3) := by decide +kernel
theorem dX7_chance_53 : decode cX7_chance 53 = .ok (.aload_n 0, 1) := by decide +kernel
theorem dX7_chance_54 : decode cX7_chance 54 = .ok (.getfield 10, 3) := by decide +kernel
theorem dX7_chance_57 : decode cX7_chance 57 = .ok (.invokevirtual 203, 3) := by decide +kernel
theorem dX7_chance_60 : decode cX7_chance 60 = .ok (.aload_n 0, 1) := by decide +kernel
theorem dX7_chance_61 : decode cX7_chance 61 = .ok (.getfield 19, 3) := by decide +kernel
theorem dX7_chance_64 : decode cX7_chance 64 = .ok (.iload_n 1, 1) := by decide +kernel
theorem dX7_chance_65 : decode cX7_chance 65 = .ok (.iload 6, 2) := by decide +kernel
theorem dX7_chance_67 : decode cX7_chance 67 = .ok (.iadd, 1) := by decide +kernel
theorem dX7_chance_68 : decode cX7_chance 68 = .ok (.invokevirtual 252, 3) := by decide +kernel
theorem dX7_chance_71 : decode cX7_chance 71 = .ok (.aload_n 0, 1) := by decide +kernel
theorem dX7_chance_72 : decode cX7_chance 72 = .ok (.getfield 50, 3) := by decide +kernel
theorem dX7_chance_75 : decode cX7_chance 75 = .ok (.aload_n 0, 1) := by decide +kernel
theorem dX7_chance_76 : decode cX7_chance 76 = .ok (.getfield 19, 3) := by decide +kernel
theorem dX7_chance_79 : decode cX7_chance 79 = .ok (.invokevirtual 166, 3) := by decide +kernel
theorem dX7_chance_82 : decode cX7_chance 82 = .ok (.aload_n 0, 1) := by decide +kernel
theorem dX7_chance_83 : decode cX7_chance 83 = .ok (.getfield 50, 3) := by decide +kernel
theorem dX7_chance_86 : decode cX7_chance 86 = .ok (.iload_n 3, 1) := by decide +kernel
theorem dX7_chance_87 : decode cX7_chance 87 = .ok (.invokevirtual 194, 3) := by decide +kernel
theorem dX7_chance_90 : decode cX7_chance 90 = .ok (.ifCond .ne 6, 3) := by decide +kernel
theorem dX7_chance_93 : decode cX7_chance 93 = .ok (.iinc 5 1, 3) := by decide +kernel
theorem dX7_chance_96 : decode cX7_chance 96 = .ok (.iinc 6 1, 3) := by decide +kernel
theorem dX7_chance_99 : decode cX7_chance 99 = .ok (.goto (-56), 3) := by decide +kernel
theorem dX7_chance_102 : decode cX7_chance 102 = .ok (.iload 5, 2) := by decide +kernel
theorem dX7_chance_104 : decode cX7_chance 104 = .ok (.iload_n 2, 1) := by decide +kernel
theorem dX7_chance_105 : decode cX7_chance 105 = .ok (.invokestatic 257, 3) := by decide +kernel
theorem dX7_chance_108 : decode cX7_chance 108 = .ok (.istore 6, 2) := by decide +kernel
theorem dX7_chance_110 : decode cX7_chance 110 = .ok (.iload 4, 2) := by decide +kernel
theorem dX7_chance_112 : decode cX7_chance 112 = .ok (.ifCond .ne 8, 3) := by decide +kernel
theorem dX7_chance_115 : decode cX7_chance 115 = .ok (.iload 5, 2) := by decide +kernel
theorem dX7_chance_117 : decode cX7_chance 117 = .ok (.goto 4, 3) := by decide +kernel
theorem dX7_chance_120 : decode cX7_chance 120 = .ok (.iload_n 2, 1) := by decide +kernel
theorem dX7_chance_121 : decode cX7_chance 121 = .ok (.istore 7, 2) := by decide +kernel
theorem dX7_chance_123 : decode cX7_chance 123 = .ok (.iload 6, 2) := by decide +kernel
theorem dX7_chance_125 : decode cX7_chance 125 = .ok (.iconst 1, 1) := by decide +kernel
theorem dX7_chance_126 : decode cX7_chance 126 = .ok (.if_icmp .ge 9, 3) := by decide +kernel
theorem dX7_chance_129 : decode cX7_chance 129 = .ok (.iload 7, 2) := by decide +kernel
theorem dX7_chance_131 : decode cX7_chance 131 = .ok (.i2l, 1) := by decide +kernel
theorem dX7_chance_132 : decode cX7_chance 132 = .ok (.goto 9, 3) := by decide +kernel
theorem dX7_chance_135 : decode cX7_chance 135 = .ok (.iload 7, 2) := by decide +kernel
theorem dX7_chance_137 : decode cX7_chance 137 = .ok (.iload 6, 2) := by decide +kernel
theorem dX7_chance_139 : decode cX7_chance 139 = .ok (.idiv, 1) := by decide +kernel
theorem dX7_chance_140 : decode cX7_chance 140 = .ok (.i2l, 1) := by decide +kernel
theorem dX7_chance_141 : decode cX7_chance 141 = .ok (.lreturn, 1) := by decide +kernel
theorem dX7_commonPart_0 : decode cX7_commonPart 0 = .ok (.iload_n 1, 1) := by decide +kernel
theorem dX7_commonPart_1 : decode cX7_commonPart 1 = .ok (.istore_n 2, 1) := by decide +kernel
theorem dX7_commonPart_2 : decode cX7_commonPart 2 = .ok (.iload_n 2, 1) := by decide +kernel
theorem dX7_commonPart_3 : decode cX7_commonPart 3 = .ok (.iconst 1, 1) := by decide +kernel
theorem dX7_commonPart_4 : decode cX7_commonPart 4 = .ok (.if_icmp .le 23, 3) := by decide +kernel
theorem dX7_commonPart_7 : decode cX7_commonPart 7 = .ok (.iload_n 0, 1) := by decide +kernel
theorem dX7_commonPart_8 : decode cX7_commonPart 8 = .ok (.iload_n 2, 1) := by decide +kernel
theorem dX7_commonPart_9 : decode cX7_commonPart 9 = .ok (.irem, 1) := by decide +kernel
theorem dX7_commonPart_10 : decode cX7_commonPart 10 = .ok (.ifCond .ne 11, 3) := by decide +kernel
theorem dX7_commonPart_13 : decode cX7_commonPart 13 = .ok (.iload_n 1, 1) := by decide +kernel
theorem dX7_commonPart_14 : decode cX7_commonPart 14 = .ok (.iload_n 2, 1) := by decide +kernel
theorem dX7_commonPart_15 : decode cX7_commonPart 15 = .ok (.irem, 1) := by decide +kernel
theorem dX7_commonPart_16 : decode cX7_commonPart 16 = .ok (.ifCond .ne 5, 3) := by decide +kernel
theorem dX7_commonPart_19 : decode cX7_commonPart 19 = .ok (.iload_n 2, 1) := by decide +kernel
theorem dX7_commonPart_20 : decode cX7_commonPart 20 = .ok (.ireturn, 1) := by decide +kernel
theorem dX7_commonPart_21 : decode cX7_commonPart 21 = .ok (.iinc 2 (-1), 3) := by decide +kernel
theorem dX7_commonPart_24 : decode cX7_commonPart 24 = .ok (.goto (-22), 3) := by decide +kernel
theorem dX7_commonPart_27 : decode cX7_commonPart 27 = .ok (.iconst 1, 1) := by decide +kernel
theorem dX7_commonPart_28 : decode cX7_commonPart 28 = .ok (.ireturn, 1) := by decide +kernel
theorem dX7_image_0 : decode cX7_image 0 = .ok (.aload_n 0, 1) := by decide +kernel
theorem dX7_image_1 : decode cX7_image 1 = .ok (.getfield 16, 3) := by decide +kernel
theorem dX7_image_4 : decode cX7_image 4 = .ok (.aload_n 0, 1) := by decide +kernel
theorem dX7_image_5 : decode cX7_image 5 = .ok (.getfield 10, 3) := by decide +kernel
theorem dX7_image_8 : decode cX7_image 8 = .ok (.invokevirtual 203, 3) := by decide +kernel
theorem dX7_image_11 : decode cX7_image 11 = .ok (.aload_n 0, 1) := by decide +kernel
theorem dX7_image_12 : decode cX7_image 12 = .ok (.iconst 1, 1) := by decide +kernel
theorem dX7_image_13 : decode cX7_image 13 = .ok (.putfield 260, 3) := by decide +kernel
theorem dX7_image_16 : decode cX7_image 16 = .ok (.aload_n 0, 1) := by decide +kernel
theorem dX7_image_17 : decode cX7_image 17 = .ok (.getfield 10, 3) := by decide +kernel
theorem dX7_image_20 : decode cX7_image 20 = .ok (.getfield 264, 3) := by decide +kernel
theorem dX7_image_23 : decode cX7_image 23 = .ok (.ireturn, 1) := by decide +kernel
theorem dX7_back_0 : decode cX7_back 0 = .ok (.aload_n 0, 1) := by decide +kernel
theorem dX7_back_1 : decode cX7_back 1 = .ok (.getfield 260, 3) := by decide +kernel
theorem dX7_back_4 : decode cX7_back 4 = .ok (.ifCond .ne 6, 3) := by decide +kernel
theorem dX7_back_7 : decode cX7_back 7 = .ok (.bipush (-3), 2) := by decide +kernel
theorem dX7_back_9 : decode cX7_back 9 = .ok (.ireturn, 1) := by decide +kernel
theorem dX7_back_10 : decode cX7_back 10 = .ok (.aload_n 0, 1) := by decide +kernel
theorem dX7_back_11 : decode cX7_back 11 = .ok (.getfield 10, 3) := by decide +kernel
theorem dX7_back_14 : decode cX7_back 14 = .ok (.aload_n 0, 1) := by decide +kernel
theorem dX7_back_15 : decode cX7_back 15 = .ok (.getfield 16, 3) := by decide +kernel
theorem dX7_back_18 : decode cX7_back 18 = .ok (.invokevirtual 203, 3) := by decide +kernel
theorem dX7_back_21 : decode cX7_back 21 = .ok (.aload_n 0, 1) := by decide +kernel
theorem dX7_back_22 : decode cX7_back 22 = .ok (.getfield 10, 3) := by decide +kernel
theorem dX7_back_25 : decode cX7_back 25 = .ok (.getfield 264, 3) := by decide +kernel
theorem dX7_back_28 : decode cX7_back 28 = .ok (.ireturn, 1) := by decide +kernel
theorem dX7_count_0 : decode cX7_count 0 = .ok (.iload_n 1, 1) := by decide +kernel
theorem dX7_count_1 : decode cX7_count 1 = .ok (.tableswitch 87 0 5 #[39, 47, 55, 63, 71, 79], 39) := by decide +kernel
theorem dX7_count_40 : decode cX7_count 40 = .ok (.aload_n 0, 1) := by decide +kernel
theorem dX7_count_41 : decode cX7_count 41 = .ok (.getfield 10, 3) := by decide +kernel
theorem dX7_count_44 : decode cX7_count 44 = .ok (.getfield 264, 3) := by decide +kernel
theorem dX7_count_47 : decode cX7_count 47 = .ok (.ireturn, 1) := by decide +kernel
theorem dX7_count_48 : decode cX7_count 48 = .ok (.aload_n 0, 1) := by decide +kernel
theorem dX7_count_49 : decode cX7_count 49 = .ok (.getfield 10, 3) := by decide +kernel
theorem dX7_count_52 : decode cX7_count 52 = .ok (.getfield 209, 3) := by decide +kernel
theorem dX7_count_55 : decode cX7_count 55 = .ok (.ireturn, 1) := by decide +kernel
theorem dX7_count_56 : decode cX7_count 56 = .ok (.aload_n 0, 1) := by decide +kernel
theorem dX7_count_57 : decode cX7_count 57 = .ok (.getfield 10, 3) := by decide +kernel
theorem dX7_count_60 : decode cX7_count 60 = .ok (.getfield 95, 3) := by decide +kernel
theorem dX7_count_63 : decode cX7_count 63 = .ok (.ireturn, 1) := by decide +kernel
theorem dX7_count_64 : decode cX7_count 64 = .ok (.aload_n 0, 1) := by decide +kernel
theorem dX7_count_65 : decode cX7_count 65 = .ok (.getfield 32, 3) := by decide +kernel
theorem dX7_count_68 : decode cX7_count 68 = .ok (.getfield 243, 3) := by decide +kernel
theorem dX7_count_71 : decode cX7_count 71 = .ok (.ireturn, 1) := by decide +kernel
theorem dX7_count_72 : decode cX7_count 72 = .ok (.aload_n 0, 1) := by decide +kernel
theorem dX7_count_73 : decode cX7_count 73 = .ok (.getfield 25, 3) := by decide +kernel
theorem dX7_count_76 : decode cX7_count 76 = .ok (.getfield 131, 3) := by decide +kernel
theorem dX7_count_79 : decode cX7_count 79 = .ok (.ireturn, 1) := by decide +kernel
theorem dX7_count_80 : decode cX7_count 80 = .ok (.aload_n 0, 1) := by decide +kernel
theorem dX7_count_81 : decode cX7_count 81 = .ok (.getfield 10, 3) := by decide +kernel
theorem dX7_count_84 : decode cX7_count 84 = .ok (.getfield 139, 3) := by decide +kernel
theorem dX7_count_87 : decode cX7_count 87 = .ok (.ireturn, 1) := by decide +kernel
theorem dX7_count_88 : decode cX7_count 88 = .ok (.bipush (-2), 2) := by decide +kernel
theorem dX7_count_90 : decode cX7_count 90 = .ok (.ireturn, 1) := by decide +kernel
theorem dX7_sheetOf_0 : decode cX7_sheetOf 0 = .ok (.iload_n 1, 1) := by decide +kernel
theorem dX7_sheetOf_1 : decode cX7_sheetOf 1 = .ok (.ifCond .lt 8, 3) := by decide +kernel
theorem dX7_sheetOf_4 : decode cX7_sheetOf 4 = .ok (.iload_n 1, 1) := by decide +kernel
theorem dX7_sheetOf_5 : decode cX7_sheetOf 5 = .ok (.iconst 4, 1) := by decide +kernel
theorem dX7_sheetOf_6 : decode cX7_sheetOf 6 = .ok (.if_icmp .lt 7, 3) := by decide +kernel
theorem dX7_sheetOf_9 : decode cX7_sheetOf 9 = .ok (.aconst_null, 1) := by decide +kernel
theorem dX7_sheetOf_10 : decode cX7_sheetOf 10 = .ok (.goto 9, 3) := by decide +kernel
theorem dX7_sheetOf_13 : decode cX7_sheetOf 13 = .ok (.aload_n 0, 1) := by decide +kernel
theorem dX7_sheetOf_14 : decode cX7_sheetOf 14 = .ok (.getfield 56, 3) := by decide +kernel
theorem dX7_sheetOf_17 : decode cX7_sheetOf 17 = .ok (.iload_n 1, 1) := by decide +kernel
theorem dX7_sheetOf_18 : decode cX7_sheetOf 18 = .ok (.aaload, 1) := by decide +kernel
theorem dX7_sheetOf_19 : decode cX7_sheetOf 19 = .ok (.areturn, 1) := by decide +kernel
theorem dX7_sheet_0 : decode cX7_sheet 0 = .ok (.aload_n 0, 1) := by decide +kernel
theorem dX7_sheet_1 : decode cX7_sheet 1 = .ok (.iload_n 1, 1) := by decide +kernel
theorem dX7_sheet_2 : decode cX7_sheet 2 = .ok (.invokevirtual 212, 3) := by decide +kernel
theorem dX7_sheet_5 : decode cX7_sheet 5 = .ok (.astore 4, 2) := by decide +kernel
theorem dX7_sheet_7 : decode cX7_sheet 7 = .ok (.aload 4, 2) := by decide +kernel
theorem dX7_sheet_9 : decode cX7_sheet 9 = .ok (.ifnull 15, 3) := by decide +kernel
theorem dX7_sheet_12 : decode cX7_sheet 12 = .ok (.iload_n 2, 1) := by decide +kernel
theorem dX7_sheet_13 : decode cX7_sheet 13 = .ok (.iconst (-1), 1) := by decide +kernel
theorem dX7_sheet_14 : decode cX7_sheet 14 = .ok (.if_icmp .eq 13, 3) := by decide +kernel
theorem dX7_sheet_17 : decode cX7_sheet 17 = .ok (.iload_n 2, 1) := by decide +kernel
theorem dX7_sheet_18 : decode cX7_sheet 18 = .ok (.invokestatic 265, 3) := by decide +kernel
theorem dX7_sheet_21 : decode cX7_sheet 21 = .ok (.ifCond .ne 6, 3) := by decide +kernel
theorem dX7_sheet_24 : decode cX7_sheet 24 = .ok (.bipush (-2), 2) := by decide +kernel
theorem dX7_sheet_26 : decode cX7_sheet 26 = .ok (.ireturn, 1) := by decide +kernel
theorem dX7_sheet_27 : decode cX7_sheet 27 = .ok (.iload_n 2, 1) := by decide +kernel
theorem dX7_sheet_28 : decode cX7_sheet 28 = .ok (.iconst (-1), 1) := by decide +kernel
theorem dX7_sheet_29 : decode cX7_sheet 29 = .ok (.if_icmp .ne 12, 3) := by decide +kernel
theorem dX7_sheet_32 : decode cX7_sheet 32 = .ok (.aload 4, 2) := by decide +kernel
theorem dX7_sheet_34 : decode cX7_sheet 34 = .ok (.iload_n 2, 1) := by decide +kernel
theorem dX7_sheet_35 : decode cX7_sheet 35 = .ok (.iconst 0, 1) := by decide +kernel
theorem dX7_sheet_36 : decode cX7_sheet 36 = .ok (.invokevirtual 247, 3) := by decide +kernel
theorem dX7_sheet_39 : decode cX7_sheet 39 = .ok (.iconst 1, 1) := by decide +kernel
theorem dX7_sheet_40 : decode cX7_sheet 40 = .ok (.ireturn, 1) := by decide +kernel
theorem dX7_sheet_41 : decode cX7_sheet 41 = .ok (.iload_n 3, 1) := by decide +kernel
theorem dX7_sheet_42 : decode cX7_sheet 42 = .ok (.bipush 40, 2) := by decide +kernel
theorem dX7_sheet_44 : decode cX7_sheet 44 = .ok (.if_icmp .le 6, 3) := by decide +kernel
theorem dX7_sheet_47 : decode cX7_sheet 47 = .ok (.bipush (-2), 2) := by decide +kernel
theorem dX7_sheet_49 : decode cX7_sheet 49 = .ok (.ireturn, 1) := by decide +kernel
theorem dX7_sheet_50 : decode cX7_sheet 50 = .ok (.iload_n 3, 1) := by decide +kernel
theorem dX7_sheet_51 : decode cX7_sheet 51 = .ok (.ifCond .ge 6, 3) := by decide +kernel
theorem dX7_sheet_54 : decode cX7_sheet 54 = .ok (.bipush (-14), 2) := by decide +kernel
theorem dX7_sheet_56 : decode cX7_sheet 56 = .ok (.ireturn, 1) := by decide +kernel
theorem dX7_sheet_57 : decode cX7_sheet 57 = .ok (.aload 4, 2) := by decide +kernel
theorem dX7_sheet_59 : decode cX7_sheet 59 = .ok (.iload_n 2, 1) := by decide +kernel
theorem dX7_sheet_60 : decode cX7_sheet 60 = .ok (.iload_n 3, 1) := by decide +kernel
theorem dX7_sheet_61 : decode cX7_sheet 61 = .ok (.invokevirtual 247, 3) := by decide +kernel
theorem dX7_sheet_64 : decode cX7_sheet 64 = .ok (.iconst 1, 1) := by decide +kernel
theorem dX7_sheet_65 : decode cX7_sheet 65 = .ok (.ireturn, 1) := by decide +kernel
theorem dX7_cell_0 : decode cX7_cell 0 = .ok (.aload_n 0, 1) := by decide +kernel
theorem dX7_cell_1 : decode cX7_cell 1 = .ok (.iload_n 1, 1) := by decide +kernel
theorem dX7_cell_2 : decode cX7_cell 2 = .ok (.invokevirtual 212, 3) := by decide +kernel
theorem dX7_cell_5 : decode cX7_cell 5 = .ok (.astore 4, 2) := by decide +kernel
theorem dX7_cell_7 : decode cX7_cell 7 = .ok (.aload 4, 2) := by decide +kernel
theorem dX7_cell_9 : decode cX7_cell 9 = .ok (.ifnonnull 6, 3) := by decide +kernel
theorem dX7_cell_12 : decode cX7_cell 12 = .ok (.bipush (-2), 2) := by decide +kernel
theorem dX7_cell_14 : decode cX7_cell 14 = .ok (.ireturn, 1) := by decide +kernel
theorem dX7_cell_15 : decode cX7_cell 15 = .ok (.aload 4, 2) := by decide +kernel
theorem dX7_cell_17 : decode cX7_cell 17 = .ok (.invokevirtual 216, 3) := by decide +kernel
theorem dX7_cell_20 : decode cX7_cell 20 = .ok (.ifCond .eq 6, 3) := by decide +kernel
theorem dX7_cell_23 : decode cX7_cell 23 = .ok (.bipush (-11), 2) := by decide +kernel
theorem dX7_cell_25 : decode cX7_cell 25 = .ok (.ireturn, 1) := by decide +kernel
theorem dX7_cell_26 : decode cX7_cell 26 = .ok (.iload_n 2, 1) := by decide +kernel
theorem dX7_cell_27 : decode cX7_cell 27 = .ok (.ifCond .lt 12, 3) := by decide +kernel
theorem dX7_cell_30 : decode cX7_cell 30 = .ok (.iload_n 2, 1) := by decide +kernel
theorem dX7_cell_31 : decode cX7_cell 31 = .ok (.aload 4, 2) := by decide +kernel
theorem dX7_cell_33 : decode cX7_cell 33 = .ok (.getfield 219, 3) := by decide +kernel
theorem dX7_cell_36 : decode cX7_cell 36 = .ok (.if_icmp .lt 6, 3) := by decide +kernel
theorem dX7_cell_39 : decode cX7_cell 39 = .ok (.bipush (-12), 2) := by decide +kernel
theorem dX7_cell_41 : decode cX7_cell 41 = .ok (.ireturn, 1) := by decide +kernel
theorem dX7_cell_42 : decode cX7_cell 42 = .ok (.aload 4, 2) := by decide +kernel
theorem dX7_cell_44 : decode cX7_cell 44 = .ok (.iload_n 2, 1) := by decide +kernel
theorem dX7_cell_45 : decode cX7_cell 45 = .ok (.iload_n 3, 1) := by decide +kernel
theorem dX7_cell_46 : decode cX7_cell 46 = .ok (.invokevirtual 250, 3) := by decide +kernel
theorem dX7_cell_49 : decode cX7_cell 49 = .ok (.iconst 1, 1) := by decide +kernel
theorem dX7_cell_50 : decode cX7_cell 50 = .ok (.ireturn, 1) := by decide +kernel
theorem dX7_copy_0 : decode cX7_copy 0 = .ok (.aload_n 0, 1) := by decide +kernel
theorem dX7_copy_1 : decode cX7_copy 1 = .ok (.iload_n 1, 1) := by decide +kernel
theorem dX7_copy_2 : decode cX7_copy 2 = .ok (.invokevirtual 212, 3) := by decide +kernel
theorem dX7_copy_5 : decode cX7_copy 5 = .ok (.astore 6, 2) := by decide +kernel
theorem dX7_copy_7 : decode cX7_copy 7 = .ok (.aload_n 0, 1) := by decide +kernel
theorem dX7_copy_8 : decode cX7_copy 8 = .ok (.iload_n 3, 1) := by decide +kernel
theorem dX7_copy_9 : decode cX7_copy 9 = .ok (.invokevirtual 212, 3) := by decide +kernel
theorem dX7_copy_12 : decode cX7_copy 12 = .ok (.astore 7, 2) := by decide +kernel
theorem dX7_copy_14 : decode cX7_copy 14 = .ok (.aload 6, 2) := by decide +kernel
theorem dX7_copy_16 : decode cX7_copy 16 = .ok (.ifnull 8, 3) := by decide +kernel
theorem dX7_copy_19 : decode cX7_copy 19 = .ok (.aload 7, 2) := by decide +kernel
theorem dX7_copy_21 : decode cX7_copy 21 = .ok (.ifnonnull 6, 3) := by decide +kernel
theorem dX7_copy_24 : decode cX7_copy 24 = .ok (.bipush (-2), 2) := by decide +kernel
theorem dX7_copy_26 : decode cX7_copy 26 = .ok (.ireturn, 1) := by decide +kernel
theorem dX7_copy_27 : decode cX7_copy 27 = .ok (.aload 6, 2) := by decide +kernel
theorem dX7_copy_29 : decode cX7_copy 29 = .ok (.invokevirtual 216, 3) := by decide +kernel
theorem dX7_copy_32 : decode cX7_copy 32 = .ok (.ifCond .ne 11, 3) := by decide +kernel
theorem dX7_copy_35 : decode cX7_copy 35 = .ok (.aload 7, 2) := by decide +kernel
theorem dX7_copy_37 : decode cX7_copy 37 = .ok (.invokevirtual 216, 3) := by decide +kernel
theorem dX7_copy_40 : decode cX7_copy 40 = .ok (.ifCond .eq 6, 3) := by decide +kernel
theorem dX7_copy_43 : decode cX7_copy 43 = .ok (.bipush (-11), 2) := by decide +kernel
theorem dX7_copy_45 : decode cX7_copy 45 = .ok (.ireturn, 1) := by decide +kernel
theorem dX7_copy_46 : decode cX7_copy 46 = .ok (.aload 6, 2) := by decide +kernel
theorem dX7_copy_48 : decode cX7_copy 48 = .ok (.getfield 268, 3) := by decide +kernel
theorem dX7_copy_51 : decode cX7_copy 51 = .ok (.aload 7, 2) := by decide +kernel
theorem dX7_copy_53 : decode cX7_copy 53 = .ok (.getfield 268, 3) := by decide +kernel
theorem dX7_copy_56 : decode cX7_copy 56 = .ok (.if_icmp .eq 6, 3) := by decide +kernel
theorem dX7_copy_59 : decode cX7_copy 59 = .ok (.bipush (-13), 2) := by decide +kernel
theorem dX7_copy_61 : decode cX7_copy 61 = .ok (.ireturn, 1) := by decide +kernel
theorem dX7_copy_62 : decode cX7_copy 62 = .ok (.aload 6, 2) := by decide +kernel
theorem dX7_copy_64 : decode cX7_copy 64 = .ok (.iload_n 2, 1) := by decide +kernel
theorem dX7_copy_65 : decode cX7_copy 65 = .ok (.iload 5, 2) := by decide +kernel
theorem dX7_copy_67 : decode cX7_copy 67 = .ok (.invokevirtual 271, 3) := by decide +kernel
theorem dX7_copy_70 : decode cX7_copy 70 = .ok (.ifCond .eq 15, 3) := by decide +kernel
theorem dX7_copy_73 : decode cX7_copy 73 = .ok (.aload 7, 2) := by decide +kernel
theorem dX7_copy_75 : decode cX7_copy 75 = .ok (.iload 4, 2) := by decide +kernel
theorem dX7_copy_77 : decode cX7_copy 77 = .ok (.iload 5, 2) := by decide +kernel
theorem dX7_copy_79 : decode cX7_copy 79 = .ok (.invokevirtual 271, 3) := by decide +kernel
theorem dX7_copy_82 : decode cX7_copy 82 = .ok (.ifCond .ne 6, 3) := by decide +kernel
theorem dX7_copy_85 : decode cX7_copy 85 = .ok (.bipush (-12), 2) := by decide +kernel
theorem dX7_copy_87 : decode cX7_copy 87 = .ok (.ireturn, 1) := by decide +kernel
theorem dX7_copy_88 : decode cX7_copy 88 = .ok (.aload 6, 2) := by decide +kernel
theorem dX7_copy_90 : decode cX7_copy 90 = .ok (.iload_n 2, 1) := by decide +kernel
theorem dX7_copy_91 : decode cX7_copy 91 = .ok (.aload 7, 2) := by decide +kernel
theorem dX7_copy_93 : decode cX7_copy 93 = .ok (.iload 4, 2) := by decide +kernel
theorem dX7_copy_95 : decode cX7_copy 95 = .ok (.iload 5, 2) := by decide +kernel
theorem dX7_copy_97 : decode cX7_copy 97 = .ok (.invokevirtual 275, 3) := by decide +kernel
theorem dX7_copy_100 : decode cX7_copy 100 = .ok (.iload 5, 2) := by decide +kernel
theorem dX7_copy_102 : decode cX7_copy 102 = .ok (.ireturn, 1) := by decide +kernel
theorem dX7_people_0 : decode cX7_people 0 = .ok (.aload_n 0, 1) := by decide +kernel
theorem dX7_people_1 : decode cX7_people 1 = .ok (.iload_n 1, 1) := by decide +kernel
theorem dX7_people_2 : decode cX7_people 2 = .ok (.invokevirtual 212, 3) := by decide +kernel
theorem dX7_people_5 : decode cX7_people 5 = .ok (.astore 5, 2) := by decide +kernel
theorem dX7_people_7 : decode cX7_people 7 = .ok (.aload 5, 2) := by decide +kernel
theorem dX7_people_9 : decode cX7_people 9 = .ok (.ifnull 21, 3) := by decide +kernel
theorem dX7_people_12 : decode cX7_people 12 = .ok (.iload_n 2, 1) := by decide +kernel
theorem dX7_people_13 : decode cX7_people 13 = .ok (.invokestatic 265, 3) := by decide +kernel
theorem dX7_people_16 : decode cX7_people 16 = .ok (.ifCond .eq 14, 3) := by decide +kernel
theorem dX7_people_19 : decode cX7_people 19 = .ok (.iload 4, 2) := by decide +kernel
theorem dX7_people_21 : decode cX7_people 21 = .ok (.ifCond .lt 9, 3) := by decide +kernel
theorem dX7_people_24 : decode cX7_people 24 = .ok (.iload 4, 2) := by decide +kernel
theorem dX7_people_26 : decode cX7_people 26 = .ok (.iconst 5, 1) := by decide +kernel
theorem dX7_people_27 : decode cX7_people 27 = .ok (.if_icmp .le 6, 3) := by decide +kernel
theorem dX7_people_30 : decode cX7_people 30 = .ok (.bipush (-2), 2) := by decide +kernel
theorem dX7_people_32 : decode cX7_people 32 = .ok (.ireturn, 1) := by decide +kernel
theorem dX7_people_33 : decode cX7_people 33 = .ok (.aload 5, 2) := by decide +kernel
theorem dX7_people_35 : decode cX7_people 35 = .ok (.invokevirtual 216, 3) := by decide +kernel
theorem dX7_people_38 : decode cX7_people 38 = .ok (.ifCond .eq 6, 3) := by decide +kernel
theorem dX7_people_41 : decode cX7_people 41 = .ok (.bipush (-11), 2) := by decide +kernel
theorem dX7_people_43 : decode cX7_people 43 = .ok (.ireturn, 1) := by decide +kernel
theorem dX7_people_44 : decode cX7_people 44 = .ok (.aload 5, 2) := by decide +kernel
theorem dX7_people_46 : decode cX7_people 46 = .ok (.getfield 268, 3) := by decide +kernel
theorem dX7_people_49 : decode cX7_people 49 = .ok (.iload_n 2, 1) := by decide +kernel
theorem dX7_people_50 : decode cX7_people 50 = .ok (.if_icmp .eq 6, 3) := by decide +kernel
theorem dX7_people_53 : decode cX7_people 53 = .ok (.bipush (-13), 2) := by decide +kernel
theorem dX7_people_55 : decode cX7_people 55 = .ok (.ireturn, 1) := by decide +kernel
theorem dX7_people_56 : decode cX7_people 56 = .ok (.iconst 0, 1) := by decide +kernel
theorem dX7_people_57 : decode cX7_people 57 = .ok (.istore 6, 2) := by decide +kernel
theorem dX7_people_59 : decode cX7_people 59 = .ok (.iconst 0, 1) := by decide +kernel
theorem dX7_people_60 : decode cX7_people 60 = .ok (.istore 7, 2) := by decide +kernel
theorem dX7_people_62 : decode cX7_people 62 = .ok (.iload 7, 2) := by decide +kernel
theorem dX7_people_64 : decode cX7_people 64 = .ok (.iload 4, 2) := by decide +kernel
theorem dX7_people_66 : decode cX7_people 66 = .ok (.if_icmp .ge 57, 3) := by decide +kernel
theorem dX7_people_69 : decode cX7_people 69 = .ok (.iload_n 3, 1) := by decide +kernel
theorem dX7_people_70 : decode cX7_people 70 = .ok (.iconst 2, 1) := by decide +kernel
theorem dX7_people_71 : decode cX7_people 71 = .ok (.iload 7, 2) := by decide +kernel
theorem dX7_people_73 : decode cX7_people 73 = .ok (.imul, 1) := by decide +kernel
theorem dX7_people_74 : decode cX7_people 74 = .ok (.iadd, 1) := by decide +kernel
theorem dX7_people_75 : decode cX7_people 75 = .ok (.istore 8, 2) := by decide +kernel
theorem dX7_people_77 : decode cX7_people 77 = .ok (.aload 5, 2) := by decide +kernel
theorem dX7_people_79 : decode cX7_people 79 = .ok (.iload 8, 2) := by decide +kernel
theorem dX7_people_81 : decode cX7_people 81 = .ok (.iconst 2, 1) := by decide +kernel
theorem dX7_people_82 : decode cX7_people 82 = .ok (.invokevirtual 271, 3) := by decide +kernel
theorem dX7_people_85 : decode cX7_people 85 = .ok (.ifCond .ne 6, 3) := by decide +kernel
theorem dX7_people_88 : decode cX7_people 88 = .ok (.bipush (-12), 2) := by decide +kernel
theorem dX7_people_90 : decode cX7_people 90 = .ok (.ireturn, 1) := by decide +kernel
theorem dX7_people_91 : decode cX7_people 91 = .ok (.aload_n 0, 1) := by decide +kernel
theorem dX7_people_92 : decode cX7_people 92 = .ok (.aload 5, 2) := by decide +kernel
theorem dX7_people_94 : decode cX7_people 94 = .ok (.iload 8, 2) := by decide +kernel
theorem dX7_people_96 : decode cX7_people 96 = .ok (.invokevirtual 244, 3) := by decide +kernel
theorem dX7_people_99 : decode cX7_people 99 = .ok (.aload 5, 2) := by decide +kernel
theorem dX7_people_101 : decode cX7_people 101 = .ok (.iload 8, 2) := by decide +kernel
theorem dX7_people_103 : decode cX7_people 103 = .ok (.iconst 1, 1) := by decide +kernel
theorem dX7_people_104 : decode cX7_people 104 = .ok (.iadd, 1) := by decide +kernel
theorem dX7_people_105 : decode cX7_people 105 = .ok (.invokevirtual 244, 3) := by decide +kernel
theorem dX7_people_108 : decode cX7_people 108 = .ok (.invokevirtual 279, 3) := by decide +kernel
theorem dX7_people_111 : decode cX7_people 111 = .ok (.ifCond .lt 6, 3) := by decide +kernel
theorem dX7_people_114 : decode cX7_people 114 = .ok (.iinc 6 1, 3) := by decide +kernel
theorem dX7_people_117 : decode cX7_people 117 = .ok (.iinc 7 1, 3) := by decide +kernel
theorem dX7_people_120 : decode cX7_people 120 = .ok (.goto (-58), 3) := by decide +kernel
theorem dX7_people_123 : decode cX7_people 123 = .ok (.iload 6, 2) := by decide +kernel
theorem dX7_people_125 : decode cX7_people 125 = .ok (.ireturn, 1) := by decide +kernel
theorem dX7_taken_0 : decode cX7_taken 0 = .ok (.iload_n 2, 1) := by decide +kernel
theorem dX7_taken_1 : decode cX7_taken 1 = .ok (.ifCond .lt 9, 3) := by decide +kernel
theorem dX7_taken_4 : decode cX7_taken 4 = .ok (.iload_n 2, 1) := by decide +kernel
theorem dX7_taken_5 : decode cX7_taken 5 = .ok (.bipush 6, 2) := by decide +kernel
theorem dX7_taken_7 : decode cX7_taken 7 = .ok (.if_icmp .lt 6, 3) := by decide +kernel
theorem dX7_taken_10 : decode cX7_taken 10 = .ok (.bipush (-2), 2) := by decide +kernel
theorem dX7_taken_12 : decode cX7_taken 12 = .ok (.ireturn, 1) := by decide +kernel
theorem dX7_taken_13 : decode cX7_taken 13 = .ok (.aload_n 0, 1) := by decide +kernel
theorem dX7_taken_14 : decode cX7_taken 14 = .ok (.getfield 10, 3) := by decide +kernel
theorem dX7_taken_17 : decode cX7_taken 17 = .ok (.iload_n 1, 1) := by decide +kernel
theorem dX7_taken_18 : decode cX7_taken 18 = .ok (.invokevirtual 87, 3) := by decide +kernel
theorem dX7_taken_21 : decode cX7_taken 21 = .ok (.ifCond .ne 6, 3) := by decide +kernel
theorem dX7_taken_24 : decode cX7_taken 24 = .ok (.bipush (-11), 2) := by decide +kernel
theorem dX7_taken_26 : decode cX7_taken 26 = .ok (.ireturn, 1) := by decide +kernel
theorem dX7_taken_27 : decode cX7_taken 27 = .ok (.aload_n 0, 1) := by decide +kernel
theorem dX7_taken_28 : decode cX7_taken 28 = .ok (.getfield 10, 3) := by decide +kernel
theorem dX7_taken_31 : decode cX7_taken 31 = .ok (.aload_n 0, 1) := by decide +kernel
theorem dX7_taken_32 : decode cX7_taken 32 = .ok (.getfield 10, 3) := by decide +kernel
theorem dX7_taken_35 : decode cX7_taken 35 = .ok (.getfield 107, 3) := by decide +kernel
theorem dX7_taken_38 : decode cX7_taken 38 = .ok (.iload_n 1, 1) := by decide +kernel
theorem dX7_taken_39 : decode cX7_taken 39 = .ok (.invokevirtual 111, 3) := by decide +kernel
theorem dX7_taken_42 : decode cX7_taken 42 = .ok (.iload_n 2, 1) := by decide +kernel
theorem dX7_taken_43 : decode cX7_taken 43 = .ok (.invokestatic 282, 3) := by decide +kernel
theorem dX7_taken_46 : decode cX7_taken 46 = .ok (.ifCond .eq 21, 3) := by decide +kernel
theorem dX7_taken_49 : decode cX7_taken 49 = .ok (.aload_n 0, 1) := by decide +kernel
theorem dX7_taken_50 : decode cX7_taken 50 = .ok (.getfield 10, 3) := by decide +kernel
theorem dX7_taken_53 : decode cX7_taken 53 = .ok (.aload_n 0, 1) := by decide +kernel
theorem dX7_taken_54 : decode cX7_taken 54 = .ok (.getfield 10, 3) := by decide +kernel
theorem dX7_taken_57 : decode cX7_taken 57 = .ok (.getfield 240, 3) := by decide +kernel
theorem dX7_taken_60 : decode cX7_taken 60 = .ok (.iload_n 1, 1) := by decide +kernel
theorem dX7_taken_61 : decode cX7_taken 61 = .ok (.invokevirtual 111, 3) := by decide +kernel
theorem dX7_taken_64 : decode cX7_taken 64 = .ok (.goto 5, 3) := by decide +kernel
theorem dX7_taken_67 : decode cX7_taken 67 = .ok (.bipush (-13), 2) := by decide +kernel
theorem dX7_taken_69 : decode cX7_taken 69 = .ok (.ireturn, 1) := by decide +kernel
theorem dX8_in_0 : decode cX8_in 0 = .ok (.lload_n 0, 1) := by decide +kernel
theorem dX8_in_1 : decode cX8_in 1 = .ok (.lload_n 2, 1) := by decide +kernel
theorem dX8_in_2 : decode cX8_in 2 = .ok (.lcmp, 1) := by decide +kernel
theorem dX8_in_3 : decode cX8_in 3 = .ok (.ifCond .lt 14, 3) := by decide +kernel
theorem dX8_in_6 : decode cX8_in 6 = .ok (.lload_n 0, 1) := by decide +kernel
theorem dX8_in_7 : decode cX8_in 7 = .ok (.lload 4, 2) := by decide +kernel
theorem dX8_in_9 : decode cX8_in 9 = .ok (.lcmp, 1) := by decide +kernel
theorem dX8_in_10 : decode cX8_in 10 = .ok (.ifCond .gt 7, 3) := by decide +kernel
theorem dX8_in_13 : decode cX8_in 13 = .ok (.iconst 1, 1) := by decide +kernel
theorem dX8_in_14 : decode cX8_in 14 = .ok (.goto 4, 3) := by decide +kernel
theorem dX8_in_17 : decode cX8_in 17 = .ok (.iconst 0, 1) := by decide +kernel
theorem dX8_in_18 : decode cX8_in 18 = .ok (.ireturn, 1) := by decide +kernel
theorem dX8_within_0 : decode cX8_within 0 = .ok (.iload_n 0, 1) := by decide +kernel
theorem dX8_within_1 : decode cX8_within 1 = .ok (.iload_n 1, 1) := by decide +kernel
theorem dX8_within_2 : decode cX8_within 2 = .ok (.if_icmp .ge 7, 3) := by decide +kernel
theorem dX8_within_5 : decode cX8_within 5 = .ok (.iload_n 1, 1) := by decide +kernel
theorem dX8_within_6 : decode cX8_within 6 = .ok (.goto 13, 3) := by decide +kernel
theorem dX8_within_9 : decode cX8_within 9 = .ok (.iload_n 0, 1) := by decide +kernel
theorem dX8_within_10 : decode cX8_within 10 = .ok (.iload_n 2, 1) := by decide +kernel
theorem dX8_within_11 : decode cX8_within 11 = .ok (.if_icmp .le 7, 3) := by decide +kernel
theorem dX8_within_14 : decode cX8_within 14 = .ok (.iload_n 2, 1) := by decide +kernel
theorem dX8_within_15 : decode cX8_within 15 = .ok (.goto 4, 3) := by decide +kernel
theorem dX8_within_18 : decode cX8_within 18 = .ok (.iload_n 0, 1) := by decide +kernel
theorem dX8_within_19 : decode cX8_within 19 = .ok (.ireturn, 1) := by decide +kernel
theorem dX8_init_0 : decode cX8_init 0 = .ok (.aload_n 0, 1) := by decide +kernel
theorem dX8_init_1 : decode cX8_init 1 = .ok (.invokespecial 7, 3) := by decide +kernel
theorem dX8_init_4 : decode cX8_init 4 = .ok (.aload_n 0, 1) := by decide +kernel
theorem dX8_init_5 : decode cX8_init 5 = .ok (.sipush 960, 3) := by decide +kernel
theorem dX8_init_8 : decode cX8_init 8 = .ok (.newarray .int, 2) := by decide +kernel
theorem dX8_init_10 : decode cX8_init 10 = .ok (.putfield 13, 3) := by decide +kernel
theorem dX8_init_13 : decode cX8_init 13 = .ok (.aload_n 0, 1) := by decide +kernel
theorem dX8_init_14 : decode cX8_init 14 = .ok (.bipush 6, 2) := by decide +kernel
theorem dX8_init_16 : decode cX8_init 16 = .ok (.newarray .int, 2) := by decide +kernel
theorem dX8_init_18 : decode cX8_init 18 = .ok (.putfield 17, 3) := by decide +kernel
theorem dX8_init_21 : decode cX8_init 21 = .ok (.aload_n 0, 1) := by decide +kernel
theorem dX8_init_22 : decode cX8_init 22 = .ok (.sipush 160, 3) := by decide +kernel
theorem dX8_init_25 : decode cX8_init 25 = .ok (.newarray .int, 2) := by decide +kernel
theorem dX8_init_27 : decode cX8_init 27 = .ok (.putfield 20, 3) := by decide +kernel
theorem dX8_init_30 : decode cX8_init 30 = .ok (.aload_n 0, 1) := by decide +kernel
theorem dX8_init_31 : decode cX8_init 31 = .ok (.iconst 5, 1) := by decide +kernel
theorem dX8_init_32 : decode cX8_init 32 = .ok (.newarray .int, 2) := by decide +kernel
theorem dX8_init_34 : decode cX8_init 34 = .ok (.putfield 23, 3) := by decide +kernel
theorem dX8_init_37 : decode cX8_init 37 = .ok (.aload_n 0, 1) := by decide +kernel
theorem dX8_init_38 : decode cX8_init 38 = .ok (.bipush 20, 2) := by decide +kernel
theorem dX8_init_40 : decode cX8_init 40 = .ok (.newarray .int, 2) := by decide +kernel
theorem dX8_init_42 : decode cX8_init 42 = .ok (.putfield 26, 3) := by decide +kernel
theorem dX8_init_45 : decode cX8_init 45 = .ok (.aload_n 0, 1) := by decide +kernel
theorem dX8_init_46 : decode cX8_init 46 = .ok (.iconst 5, 1) := by decide +kernel
theorem dX8_init_47 : decode cX8_init 47 = .ok (.newarray .int, 2) := by decide +kernel
theorem dX8_init_49 : decode cX8_init 49 = .ok (.putfield 29, 3) := by decide +kernel
theorem dX8_init_52 : decode cX8_init 52 = .ok (.aload_n 0, 1) := by decide +kernel
theorem dX8_init_53 : decode cX8_init 53 = .ok (.bipush 120, 2) := by decide +kernel
theorem dX8_init_55 : decode cX8_init 55 = .ok (.newarray .int, 2) := by decide +kernel
theorem dX8_init_57 : decode cX8_init 57 = .ok (.putfield 32, 3) := by decide +kernel
theorem dX8_init_60 : decode cX8_init 60 = .ok (.aload_n 0, 1) := by decide +kernel
theorem dX8_init_61 : decode cX8_init 61 = .ok (.bipush 120, 2) := by decide +kernel
theorem dX8_init_63 : decode cX8_init 63 = .ok (.newarray .int, 2) := by decide +kernel
theorem dX8_init_65 : decode cX8_init 65 = .ok (.putfield 35, 3) := by decide +kernel
theorem dX8_init_68 : decode cX8_init 68 = .ok (.aload_n 0, 1) := by decide +kernel
theorem dX8_init_69 : decode cX8_init 69 = .ok (.bipush 25, 2) := by decide +kernel
theorem dX8_init_71 : decode cX8_init 71 = .ok (.newarray .boolean, 2) := by decide +kernel
theorem dX8_init_73 : decode cX8_init 73 = .ok (.putfield 38, 3) := by decide +kernel
theorem dX8_init_76 : decode cX8_init 76 = .ok (.aload_n 0, 1) := by decide +kernel
theorem dX8_init_77 : decode cX8_init 77 = .ok (.iconst 5, 1) := by decide +kernel
theorem dX8_init_78 : decode cX8_init 78 = .ok (.newarray .int, 2) := by decide +kernel
theorem dX8_init_80 : decode cX8_init 80 = .ok (.putfield 42, 3) := by decide +kernel
theorem dX8_init_83 : decode cX8_init 83 = .ok (.aload_n 0, 1) := by decide +kernel
theorem dX8_init_84 : decode cX8_init 84 = .ok (.iconst 5, 1) := by decide +kernel
theorem dX8_init_85 : decode cX8_init 85 = .ok (.newarray .int, 2) := by decide +kernel
theorem dX8_init_87 : decode cX8_init 87 = .ok (.putfield 45, 3) := by decide +kernel
theorem dX8_init_90 : decode cX8_init 90 = .ok (.aload_n 0, 1) := by decide +kernel
theorem dX8_init_91 : decode cX8_init 91 = .ok (.iconst 5, 1) := by decide +kernel
theorem dX8_init_92 : decode cX8_init 92 = .ok (.newarray .int, 2) := by decide +kernel
theorem dX8_init_94 : decode cX8_init 94 = .ok (.putfield 48, 3) := by decide +kernel
theorem dX8_init_97 : decode cX8_init 97 = .ok (.aload_n 0, 1) := by decide +kernel
theorem dX8_init_98 : decode cX8_init 98 = .ok (.iconst 5, 1) := by decide +kernel
theorem dX8_init_99 : decode cX8_init 99 = .ok (.newarray .int, 2) := by decide +kernel
theorem dX8_init_101 : decode cX8_init 101 = .ok (.putfield 51, 3) := by decide +kernel
theorem dX8_init_104 : decode cX8_init 104 = .ok (.aload_n 0, 1) := by decide +kernel
theorem dX8_init_105 : decode cX8_init 105 = .ok (.bipush 20, 2) := by decide +kernel
theorem dX8_init_107 : decode cX8_init 107 = .ok (.newarray .int, 2) := by decide +kernel
theorem dX8_init_109 : decode cX8_init 109 = .ok (.putfield 54, 3) := by decide +kernel
theorem dX8_init_112 : decode cX8_init 112 = .ok (.aload_n 0, 1) := by decide +kernel
theorem dX8_init_113 : decode cX8_init 113 = .ok (.iconst 5, 1) := by decide +kernel
theorem dX8_init_114 : decode cX8_init 114 = .ok (.newarray .int, 2) := by decide +kernel
theorem dX8_init_116 : decode cX8_init 116 = .ok (.putfield 57, 3) := by decide +kernel
theorem dX8_init_119 : decode cX8_init 119 = .ok (.aload_n 0, 1) := by decide +kernel
theorem dX8_init_120 : decode cX8_init 120 = .ok (.iconst 5, 1) := by decide +kernel
theorem dX8_init_121 : decode cX8_init 121 = .ok (.newarray .int, 2) := by decide +kernel
theorem dX8_init_123 : decode cX8_init 123 = .ok (.putfield 60, 3) := by decide +kernel
theorem dX8_init_126 : decode cX8_init 126 = .ok (.aload_n 0, 1) := by decide +kernel
theorem dX8_init_127 : decode cX8_init 127 = .ok (.bipush 20, 2) := by decide +kernel
theorem dX8_init_129 : decode cX8_init 129 = .ok (.newarray .int, 2) := by decide +kernel
theorem dX8_init_131 : decode cX8_init 131 = .ok (.putfield 63, 3) := by decide +kernel
theorem dX8_init_134 : decode cX8_init 134 = .ok (.aload_n 0, 1) := by decide +kernel
theorem dX8_init_135 : decode cX8_init 135 = .ok (.iconst (-1), 1) := by decide +kernel
theorem dX8_init_136 : decode cX8_init 136 = .ok (.putfield 66, 3) := by decide +kernel
theorem dX8_init_139 : decode cX8_init 139 = .ok (.aload_n 0, 1) := by decide +kernel
theorem dX8_init_140 : decode cX8_init 140 = .ok (.iconst 4, 1) := by decide +kernel
theorem dX8_init_141 : decode cX8_init 141 = .ok (.newarray .boolean, 2) := by decide +kernel
theorem dX8_init_143 : decode cX8_init 143 = .ok (.putfield 69, 3) := by decide +kernel
theorem dX8_init_146 : decode cX8_init 146 = .ok (.aload_n 0, 1) := by decide +kernel
theorem dX8_init_147 : decode cX8_init 147 = .ok (.iconst 4, 1) := by decide +kernel
theorem dX8_init_148 : decode cX8_init 148 = .ok (.newarray .int, 2) := by decide +kernel
theorem dX8_init_150 : decode cX8_init 150 = .ok (.putfield 72, 3) := by decide +kernel
theorem dX8_init_153 : decode cX8_init 153 = .ok (.aload_n 0, 1) := by decide +kernel
theorem dX8_init_154 : decode cX8_init 154 = .ok (.iconst 4, 1) := by decide +kernel
theorem dX8_init_155 : decode cX8_init 155 = .ok (.newarray .int, 2) := by decide +kernel
theorem dX8_init_157 : decode cX8_init 157 = .ok (.putfield 75, 3) := by decide +kernel
theorem dX8_init_160 : decode cX8_init 160 = .ok (.aload_n 0, 1) := by decide +kernel
theorem dX8_init_161 : decode cX8_init 161 = .ok (.sipush 160, 3) := by decide +kernel
theorem dX8_init_164 : decode cX8_init 164 = .ok (.newarray .int, 2) := by decide +kernel
theorem dX8_init_166 : decode cX8_init 166 = .ok (.putfield 78, 3) := by decide +kernel
theorem dX8_init_169 : decode cX8_init 169 = .ok (.aload_n 0, 1) := by decide +kernel
theorem dX8_init_170 : decode cX8_init 170 = .ok (.iconst 0, 1) := by decide +kernel
theorem dX8_init_171 : decode cX8_init 171 = .ok (.bipush 109, 2) := by decide +kernel
theorem dX8_init_173 : decode cX8_init 173 = .ok (.bipush 105, 2) := by decide +kernel
theorem dX8_init_175 : decode cX8_init 175 = .ok (.bipush 110, 2) := by decide +kernel
theorem dX8_init_177 : decode cX8_init 177 = .ok (.bipush 100, 2) := by decide +kernel
theorem dX8_init_179 : decode cX8_init 179 = .ok (.bipush 115, 2) := by decide +kernel
theorem dX8_init_181 : decode cX8_init 181 = .ok (.bipush 32, 2) := by decide +kernel
theorem dX8_init_183 : decode cX8_init 183 = .ok (.bipush 110, 2) := by decide +kernel
theorem dX8_init_185 : decode cX8_init 185 = .ok (.bipush 111, 2) := by decide +kernel
theorem dX8_init_187 : decode cX8_init 187 = .ok (.invokevirtual 81, 3) := by decide +kernel
theorem dX8_init_190 : decode cX8_init 190 = .ok (.aload_n 0, 1) := by decide +kernel
theorem dX8_init_191 : decode cX8_init 191 = .ok (.bipush 8, 2) := by decide +kernel
theorem dX8_init_193 : decode cX8_init 193 = .ok (.bipush 116, 2) := by decide +kernel
theorem dX8_init_195 : decode cX8_init 195 = .ok (.bipush 32, 2) := by decide +kernel
theorem dX8_init_197 : decode cX8_init 197 = .ok (.bipush 108, 2) := by decide +kernel
theorem dX8_init_199 : decode cX8_init 199 = .ok (.bipush 105, 2) := by decide +kernel
theorem dX8_init_201 : decode cX8_init 201 = .ok (.bipush 107, 2) := by decide +kernel
theorem dX8_init_203 : decode cX8_init 203 = .ok (.bipush 101, 2) := by decide +kernel
theorem dX8_init_205 : decode cX8_init 205 = .ok (.bipush 100, 2) := by decide +kernel
theorem dX8_init_207 : decode cX8_init 207 = .ok (.bipush 32, 2) := by decide +kernel
theorem dX8_init_209 : decode cX8_init 209 = .ok (.invokevirtual 81, 3) := by decide +kernel
theorem dX8_init_212 : decode cX8_init 212 = .ok (.aload_n 0, 1) := by decide +kernel
theorem dX8_init_213 : decode cX8_init 213 = .ok (.bipush 16, 2) := by decide +kernel
theorem dX8_init_215 : decode cX8_init 215 = .ok (.bipush 59, 2) := by decide +kernel
theorem dX8_init_217 : decode cX8_init 217 = .ok (.bipush 32, 2) := by decide +kernel
theorem dX8_init_219 : decode cX8_init 219 = .ok (.bipush 108, 2) := by decide +kernel
theorem dX8_init_221 : decode cX8_init 221 = .ok (.bipush 97, 2) := by decide +kernel
theorem dX8_init_223 : decode cX8_init 223 = .ok (.bipush 115, 2) := by decide +kernel
theorem dX8_init_225 : decode cX8_init 225 = .ok (.bipush 116, 2) := by decide +kernel
theorem dX8_init_227 : decode cX8_init 227 = .ok (.bipush 115, 2) := by decide +kernel
theorem dX8_init_229 : decode cX8_init 229 = .ok (.bipush 32, 2) := by decide +kernel
theorem dX8_init_231 : decode cX8_init 231 = .ok (.invokevirtual 81, 3) := by decide +kernel
theorem dX8_init_234 : decode cX8_init 234 = .ok (.aload_n 0, 1) := by decide +kernel
theorem dX8_init_235 : decode cX8_init 235 = .ok (.bipush 24, 2) := by decide +kernel
theorem dX8_init_237 : decode cX8_init 237 = .ok (.bipush 51, 2) := by decide +kernel
theorem dX8_init_239 : decode cX8_init 239 = .ok (.bipush 32, 2) := by decide +kernel
theorem dX8_init_241 : decode cX8_init 241 = .ok (.bipush 43, 2) := by decide +kernel
theorem dX8_init_243 : decode cX8_init 243 = .ok (.bipush 32, 2) := by decide +kernel
theorem dX8_init_245 : decode cX8_init 245 = .ok (.bipush 110, 2) := by decide +kernel
theorem dX8_init_247 : decode cX8_init 247 = .ok (.bipush 117, 2) := by decide +kernel
theorem dX8_init_249 : decode cX8_init 249 = .ok (.bipush 109, 2) := by decide +kernel
theorem dX8_init_251 : decode cX8_init 251 = .ok (.bipush 98, 2) := by decide +kernel
theorem dX8_init_253 : decode cX8_init 253 = .ok (.invokevirtual 81, 3) := by decide +kernel
theorem dX8_init_256 : decode cX8_init 256 = .ok (.aload_n 0, 1) := by decide +kernel
theorem dX8_init_257 : decode cX8_init 257 = .ok (.bipush 32, 2) := by decide +kernel
theorem dX8_init_259 : decode cX8_init 259 = .ok (.bipush 101, 2) := by decide +kernel
theorem dX8_init_261 : decode cX8_init 261 = .ok (.bipush 114, 2) := by decide +kernel
theorem dX8_init_263 : decode cX8_init 263 = .ok (.bipush 32, 2) := by decide +kernel
theorem dX8_init_265 : decode cX8_init 265 = .ok (.bipush 59, 2) := by decide +kernel
theorem dX8_init_267 : decode cX8_init 267 = .ok (.bipush 32, 2) := by decide +kernel
theorem dX8_init_269 : decode cX8_init 269 = .ok (.bipush 105, 2) := by decide +kernel
theorem dX8_init_271 : decode cX8_init 271 = .ok (.bipush 114, 2) := by decide +kernel
theorem dX8_init_273 : decode cX8_init 273 = .ok (.bipush 107, 2) := by decide +kernel
theorem dX8_init_275 : decode cX8_init 275 = .ok (.invokevirtual 81, 3) := by decide +kernel
theorem dX8_init_278 : decode cX8_init 278 = .ok (.aload_n 0, 1) := by decide +kernel
theorem dX8_init_279 : decode cX8_init 279 = .ok (.bipush 40, 2) := by decide +kernel
theorem dX8_init_281 : decode cX8_init 281 = .ok (.bipush 115, 2) := by decide +kernel
theorem dX8_init_283 : decode cX8_init 283 = .ok (.bipush 32, 2) := by decide +kernel
theorem dX8_init_285 : decode cX8_init 285 = .ok (.bipush 49, 2) := by decide +kernel
theorem dX8_init_287 : decode cX8_init 287 = .ok (.bipush 32, 2) := by decide +kernel
theorem dX8_init_289 : decode cX8_init 289 = .ok (.bipush 59, 2) := by decide +kernel
theorem dX8_init_291 : decode cX8_init 291 = .ok (.bipush 32, 2) := by decide +kernel
theorem dX8_init_293 : decode cX8_init 293 = .ok (.bipush 32, 2) := by decide +kernel
theorem dX8_init_295 : decode cX8_init 295 = .ok (.bipush 32, 2) := by decide +kernel
theorem dX8_init_297 : decode cX8_init 297 = .ok (.invokevirtual 81, 3) := by decide +kernel
theorem dX8_init_300 : decode cX8_init 300 = .ok (.aload_n 0, 1) := by decide +kernel
theorem dX8_init_301 : decode cX8_init 301 = .ok (.getfield 17, 3) := by decide +kernel
theorem dX8_init_304 : decode cX8_init 304 = .ok (.iconst 0, 1) := by decide +kernel
theorem dX8_init_305 : decode cX8_init 305 = .ok (.bipush 48, 2) := by decide +kernel
theorem dX8_init_307 : decode cX8_init 307 = .ok (.iastore, 1) := by decide +kernel
theorem dX8_init_308 : decode cX8_init 308 = .ok (.aload_n 0, 1) := by decide +kernel
theorem dX8_init_309 : decode cX8_init 309 = .ok (.iconst 1, 1) := by decide +kernel
theorem dX8_init_310 : decode cX8_init 310 = .ok (.putfield 85, 3) := by decide +kernel
theorem dX8_init_313 : decode cX8_init 313 = .ok (.return_, 1) := by decide +kernel
theorem dX8_spell_0 : decode cX8_spell 0 = .ok (.aload_n 0, 1) := by decide +kernel
theorem dX8_spell_1 : decode cX8_spell 1 = .ok (.getfield 13, 3) := by decide +kernel
theorem dX8_spell_4 : decode cX8_spell 4 = .ok (.iload_n 1, 1) := by decide +kernel
theorem dX8_spell_5 : decode cX8_spell 5 = .ok (.iload_n 2, 1) := by decide +kernel
theorem dX8_spell_6 : decode cX8_spell 6 = .ok (.iastore, 1) := by decide +kernel
theorem dX8_spell_7 : decode cX8_spell 7 = .ok (.aload_n 0, 1) := by decide +kernel
theorem dX8_spell_8 : decode cX8_spell 8 = .ok (.getfield 13, 3) := by decide +kernel
theorem dX8_spell_11 : decode cX8_spell 11 = .ok (.iload_n 1, 1) := by decide +kernel
theorem dX8_spell_12 : decode cX8_spell 12 = .ok (.iconst 1, 1) := by decide +kernel
theorem dX8_spell_13 : decode cX8_spell 13 = .ok (.iadd, 1) := by decide +kernel
theorem dX8_spell_14 : decode cX8_spell 14 = .ok (.iload_n 3, 1) := by decide +kernel
theorem dX8_spell_15 : decode cX8_spell 15 = .ok (.iastore, 1) := by decide +kernel
theorem dX8_spell_16 : decode cX8_spell 16 = .ok (.aload_n 0, 1) := by decide +kernel
theorem dX8_spell_17 : decode cX8_spell 17 = .ok (.getfield 13, 3) := by decide +kernel
theorem dX8_spell_20 : decode cX8_spell 20 = .ok (.iload_n 1, 1) := by decide +kernel
theorem dX8_spell_21 : decode cX8_spell 21 = .ok (.iconst 2, 1) := by decide +kernel
theorem dX8_spell_22 : decode cX8_spell 22 = .ok (.iadd, 1) := by decide +kernel
theorem dX8_spell_23 : decode cX8_spell 23 = .ok (.iload 4, 2) := by decide +kernel
theorem dX8_spell_25 : decode cX8_spell 25 = .ok (.iastore, 1) := by decide +kernel
theorem dX8_spell_26 : decode cX8_spell 26 = .ok (.aload_n 0, 1) := by decide +kernel
theorem dX8_spell_27 : decode cX8_spell 27 = .ok (.getfield 13, 3) := by decide +kernel
theorem dX8_spell_30 : decode cX8_spell 30 = .ok (.iload_n 1, 1) := by decide +kernel
theorem dX8_spell_31 : decode cX8_spell 31 = .ok (.iconst 3, 1) := by decide +kernel
theorem dX8_spell_32 : decode cX8_spell 32 = .ok (.iadd, 1) := by decide +kernel
theorem dX8_spell_33 : decode cX8_spell 33 = .ok (.iload 5, 2) := by decide +kernel
theorem dX8_spell_35 : decode cX8_spell 35 = .ok (.iastore, 1) := by decide +kernel
theorem dX8_spell_36 : decode cX8_spell 36 = .ok (.aload_n 0, 1) := by decide +kernel
theorem dX8_spell_37 : decode cX8_spell 37 = .ok (.getfield 13, 3) := by decide +kernel
theorem dX8_spell_40 : decode cX8_spell 40 = .ok (.iload_n 1, 1) := by decide +kernel
theorem dX8_spell_41 : decode cX8_spell 41 = .ok (.iconst 4, 1) := by decide +kernel
theorem dX8_spell_42 : decode cX8_spell 42 = .ok (.iadd, 1) := by decide +kernel
theorem dX8_spell_43 : decode cX8_spell 43 = .ok (.iload 6, 2) := by decide +kernel
theorem dX8_spell_45 : decode cX8_spell 45 = .ok (.iastore, 1) := by decide +kernel
theorem dX8_spell_46 : decode cX8_spell 46 = .ok (.aload_n 0, 1) := by decide +kernel
theorem dX8_spell_47 : decode cX8_spell 47 = .ok (.getfield 13, 3) := by decide +kernel
theorem dX8_spell_50 : decode cX8_spell 50 = .ok (.iload_n 1, 1) := by decide +kernel
theorem dX8_spell_51 : decode cX8_spell 51 = .ok (.iconst 5, 1) := by decide +kernel
theorem dX8_spell_52 : decode cX8_spell 52 = .ok (.iadd, 1) := by decide +kernel
theorem dX8_spell_53 : decode cX8_spell 53 = .ok (.iload 7, 2) := by decide +kernel
theorem dX8_spell_55 : decode cX8_spell 55 = .ok (.iastore, 1) := by decide +kernel
theorem dX8_spell_56 : decode cX8_spell 56 = .ok (.aload_n 0, 1) := by decide +kernel
theorem dX8_spell_57 : decode cX8_spell 57 = .ok (.getfield 13, 3) := by decide +kernel
theorem dX8_spell_60 : decode cX8_spell 60 = .ok (.iload_n 1, 1) := by decide +kernel
theorem dX8_spell_61 : decode cX8_spell 61 = .ok (.bipush 6, 2) := by decide +kernel
theorem dX8_spell_63 : decode cX8_spell 63 = .ok (.iadd, 1) := by decide +kernel
theorem dX8_spell_64 : decode cX8_spell 64 = .ok (.iload 8, 2) := by decide +kernel
theorem dX8_spell_66 : decode cX8_spell 66 = .ok (.iastore, 1) := by decide +kernel
theorem dX8_spell_67 : decode cX8_spell 67 = .ok (.aload_n 0, 1) := by decide +kernel
theorem dX8_spell_68 : decode cX8_spell 68 = .ok (.getfield 13, 3) := by decide +kernel
theorem dX8_spell_71 : decode cX8_spell 71 = .ok (.iload_n 1, 1) := by decide +kernel
theorem dX8_spell_72 : decode cX8_spell 72 = .ok (.bipush 7, 2) := by decide +kernel
theorem dX8_spell_74 : decode cX8_spell 74 = .ok (.iadd, 1) := by decide +kernel
theorem dX8_spell_75 : decode cX8_spell 75 = .ok (.iload 9, 2) := by decide +kernel
theorem dX8_spell_77 : decode cX8_spell 77 = .ok (.iastore, 1) := by decide +kernel
theorem dX8_spell_78 : decode cX8_spell 78 = .ok (.return_, 1) := by decide +kernel
theorem dX8_isOne_0 : decode cX8_isOne 0 = .ok (.iload_n 1, 1) := by decide +kernel
theorem dX8_isOne_1 : decode cX8_isOne 1 = .ok (.i2l, 1) := by decide +kernel
theorem dX8_isOne_2 : decode cX8_isOne 2 = .ok (.lconst 0, 1) := by decide +kernel
theorem dX8_isOne_3 : decode cX8_isOne 3 = .ok (.aload_n 0, 1) := by decide +kernel
theorem dX8_isOne_4 : decode cX8_isOne 4 = .ok (.getfield 88, 3) := by decide +kernel
theorem dX8_isOne_7 : decode cX8_isOne 7 = .ok (.iconst 1, 1) := by decide +kernel
theorem dX8_isOne_8 : decode cX8_isOne 8 = .ok (.isub, 1) := by decide +kernel
theorem dX8_isOne_9 : decode cX8_isOne 9 = .ok (.i2l, 1) := by decide +kernel
theorem dX8_isOne_10 : decode cX8_isOne 10 = .ok (.invokestatic 91, 3) := by decide +kernel
theorem dX8_isOne_13 : decode cX8_isOne 13 = .ok (.ireturn, 1) := by decide +kernel
theorem dX8_mostOf_0 : decode cX8_mostOf 0 = .ok (.iload_n 0, 1) := by decide +kernel
theorem dX8_mostOf_1 : decode cX8_mostOf 1 = .ok (.ifCond .ne 9, 3) := by decide +kernel
theorem dX8_mostOf_4 : decode cX8_mostOf 4 = .ok (.sipush 999, 3) := by decide +kernel
theorem dX8_mostOf_7 : decode cX8_mostOf 7 = .ok (.goto 35, 3) := by decide +kernel
theorem dX8_mostOf_10 : decode cX8_mostOf 10 = .ok (.iload_n 0, 1) := by decide +kernel
theorem dX8_mostOf_11 : decode cX8_mostOf 11 = .ok (.iconst 1, 1) := by decide +kernel
theorem dX8_mostOf_12 : decode cX8_mostOf 12 = .ok (.if_icmp .ne 8, 3) := by decide +kernel
theorem dX8_mostOf_15 : decode cX8_mostOf 15 = .ok (.bipush 9, 2) := by decide +kernel
theorem dX8_mostOf_17 : decode cX8_mostOf 17 = .ok (.goto 25, 3) := by decide +kernel
theorem dX8_mostOf_20 : decode cX8_mostOf 20 = .ok (.iload_n 0, 1) := by decide +kernel
theorem dX8_mostOf_21 : decode cX8_mostOf 21 = .ok (.iconst 2, 1) := by decide +kernel
theorem dX8_mostOf_22 : decode cX8_mostOf 22 = .ok (.if_icmp .ne 8, 3) := by decide +kernel
theorem dX8_mostOf_25 : decode cX8_mostOf 25 = .ok (.bipush 31, 2) := by decide +kernel
theorem dX8_mostOf_27 : decode cX8_mostOf 27 = .ok (.goto 15, 3) := by decide +kernel
theorem dX8_mostOf_30 : decode cX8_mostOf 30 = .ok (.iload_n 0, 1) := by decide +kernel
theorem dX8_mostOf_31 : decode cX8_mostOf 31 = .ok (.iconst 3, 1) := by decide +kernel
theorem dX8_mostOf_32 : decode cX8_mostOf 32 = .ok (.if_icmp .ne 8, 3) := by decide +kernel
theorem dX8_mostOf_35 : decode cX8_mostOf 35 = .ok (.bipush 99, 2) := by decide +kernel
theorem dX8_mostOf_37 : decode cX8_mostOf 37 = .ok (.goto 5, 3) := by decide +kernel
theorem dX8_mostOf_40 : decode cX8_mostOf 40 = .ok (.bipush 40, 2) := by decide +kernel
theorem dX8_mostOf_42 : decode cX8_mostOf 42 = .ok (.ireturn, 1) := by decide +kernel
theorem dX8_set_0 : decode cX8_set 0 = .ok (.iload_n 1, 1) := by decide +kernel
theorem dX8_set_1 : decode cX8_set 1 = .ok (.i2l, 1) := by decide +kernel
theorem dX8_set_2 : decode cX8_set 2 = .ok (.lconst 0, 1) := by decide +kernel
theorem dX8_set_3 : decode cX8_set 3 = .ok (.ldc2_w 95, 3) := by decide +kernel
theorem dX8_set_6 : decode cX8_set 6 = .ok (.invokestatic 91, 3) := by decide +kernel
theorem dX8_set_9 : decode cX8_set 9 = .ok (.ifCond .eq 43, 3) := by decide +kernel
theorem dX8_set_12 : decode cX8_set 12 = .ok (.iload_n 1, 1) := by decide +kernel
theorem dX8_set_13 : decode cX8_set 13 = .ok (.ifCond .le 11, 3) := by decide +kernel
theorem dX8_set_16 : decode cX8_set 16 = .ok (.aload_n 0, 1) := by decide +kernel
theorem dX8_set_17 : decode cX8_set 17 = .ok (.iload_n 2, 1) := by decide +kernel
theorem dX8_set_18 : decode cX8_set 18 = .ok (.invokevirtual 97, 3) := by decide +kernel
theorem dX8_set_21 : decode cX8_set 21 = .ok (.ifCond .eq 31, 3) := by decide +kernel
theorem dX8_set_24 : decode cX8_set 24 = .ok (.iload_n 3, 1) := by decide +kernel
theorem dX8_set_25 : decode cX8_set 25 = .ok (.i2l, 1) := by decide +kernel
theorem dX8_set_26 : decode cX8_set 26 = .ok (.lconst 0, 1) := by decide +kernel
theorem dX8_set_27 : decode cX8_set 27 = .ok (.iload_n 1, 1) := by decide +kernel
theorem dX8_set_28 : decode cX8_set 28 = .ok (.invokestatic 101, 3) := by decide +kernel
theorem dX8_set_31 : decode cX8_set 31 = .ok (.i2l, 1) := by decide +kernel
theorem dX8_set_32 : decode cX8_set 32 = .ok (.invokestatic 91, 3) := by decide +kernel
theorem dX8_set_35 : decode cX8_set 35 = .ok (.ifCond .eq 17, 3) := by decide +kernel
theorem dX8_set_38 : decode cX8_set 38 = .ok (.iload_n 1, 1) := by decide +kernel
theorem dX8_set_39 : decode cX8_set 39 = .ok (.iconst 2, 1) := by decide +kernel
theorem dX8_set_40 : decode cX8_set 40 = .ok (.if_icmp .ne 15, 3) := by decide +kernel
theorem dX8_set_43 : decode cX8_set 43 = .ok (.iload_n 3, 1) := by decide +kernel
theorem dX8_set_44 : decode cX8_set 44 = .ok (.iload_n 2, 1) := by decide +kernel
theorem dX8_set_45 : decode cX8_set 45 = .ok (.ishr, 1) := by decide +kernel
theorem dX8_set_46 : decode cX8_set 46 = .ok (.iconst 1, 1) := by decide +kernel
theorem dX8_set_47 : decode cX8_set 47 = .ok (.iand, 1) := by decide +kernel
theorem dX8_set_48 : decode cX8_set 48 = .ok (.iconst 1, 1) := by decide +kernel
theorem dX8_set_49 : decode cX8_set 49 = .ok (.if_icmp .ne 6, 3) := by decide +kernel
theorem dX8_set_52 : decode cX8_set 52 = .ok (.bipush (-2), 2) := by decide +kernel
theorem dX8_set_54 : decode cX8_set 54 = .ok (.ireturn, 1) := by decide +kernel
theorem dX8_set_55 : decode cX8_set 55 = .ok (.aload_n 0, 1) := by decide +kernel
theorem dX8_set_56 : decode cX8_set 56 = .ok (.iload_n 2, 1) := by decide +kernel
theorem dX8_set_57 : decode cX8_set 57 = .ok (.iload_n 1, 1) := by decide +kernel
theorem dX8_set_58 : decode cX8_set 58 = .ok (.invokevirtual 105, 3) := by decide +kernel
theorem dX8_set_61 : decode cX8_set 61 = .ok (.istore 4, 2) := by decide +kernel
theorem dX8_set_63 : decode cX8_set 63 = .ok (.aload_n 0, 1) := by decide +kernel
theorem dX8_set_64 : decode cX8_set 64 = .ok (.iload_n 1, 1) := by decide +kernel
theorem dX8_set_65 : decode cX8_set 65 = .ok (.iload_n 2, 1) := by decide +kernel
theorem dX8_set_66 : decode cX8_set 66 = .ok (.iload_n 3, 1) := by decide +kernel
theorem dX8_set_67 : decode cX8_set 67 = .ok (.invokevirtual 109, 3) := by decide +kernel
theorem dX8_set_70 : decode cX8_set 70 = .ok (.iload 4, 2) := by decide +kernel
theorem dX8_set_72 : decode cX8_set 72 = .ok (.ireturn, 1) := by decide +kernel
