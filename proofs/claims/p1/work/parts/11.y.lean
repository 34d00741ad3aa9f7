theorem dX10_head_0 : decode cX10_head 0 = .ok (.aload_n 0, 1) := by decide +kernel
theorem dX10_head_1 : decode cX10_head 1 = .ok (.iload_n 1, 1) := by decide +kernel
theorem dX10_head_2 : decode cX10_head 2 = .ok (.invokevirtual 135, 3) := by decide +kernel
theorem dX10_head_5 : decode cX10_head 5 = .ok (.ifCond .ne 6, 3) := by decide +kernel
theorem dX10_head_8 : decode cX10_head 8 = .ok (.bipush (-2), 2) := by decide +kernel
theorem dX10_head_10 : decode cX10_head 10 = .ok (.ireturn, 1) := by decide +kernel
theorem dX10_head_11 : decode cX10_head 11 = .ok (.iload_n 2, 1) := by decide +kernel
theorem dX10_head_12 : decode cX10_head 12 = .ok (.tableswitch 72 0 3 #[32, 42, 52, 62], 32) := by decide +kernel
theorem dX10_head_44 : decode cX10_head 44 = .ok (.aload_n 0, 1) := by decide +kernel
theorem dX10_head_45 : decode cX10_head 45 = .ok (.getfield 23, 3) := by decide +kernel
theorem dX10_head_48 : decode cX10_head 48 = .ok (.getfield 139, 3) := by decide +kernel
theorem dX10_head_51 : decode cX10_head 51 = .ok (.iload_n 1, 1) := by decide +kernel
theorem dX10_head_52 : decode cX10_head 52 = .ok (.iaload, 1) := by decide +kernel
theorem dX10_head_53 : decode cX10_head 53 = .ok (.ireturn, 1) := by decide +kernel
theorem dX10_head_54 : decode cX10_head 54 = .ok (.aload_n 0, 1) := by decide +kernel
theorem dX10_head_55 : decode cX10_head 55 = .ok (.getfield 23, 3) := by decide +kernel
theorem dX10_head_58 : decode cX10_head 58 = .ok (.getfield 143, 3) := by decide +kernel
theorem dX10_head_61 : decode cX10_head 61 = .ok (.iload_n 1, 1) := by decide +kernel
theorem dX10_head_62 : decode cX10_head 62 = .ok (.iaload, 1) := by decide +kernel
theorem dX10_head_63 : decode cX10_head 63 = .ok (.ireturn, 1) := by decide +kernel
theorem dX10_head_64 : decode cX10_head 64 = .ok (.aload_n 0, 1) := by decide +kernel
theorem dX10_head_65 : decode cX10_head 65 = .ok (.getfield 23, 3) := by decide +kernel
theorem dX10_head_68 : decode cX10_head 68 = .ok (.getfield 146, 3) := by decide +kernel
theorem dX10_head_71 : decode cX10_head 71 = .ok (.iload_n 1, 1) := by decide +kernel
theorem dX10_head_72 : decode cX10_head 72 = .ok (.iaload, 1) := by decide +kernel
theorem dX10_head_73 : decode cX10_head 73 = .ok (.ireturn, 1) := by decide +kernel
theorem dX10_head_74 : decode cX10_head 74 = .ok (.aload_n 0, 1) := by decide +kernel
theorem dX10_head_75 : decode cX10_head 75 = .ok (.getfield 23, 3) := by decide +kernel
theorem dX10_head_78 : decode cX10_head 78 = .ok (.getfield 149, 3) := by decide +kernel
theorem dX10_head_81 : decode cX10_head 81 = .ok (.iload_n 1, 1) := by decide +kernel
theorem dX10_head_82 : decode cX10_head 82 = .ok (.iaload, 1) := by decide +kernel
theorem dX10_head_83 : decode cX10_head 83 = .ok (.ireturn, 1) := by decide +kernel
theorem dX10_head_84 : decode cX10_head 84 = .ok (.bipush (-2), 2) := by decide +kernel
theorem dX10_head_86 : decode cX10_head 86 = .ok (.ireturn, 1) := by decide +kernel
theorem dX10_near_0 : decode cX10_near 0 = .ok (.aload_n 0, 1) := by decide +kernel
theorem dX10_near_1 : decode cX10_near 1 = .ok (.iload_n 1, 1) := by decide +kernel
theorem dX10_near_2 : decode cX10_near 2 = .ok (.invokevirtual 135, 3) := by decide +kernel
theorem dX10_near_5 : decode cX10_near 5 = .ok (.ifCond .eq 15, 3) := by decide +kernel
theorem dX10_near_8 : decode cX10_near 8 = .ok (.aload_n 0, 1) := by decide +kernel
theorem dX10_near_9 : decode cX10_near 9 = .ok (.getfield 23, 3) := by decide +kernel
theorem dX10_near_12 : decode cX10_near 12 = .ok (.getfield 152, 3) := by decide +kernel
theorem dX10_near_15 : decode cX10_near 15 = .ok (.iload_n 1, 1) := by decide +kernel
theorem dX10_near_16 : decode cX10_near 16 = .ok (.iaload, 1) := by decide +kernel
theorem dX10_near_17 : decode cX10_near 17 = .ok (.goto 5, 3) := by decide +kernel
theorem dX10_near_20 : decode cX10_near 20 = .ok (.bipush (-2), 2) := by decide +kernel
theorem dX10_near_22 : decode cX10_near 22 = .ok (.ireturn, 1) := by decide +kernel
theorem dX10_heads_0 : decode cX10_heads 0 = .ok (.aload_n 0, 1) := by decide +kernel
theorem dX10_heads_1 : decode cX10_heads 1 = .ok (.iload_n 1, 1) := by decide +kernel
theorem dX10_heads_2 : decode cX10_heads 2 = .ok (.invokevirtual 155, 3) := by decide +kernel
theorem dX10_heads_5 : decode cX10_heads 5 = .ok (.ifCond .eq 15, 3) := by decide +kernel
theorem dX10_heads_8 : decode cX10_heads 8 = .ok (.aload_n 0, 1) := by decide +kernel
theorem dX10_heads_9 : decode cX10_heads 9 = .ok (.getfield 23, 3) := by decide +kernel
theorem dX10_heads_12 : decode cX10_heads 12 = .ok (.getfield 158, 3) := by decide +kernel
theorem dX10_heads_15 : decode cX10_heads 15 = .ok (.iload_n 1, 1) := by decide +kernel
theorem dX10_heads_16 : decode cX10_heads 16 = .ok (.iaload, 1) := by decide +kernel
theorem dX10_heads_17 : decode cX10_heads 17 = .ok (.goto 5, 3) := by decide +kernel
theorem dX10_heads_20 : decode cX10_heads 20 = .ok (.bipush (-2), 2) := by decide +kernel
theorem dX10_heads_22 : decode cX10_heads 22 = .ok (.ireturn, 1) := by decide +kernel
theorem dX10_view_0 : decode cX10_view 0 = .ok (.aload_n 0, 1) := by decide +kernel
theorem dX10_view_1 : decode cX10_view 1 = .ok (.iload_n 1, 1) := by decide +kernel
theorem dX10_view_2 : decode cX10_view 2 = .ok (.invokevirtual 135, 3) := by decide +kernel
theorem dX10_view_5 : decode cX10_view 5 = .ok (.ifCond .eq 23, 3) := by decide +kernel
theorem dX10_view_8 : decode cX10_view 8 = .ok (.aload_n 0, 1) := by decide +kernel
theorem dX10_view_9 : decode cX10_view 9 = .ok (.iload_n 2, 1) := by decide +kernel
theorem dX10_view_10 : decode cX10_view 10 = .ok (.invokevirtual 161, 3) := by decide +kernel
theorem dX10_view_13 : decode cX10_view 13 = .ok (.ifCond .eq 15, 3) := by decide +kernel
theorem dX10_view_16 : decode cX10_view 16 = .ok (.aload_n 0, 1) := by decide +kernel
theorem dX10_view_17 : decode cX10_view 17 = .ok (.getfield 38, 3) := by decide +kernel
theorem dX10_view_20 : decode cX10_view 20 = .ok (.iload_n 1, 1) := by decide +kernel
theorem dX10_view_21 : decode cX10_view 21 = .ok (.iload_n 2, 1) := by decide +kernel
theorem dX10_view_22 : decode cX10_view 22 = .ok (.invokevirtual 164, 3) := by decide +kernel
theorem dX10_view_25 : decode cX10_view 25 = .ok (.goto 5, 3) := by decide +kernel
theorem dX10_view_28 : decode cX10_view 28 = .ok (.bipush (-2), 2) := by decide +kernel
theorem dX10_view_30 : decode cX10_view 30 = .ok (.ireturn, 1) := by decide +kernel
theorem dX10_holding_0 : decode cX10_holding 0 = .ok (.iload_n 1, 1) := by decide +kernel
theorem dX10_holding_1 : decode cX10_holding 1 = .ok (.invokestatic 168, 3) := by decide +kernel
theorem dX10_holding_4 : decode cX10_holding 4 = .ok (.ifCond .eq 23, 3) := by decide +kernel
theorem dX10_holding_7 : decode cX10_holding 7 = .ok (.aload_n 0, 1) := by decide +kernel
theorem dX10_holding_8 : decode cX10_holding 8 = .ok (.iload_n 2, 1) := by decide +kernel
theorem dX10_holding_9 : decode cX10_holding 9 = .ok (.invokevirtual 161, 3) := by decide +kernel
theorem dX10_holding_12 : decode cX10_holding 12 = .ok (.ifCond .eq 15, 3) := by decide +kernel
theorem dX10_holding_15 : decode cX10_holding 15 = .ok (.aload_n 0, 1) := by decide +kernel
theorem dX10_holding_16 : decode cX10_holding 16 = .ok (.getfield 50, 3) := by decide +kernel
theorem dX10_holding_19 : decode cX10_holding 19 = .ok (.iload_n 1, 1) := by decide +kernel
theorem dX10_holding_20 : decode cX10_holding 20 = .ok (.iload_n 2, 1) := by decide +kernel
theorem dX10_holding_21 : decode cX10_holding 21 = .ok (.invokevirtual 171, 3) := by decide +kernel
theorem dX10_holding_24 : decode cX10_holding 24 = .ok (.goto 5, 3) := by decide +kernel
theorem dX10_holding_27 : decode cX10_holding 27 = .ok (.bipush (-2), 2) := by decide +kernel
theorem dX10_holding_29 : decode cX10_holding 29 = .ok (.ireturn, 1) := by decide +kernel
theorem dX10_eaten_0 : decode cX10_eaten 0 = .ok (.aload_n 0, 1) := by decide +kernel
theorem dX10_eaten_1 : decode cX10_eaten 1 = .ok (.iload_n 1, 1) := by decide +kernel
theorem dX10_eaten_2 : decode cX10_eaten 2 = .ok (.invokevirtual 161, 3) := by decide +kernel
theorem dX10_eaten_5 : decode cX10_eaten 5 = .ok (.ifCond .eq 15, 3) := by decide +kernel
theorem dX10_eaten_8 : decode cX10_eaten 8 = .ok (.aload_n 0, 1) := by decide +kernel
theorem dX10_eaten_9 : decode cX10_eaten 9 = .ok (.getfield 29, 3) := by decide +kernel
theorem dX10_eaten_12 : decode cX10_eaten 12 = .ok (.getfield 174, 3) := by decide +kernel
theorem dX10_eaten_15 : decode cX10_eaten 15 = .ok (.iload_n 1, 1) := by decide +kernel
theorem dX10_eaten_16 : decode cX10_eaten 16 = .ok (.iaload, 1) := by decide +kernel
theorem dX10_eaten_17 : decode cX10_eaten 17 = .ok (.goto 5, 3) := by decide +kernel
theorem dX10_eaten_20 : decode cX10_eaten 20 = .ok (.bipush (-2), 2) := by decide +kernel
theorem dX10_eaten_22 : decode cX10_eaten 22 = .ok (.ireturn, 1) := by decide +kernel
theorem dX10_turned_0 : decode cX10_turned 0 = .ok (.aload_n 0, 1) := by decide +kernel
theorem dX10_turned_1 : decode cX10_turned 1 = .ok (.iload_n 1, 1) := by decide +kernel
theorem dX10_turned_2 : decode cX10_turned 2 = .ok (.invokevirtual 161, 3) := by decide +kernel
theorem dX10_turned_5 : decode cX10_turned 5 = .ok (.ifCond .eq 14, 3) := by decide +kernel
theorem dX10_turned_8 : decode cX10_turned 8 = .ok (.aload_n 0, 1) := by decide +kernel
theorem dX10_turned_9 : decode cX10_turned 9 = .ok (.getfield 50, 3) := by decide +kernel
theorem dX10_turned_12 : decode cX10_turned 12 = .ok (.iload_n 1, 1) := by decide +kernel
theorem dX10_turned_13 : decode cX10_turned 13 = .ok (.invokevirtual 177, 3) := by decide +kernel
theorem dX10_turned_16 : decode cX10_turned 16 = .ok (.goto 5, 3) := by decide +kernel
theorem dX10_turned_19 : decode cX10_turned 19 = .ok (.bipush (-2), 2) := by decide +kernel
theorem dX10_turned_21 : decode cX10_turned 21 = .ok (.ireturn, 1) := by decide +kernel
theorem dX10_sways_0 : decode cX10_sways 0 = .ok (.aload_n 0, 1) := by decide +kernel
theorem dX10_sways_1 : decode cX10_sways 1 = .ok (.iload_n 1, 1) := by decide +kernel
theorem dX10_sways_2 : decode cX10_sways 2 = .ok (.invokevirtual 135, 3) := by decide +kernel
theorem dX10_sways_5 : decode cX10_sways 5 = .ok (.ifCond .eq 14, 3) := by decide +kernel
theorem dX10_sways_8 : decode cX10_sways 8 = .ok (.aload_n 0, 1) := by decide +kernel
theorem dX10_sways_9 : decode cX10_sways 9 = .ok (.getfield 50, 3) := by decide +kernel
theorem dX10_sways_12 : decode cX10_sways 12 = .ok (.iload_n 1, 1) := by decide +kernel
theorem dX10_sways_13 : decode cX10_sways 13 = .ok (.invokevirtual 181, 3) := by decide +kernel
theorem dX10_sways_16 : decode cX10_sways 16 = .ok (.goto 5, 3) := by decide +kernel
theorem dX10_sways_19 : decode cX10_sways 19 = .ok (.bipush (-2), 2) := by decide +kernel
theorem dX10_sways_21 : decode cX10_sways 21 = .ok (.ireturn, 1) := by decide +kernel
theorem dX10_when_0 : decode cX10_when 0 = .ok (.aload_n 0, 1) := by decide +kernel
theorem dX10_when_1 : decode cX10_when 1 = .ok (.iload_n 1, 1) := by decide +kernel
theorem dX10_when_2 : decode cX10_when 2 = .ok (.invokevirtual 135, 3) := by decide +kernel
theorem dX10_when_5 : decode cX10_when 5 = .ok (.ifCond .eq 24, 3) := by decide +kernel
theorem dX10_when_8 : decode cX10_when 8 = .ok (.iload_n 2, 1) := by decide +kernel
theorem dX10_when_9 : decode cX10_when 9 = .ok (.invokestatic 184, 3) := by decide +kernel
theorem dX10_when_12 : decode cX10_when 12 = .ok (.ifCond .eq 17, 3) := by decide +kernel
theorem dX10_when_15 : decode cX10_when 15 = .ok (.aload_n 0, 1) := by decide +kernel
theorem dX10_when_16 : decode cX10_when 16 = .ok (.getfield 50, 3) := by decide +kernel
theorem dX10_when_19 : decode cX10_when 19 = .ok (.iconst 1, 1) := by decide +kernel
theorem dX10_when_20 : decode cX10_when 20 = .ok (.iload_n 1, 1) := by decide +kernel
theorem dX10_when_21 : decode cX10_when 21 = .ok (.ishl, 1) := by decide +kernel
theorem dX10_when_22 : decode cX10_when 22 = .ok (.iload_n 2, 1) := by decide +kernel
theorem dX10_when_23 : decode cX10_when 23 = .ok (.invokevirtual 187, 3) := by decide +kernel
theorem dX10_when_26 : decode cX10_when 26 = .ok (.goto 5, 3) := by decide +kernel
theorem dX10_when_29 : decode cX10_when 29 = .ok (.bipush (-2), 2) := by decide +kernel
theorem dX10_when_31 : decode cX10_when 31 = .ok (.ireturn, 1) := by decide +kernel
theorem dX10_often_0 : decode cX10_often 0 = .ok (.aload_n 0, 1) := by decide +kernel
theorem dX10_often_1 : decode cX10_often 1 = .ok (.iload_n 1, 1) := by decide +kernel
theorem dX10_often_2 : decode cX10_often 2 = .ok (.invokevirtual 135, 3) := by decide +kernel
theorem dX10_often_5 : decode cX10_often 5 = .ok (.ifCond .eq 22, 3) := by decide +kernel
theorem dX10_often_8 : decode cX10_often 8 = .ok (.iload_n 2, 1) := by decide +kernel
theorem dX10_often_9 : decode cX10_often 9 = .ok (.invokestatic 184, 3) := by decide +kernel
theorem dX10_often_12 : decode cX10_often 12 = .ok (.ifCond .eq 15, 3) := by decide +kernel
theorem dX10_often_15 : decode cX10_often 15 = .ok (.aload_n 0, 1) := by decide +kernel
theorem dX10_often_16 : decode cX10_often 16 = .ok (.getfield 50, 3) := by decide +kernel
theorem dX10_often_19 : decode cX10_often 19 = .ok (.iload_n 1, 1) := by decide +kernel
theorem dX10_often_20 : decode cX10_often 20 = .ok (.iload_n 2, 1) := by decide +kernel
theorem dX10_often_21 : decode cX10_often 21 = .ok (.invokevirtual 190, 3) := by decide +kernel
theorem dX10_often_24 : decode cX10_often 24 = .ok (.goto 5, 3) := by decide +kernel
theorem dX10_often_27 : decode cX10_often 27 = .ok (.bipush (-2), 2) := by decide +kernel
theorem dX10_often_29 : decode cX10_often 29 = .ok (.ireturn, 1) := by decide +kernel
theorem dX10_heart_0 : decode cX10_heart 0 = .ok (.aload_n 0, 1) := by decide +kernel
theorem dX10_heart_1 : decode cX10_heart 1 = .ok (.iload_n 1, 1) := by decide +kernel
theorem dX10_heart_2 : decode cX10_heart 2 = .ok (.invokevirtual 135, 3) := by decide +kernel
theorem dX10_heart_5 : decode cX10_heart 5 = .ok (.ifCond .eq 14, 3) := by decide +kernel
theorem dX10_heart_8 : decode cX10_heart 8 = .ok (.aload_n 0, 1) := by decide +kernel
theorem dX10_heart_9 : decode cX10_heart 9 = .ok (.getfield 50, 3) := by decide +kernel
theorem dX10_heart_12 : decode cX10_heart 12 = .ok (.iload_n 1, 1) := by decide +kernel
theorem dX10_heart_13 : decode cX10_heart 13 = .ok (.invokevirtual 193, 3) := by decide +kernel
theorem dX10_heart_16 : decode cX10_heart 16 = .ok (.goto 5, 3) := by decide +kernel
theorem dX10_heart_19 : decode cX10_heart 19 = .ok (.bipush (-2), 2) := by decide +kernel
theorem dX10_heart_21 : decode cX10_heart 21 = .ok (.ireturn, 1) := by decide +kernel
theorem dX10_fickle_0 : decode cX10_fickle 0 = .ok (.aload_n 0, 1) := by decide +kernel
theorem dX10_fickle_1 : decode cX10_fickle 1 = .ok (.invokevirtual 196, 3) := by decide +kernel
theorem dX10_fickle_4 : decode cX10_fickle 4 = .ok (.ifCond .eq 13, 3) := by decide +kernel
theorem dX10_fickle_7 : decode cX10_fickle 7 = .ok (.aload_n 0, 1) := by decide +kernel
theorem dX10_fickle_8 : decode cX10_fickle 8 = .ok (.getfield 50, 3) := by decide +kernel
theorem dX10_fickle_11 : decode cX10_fickle 11 = .ok (.invokevirtual 199, 3) := by decide +kernel
theorem dX10_fickle_14 : decode cX10_fickle 14 = .ok (.goto 5, 3) := by decide +kernel
theorem dX10_fickle_17 : decode cX10_fickle 17 = .ok (.bipush (-2), 2) := by decide +kernel
theorem dX10_fickle_19 : decode cX10_fickle 19 = .ok (.ireturn, 1) := by decide +kernel
theorem dX10_agree_0 : decode cX10_agree 0 = .ok (.aload_n 0, 1) := by decide +kernel
theorem dX10_agree_1 : decode cX10_agree 1 = .ok (.invokevirtual 196, 3) := by decide +kernel
theorem dX10_agree_4 : decode cX10_agree 4 = .ok (.ifCond .eq 13, 3) := by decide +kernel
theorem dX10_agree_7 : decode cX10_agree 7 = .ok (.aload_n 0, 1) := by decide +kernel
theorem dX10_agree_8 : decode cX10_agree 8 = .ok (.getfield 50, 3) := by decide +kernel
theorem dX10_agree_11 : decode cX10_agree 11 = .ok (.invokevirtual 203, 3) := by decide +kernel
theorem dX10_agree_14 : decode cX10_agree 14 = .ok (.goto 5, 3) := by decide +kernel
theorem dX10_agree_17 : decode cX10_agree 17 = .ok (.bipush (-2), 2) := by decide +kernel
theorem dX10_agree_19 : decode cX10_agree 19 = .ok (.ireturn, 1) := by decide +kernel
theorem dX10_still_0 : decode cX10_still 0 = .ok (.aload_n 0, 1) := by decide +kernel
theorem dX10_still_1 : decode cX10_still 1 = .ok (.invokevirtual 196, 3) := by decide +kernel
theorem dX10_still_4 : decode cX10_still 4 = .ok (.ifCond .eq 13, 3) := by decide +kernel
theorem dX10_still_7 : decode cX10_still 7 = .ok (.aload_n 0, 1) := by decide +kernel
theorem dX10_still_8 : decode cX10_still 8 = .ok (.getfield 50, 3) := by decide +kernel
theorem dX10_still_11 : decode cX10_still 11 = .ok (.invokevirtual 206, 3) := by decide +kernel
theorem dX10_still_14 : decode cX10_still 14 = .ok (.goto 5, 3) := by decide +kernel
theorem dX10_still_17 : decode cX10_still 17 = .ok (.bipush (-2), 2) := by decide +kernel
theorem dX10_still_19 : decode cX10_still 19 = .ok (.ireturn, 1) := by decide +kernel
theorem dX10_quiet_0 : decode cX10_quiet 0 = .ok (.aload_n 0, 1) := by decide +kernel
theorem dX10_quiet_1 : decode cX10_quiet 1 = .ok (.invokevirtual 196, 3) := by decide +kernel
theorem dX10_quiet_4 : decode cX10_quiet 4 = .ok (.ifCond .eq 13, 3) := by decide +kernel
theorem dX10_quiet_7 : decode cX10_quiet 7 = .ok (.aload_n 0, 1) := by decide +kernel
theorem dX10_quiet_8 : decode cX10_quiet 8 = .ok (.getfield 50, 3) := by decide +kernel
theorem dX10_quiet_11 : decode cX10_quiet 11 = .ok (.invokevirtual 209, 3) := by decide +kernel
theorem dX10_quiet_14 : decode cX10_quiet 14 = .ok (.goto 5, 3) := by decide +kernel
theorem dX10_quiet_17 : decode cX10_quiet 17 = .ok (.bipush (-2), 2) := by decide +kernel
theorem dX10_quiet_19 : decode cX10_quiet 19 = .ok (.ireturn, 1) := by decide +kernel
theorem dX10_settles_0 : decode cX10_settles 0 = .ok (.aload_n 0, 1) := by decide +kernel
theorem dX10_settles_1 : decode cX10_settles 1 = .ok (.invokevirtual 196, 3) := by decide +kernel
theorem dX10_settles_4 : decode cX10_settles 4 = .ok (.ifCond .ne 6, 3) := by decide +kernel
theorem dX10_settles_7 : decode cX10_settles 7 = .ok (.bipush (-2), 2) := by decide +kernel
theorem dX10_settles_9 : decode cX10_settles 9 = .ok (.ireturn, 1) := by decide +kernel
theorem dX10_settles_10 : decode cX10_settles 10 = .ok (.aload_n 0, 1) := by decide +kernel
theorem dX10_settles_11 : decode cX10_settles 11 = .ok (.getfield 50, 3) := by decide +kernel
theorem dX10_settles_14 : decode cX10_settles 14 = .ok (.invokevirtual 212, 3) := by decide +kernel
theorem dX10_settles_17 : decode cX10_settles 17 = .ok (.istore_n 1, 1) := by decide +kernel
theorem dX10_settles_18 : decode cX10_settles 18 = .ok (.aload_n 0, 1) := by decide +kernel
theorem dX10_settles_19 : decode cX10_settles 19 = .ok (.getfield 50, 3) := by decide +kernel
theorem dX10_settles_22 : decode cX10_settles 22 = .ok (.iload_n 1, 1) := by decide +kernel
theorem dX10_settles_23 : decode cX10_settles 23 = .ok (.invokevirtual 215, 3) := by decide +kernel
theorem dX10_settles_26 : decode cX10_settles 26 = .ok (.iload_n 1, 1) := by decide +kernel
theorem dX10_settles_27 : decode cX10_settles 27 = .ok (.iadd, 1) := by decide +kernel
theorem dX10_settles_28 : decode cX10_settles 28 = .ok (.ireturn, 1) := by decide +kernel
theorem dX10_round_0 : decode cX10_round 0 = .ok (.aload_n 0, 1) := by decide +kernel
theorem dX10_round_1 : decode cX10_round 1 = .ok (.invokevirtual 196, 3) := by decide +kernel
theorem dX10_round_4 : decode cX10_round 4 = .ok (.ifCond .eq 13, 3) := by decide +kernel
theorem dX10_round_7 : decode cX10_round 7 = .ok (.aload_n 0, 1) := by decide +kernel
theorem dX10_round_8 : decode cX10_round 8 = .ok (.getfield 50, 3) := by decide +kernel
theorem dX10_round_11 : decode cX10_round 11 = .ok (.invokevirtual 212, 3) := by decide +kernel
theorem dX10_round_14 : decode cX10_round 14 = .ok (.goto 5, 3) := by decide +kernel
theorem dX10_round_17 : decode cX10_round 17 = .ok (.bipush (-2), 2) := by decide +kernel
theorem dX10_round_19 : decode cX10_round 19 = .ok (.ireturn, 1) := by decide +kernel
theorem dX10_mind_0 : decode cX10_mind 0 = .ok (.aload_n 0, 1) := by decide +kernel
theorem dX10_mind_1 : decode cX10_mind 1 = .ok (.iload_n 1, 1) := by decide +kernel
theorem dX10_mind_2 : decode cX10_mind 2 = .ok (.invokevirtual 155, 3) := by decide +kernel
theorem dX10_mind_5 : decode cX10_mind 5 = .ok (.ifCond .eq 23, 3) := by decide +kernel
theorem dX10_mind_8 : decode cX10_mind 8 = .ok (.aload_n 0, 1) := by decide +kernel
theorem dX10_mind_9 : decode cX10_mind 9 = .ok (.iload_n 2, 1) := by decide +kernel
theorem dX10_mind_10 : decode cX10_mind 10 = .ok (.invokevirtual 161, 3) := by decide +kernel
theorem dX10_mind_13 : decode cX10_mind 13 = .ok (.ifCond .eq 15, 3) := by decide +kernel
theorem dX10_mind_16 : decode cX10_mind 16 = .ok (.aload_n 0, 1) := by decide +kernel
theorem dX10_mind_17 : decode cX10_mind 17 = .ok (.getfield 50, 3) := by decide +kernel
theorem dX10_mind_20 : decode cX10_mind 20 = .ok (.iload_n 1, 1) := by decide +kernel
theorem dX10_mind_21 : decode cX10_mind 21 = .ok (.iload_n 2, 1) := by decide +kernel
theorem dX10_mind_22 : decode cX10_mind 22 = .ok (.invokevirtual 218, 3) := by decide +kernel
theorem dX10_mind_25 : decode cX10_mind 25 = .ok (.goto 5, 3) := by decide +kernel
theorem dX10_mind_28 : decode cX10_mind 28 = .ok (.bipush (-2), 2) := by decide +kernel
theorem dX10_mind_30 : decode cX10_mind 30 = .ok (.ireturn, 1) := by decide +kernel
theorem dX10_rows_0 : decode cX10_rows 0 = .ok (.iload_n 1, 1) := by decide +kernel
theorem dX10_rows_1 : decode cX10_rows 1 = .ok (.invokestatic 184, 3) := by decide +kernel
theorem dX10_rows_4 : decode cX10_rows 4 = .ok (.ifCond .eq 23, 3) := by decide +kernel
theorem dX10_rows_7 : decode cX10_rows 7 = .ok (.aload_n 0, 1) := by decide +kernel
theorem dX10_rows_8 : decode cX10_rows 8 = .ok (.iload_n 2, 1) := by decide +kernel
theorem dX10_rows_9 : decode cX10_rows 9 = .ok (.invokevirtual 161, 3) := by decide +kernel
theorem dX10_rows_12 : decode cX10_rows 12 = .ok (.ifCond .eq 15, 3) := by decide +kernel
theorem dX10_rows_15 : decode cX10_rows 15 = .ok (.aload_n 0, 1) := by decide +kernel
theorem dX10_rows_16 : decode cX10_rows 16 = .ok (.getfield 50, 3) := by decide +kernel
theorem dX10_rows_19 : decode cX10_rows 19 = .ok (.iload_n 1, 1) := by decide +kernel
theorem dX10_rows_20 : decode cX10_rows 20 = .ok (.iload_n 2, 1) := by decide +kernel
theorem dX10_rows_21 : decode cX10_rows 21 = .ok (.invokevirtual 221, 3) := by decide +kernel
theorem dX10_rows_24 : decode cX10_rows 24 = .ok (.goto 5, 3) := by decide +kernel
theorem dX10_rows_27 : decode cX10_rows 27 = .ok (.bipush (-2), 2) := by decide +kernel
theorem dX10_rows_29 : decode cX10_rows 29 = .ok (.ireturn, 1) := by decide +kernel
theorem dX10_split_0 : decode cX10_split 0 = .ok (.aload_n 0, 1) := by decide +kernel
theorem dX10_split_1 : decode cX10_split 1 = .ok (.iload_n 1, 1) := by decide +kernel
theorem dX10_split_2 : decode cX10_split 2 = .ok (.invokevirtual 161, 3) := by decide +kernel
theorem dX10_split_5 : decode cX10_split 5 = .ok (.ifCond .eq 24, 3) := by decide +kernel
theorem dX10_split_8 : decode cX10_split 8 = .ok (.aload_n 0, 1) := by decide +kernel
theorem dX10_split_9 : decode cX10_split 9 = .ok (.getfield 50, 3) := by decide +kernel
theorem dX10_split_12 : decode cX10_split 12 = .ok (.aload_n 0, 1) := by decide +kernel
theorem dX10_split_13 : decode cX10_split 13 = .ok (.getfield 23, 3) := by decide +kernel
theorem dX10_split_16 : decode cX10_split 16 = .ok (.invokevirtual 224, 3) := by decide +kernel
theorem dX10_split_19 : decode cX10_split 19 = .ok (.iload_n 1, 1) := by decide +kernel
theorem dX10_split_20 : decode cX10_split 20 = .ok (.invokevirtual 227, 3) := by decide +kernel
theorem dX10_split_23 : decode cX10_split 23 = .ok (.invokestatic 230, 3) := by decide +kernel
theorem dX10_split_26 : decode cX10_split 26 = .ok (.goto 5, 3) := by decide +kernel
theorem dX10_split_29 : decode cX10_split 29 = .ok (.bipush (-2), 2) := by decide +kernel
theorem dX10_split_31 : decode cX10_split 31 = .ok (.ireturn, 1) := by decide +kernel
theorem dX10_main_0 : decode cX10_main 0 = .ok (.aload_n 0, 1) := by decide +kernel
theorem dX10_main_1 : decode cX10_main 1 = .ok (.iload_n 1, 1) := by decide +kernel
theorem dX10_main_2 : decode cX10_main 2 = .ok (.invokevirtual 161, 3) := by decide +kernel
theorem dX10_main_5 : decode cX10_main 5 = .ok (.ifCond .eq 24, 3) := by decide +kernel
theorem dX10_main_8 : decode cX10_main 8 = .ok (.aload_n 0, 1) := by decide +kernel
theorem dX10_main_9 : decode cX10_main 9 = .ok (.getfield 50, 3) := by decide +kernel
theorem dX10_main_12 : decode cX10_main 12 = .ok (.aload_n 0, 1) := by decide +kernel
theorem dX10_main_13 : decode cX10_main 13 = .ok (.getfield 23, 3) := by decide +kernel
theorem dX10_main_16 : decode cX10_main 16 = .ok (.invokevirtual 224, 3) := by decide +kernel
theorem dX10_main_19 : decode cX10_main 19 = .ok (.iload_n 1, 1) := by decide +kernel
theorem dX10_main_20 : decode cX10_main 20 = .ok (.invokevirtual 227, 3) := by decide +kernel
theorem dX10_main_23 : decode cX10_main 23 = .ok (.invokestatic 235, 3) := by decide +kernel
theorem dX10_main_26 : decode cX10_main 26 = .ok (.goto 5, 3) := by decide +kernel
theorem dX10_main_29 : decode cX10_main 29 = .ok (.bipush (-2), 2) := by decide +kernel
theorem dX10_main_31 : decode cX10_main 31 = .ok (.ireturn, 1) := by decide +kernel
theorem dX10_first_0 : decode cX10_first 0 = .ok (.aload_n 0, 1) := by decide +kernel
theorem dX10_first_1 : decode cX10_first 1 = .ok (.invokevirtual 196, 3) := by decide +kernel
theorem dX10_first_4 : decode cX10_first 4 = .ok (.ifCond .eq 28, 3) := by decide +kernel
theorem dX10_first_7 : decode cX10_first 7 = .ok (.iload_n 1, 1) := by decide +kernel
theorem dX10_first_8 : decode cX10_first 8 = .ok (.invokestatic 184, 3) := by decide +kernel
theorem dX10_first_11 : decode cX10_first 11 = .ok (.ifCond .eq 21, 3) := by decide +kernel
theorem dX10_first_14 : decode cX10_first 14 = .ok (.aload_n 0, 1) := by decide +kernel
theorem dX10_first_15 : decode cX10_first 15 = .ok (.getfield 50, 3) := by decide +kernel
theorem dX10_first_18 : decode cX10_first 18 = .ok (.aload_n 0, 1) := by decide +kernel
theorem dX10_first_19 : decode cX10_first 19 = .ok (.getfield 23, 3) := by decide +kernel
theorem dX10_first_22 : decode cX10_first 22 = .ok (.invokevirtual 224, 3) := by decide +kernel
theorem dX10_first_25 : decode cX10_first 25 = .ok (.iload_n 1, 1) := by decide +kernel
theorem dX10_first_26 : decode cX10_first 26 = .ok (.invokevirtual 187, 3) := by decide +kernel
theorem dX10_first_29 : decode cX10_first 29 = .ok (.goto 5, 3) := by decide +kernel
theorem dX10_first_32 : decode cX10_first 32 = .ok (.bipush (-2), 2) := by decide +kernel
theorem dX10_first_34 : decode cX10_first 34 = .ok (.ireturn, 1) := by decide +kernel
theorem dX10_solid_0 : decode cX10_solid 0 = .ok (.aload_n 0, 1) := by decide +kernel
theorem dX10_solid_1 : decode cX10_solid 1 = .ok (.iload_n 1, 1) := by decide +kernel
theorem dX10_solid_2 : decode cX10_solid 2 = .ok (.invokevirtual 161, 3) := by decide +kernel
theorem dX10_solid_5 : decode cX10_solid 5 = .ok (.ifCond .eq 14, 3) := by decide +kernel
theorem dX10_solid_8 : decode cX10_solid 8 = .ok (.aload_n 0, 1) := by decide +kernel
theorem dX10_solid_9 : decode cX10_solid 9 = .ok (.getfield 50, 3) := by decide +kernel
theorem dX10_solid_12 : decode cX10_solid 12 = .ok (.iload_n 1, 1) := by decide +kernel
theorem dX10_solid_13 : decode cX10_solid 13 = .ok (.invokevirtual 238, 3) := by decide +kernel
theorem dX10_solid_16 : decode cX10_solid 16 = .ok (.goto 5, 3) := by decide +kernel
theorem dX10_solid_19 : decode cX10_solid 19 = .ok (.bipush (-2), 2) := by decide +kernel
theorem dX10_solid_21 : decode cX10_solid 21 = .ok (.ireturn, 1) := by decide +kernel
theorem dX10_longest_0 : decode cX10_longest 0 = .ok (.iload_n 1, 1) := by decide +kernel
theorem dX10_longest_1 : decode cX10_longest 1 = .ok (.invokestatic 168, 3) := by decide +kernel
theorem dX10_longest_4 : decode cX10_longest 4 = .ok (.ifCond .eq 23, 3) := by decide +kernel
theorem dX10_longest_7 : decode cX10_longest 7 = .ok (.aload_n 0, 1) := by decide +kernel
theorem dX10_longest_8 : decode cX10_longest 8 = .ok (.iload_n 2, 1) := by decide +kernel
theorem dX10_longest_9 : decode cX10_longest 9 = .ok (.invokevirtual 161, 3) := by decide +kernel
theorem dX10_longest_12 : decode cX10_longest 12 = .ok (.ifCond .eq 15, 3) := by decide +kernel
theorem dX10_longest_15 : decode cX10_longest 15 = .ok (.aload_n 0, 1) := by decide +kernel
theorem dX10_longest_16 : decode cX10_longest 16 = .ok (.getfield 50, 3) := by decide +kernel
theorem dX10_longest_19 : decode cX10_longest 19 = .ok (.iload_n 1, 1) := by decide +kernel
theorem dX10_longest_20 : decode cX10_longest 20 = .ok (.iload_n 2, 1) := by decide +kernel
theorem dX10_longest_21 : decode cX10_longest 21 = .ok (.invokevirtual 241, 3) := by decide +kernel
theorem dX10_longest_24 : decode cX10_longest 24 = .ok (.goto 5, 3) := by decide +kernel
theorem dX10_longest_27 : decode cX10_longest 27 = .ok (.bipush (-2), 2) := by decide +kernel
theorem dX10_longest_29 : decode cX10_longest 29 = .ok (.ireturn, 1) := by decide +kernel
theorem dX10_pull_0 : decode cX10_pull 0 = .ok (.aload_n 0, 1) := by decide +kernel
theorem dX10_pull_1 : decode cX10_pull 1 = .ok (.iload_n 1, 1) := by decide +kernel
theorem dX10_pull_2 : decode cX10_pull 2 = .ok (.invokevirtual 135, 3) := by decide +kernel
theorem dX10_pull_5 : decode cX10_pull 5 = .ok (.ifCond .eq 31, 3) := by decide +kernel
theorem dX10_pull_8 : decode cX10_pull 8 = .ok (.aload_n 0, 1) := by decide +kernel
theorem dX10_pull_9 : decode cX10_pull 9 = .ok (.iload_n 2, 1) := by decide +kernel
theorem dX10_pull_10 : decode cX10_pull 10 = .ok (.invokevirtual 161, 3) := by decide +kernel
theorem dX10_pull_13 : decode cX10_pull 13 = .ok (.ifCond .eq 23, 3) := by decide +kernel
theorem dX10_pull_16 : decode cX10_pull 16 = .ok (.aload_n 0, 1) := by decide +kernel
theorem dX10_pull_17 : decode cX10_pull 17 = .ok (.getfield 38, 3) := by decide +kernel
theorem dX10_pull_20 : decode cX10_pull 20 = .ok (.iload_n 1, 1) := by decide +kernel
theorem dX10_pull_21 : decode cX10_pull 21 = .ok (.aload_n 0, 1) := by decide +kernel
theorem dX10_pull_22 : decode cX10_pull 22 = .ok (.getfield 38, 3) := by decide +kernel
theorem dX10_pull_25 : decode cX10_pull 25 = .ok (.getfield 244, 3) := by decide +kernel
theorem dX10_pull_28 : decode cX10_pull 28 = .ok (.iload_n 2, 1) := by decide +kernel
theorem dX10_pull_29 : decode cX10_pull 29 = .ok (.iaload, 1) := by decide +kernel
theorem dX10_pull_30 : decode cX10_pull 30 = .ok (.invokevirtual 247, 3) := by decide +kernel
theorem dX10_pull_33 : decode cX10_pull 33 = .ok (.goto 6, 3) := by decide +kernel
theorem dX10_pull_36 : decode cX10_pull 36 = .ok (.sipush (-1000), 3) := by decide +kernel
theorem dX10_pull_39 : decode cX10_pull 39 = .ok (.ireturn, 1) := by decide +kernel
theorem dX10_tied_0 : decode cX10_tied 0 = .ok (.aload_n 0, 1) := by decide +kernel
theorem dX10_tied_1 : decode cX10_tied 1 = .ok (.iload_n 1, 1) := by decide +kernel
theorem dX10_tied_2 : decode cX10_tied 2 = .ok (.invokevirtual 161, 3) := by decide +kernel
theorem dX10_tied_5 : decode cX10_tied 5 = .ok (.ifCond .eq 14, 3) := by decide +kernel
theorem dX10_tied_8 : decode cX10_tied 8 = .ok (.aload_n 0, 1) := by decide +kernel
theorem dX10_tied_9 : decode cX10_tied 9 = .ok (.getfield 50, 3) := by decide +kernel
theorem dX10_tied_12 : decode cX10_tied 12 = .ok (.iload_n 1, 1) := by decide +kernel
theorem dX10_tied_13 : decode cX10_tied 13 = .ok (.invokevirtual 250, 3) := by decide +kernel
theorem dX10_tied_16 : decode cX10_tied 16 = .ok (.goto 5, 3) := by decide +kernel
theorem dX10_tied_19 : decode cX10_tied 19 = .ok (.bipush (-2), 2) := by decide +kernel
theorem dX10_tied_21 : decode cX10_tied 21 = .ok (.ireturn, 1) := by decide +kernel
theorem dX10_since_0 : decode cX10_since 0 = .ok (.aload_n 0, 1) := by decide +kernel
theorem dX10_since_1 : decode cX10_since 1 = .ok (.iload_n 1, 1) := by decide +kernel
theorem dX10_since_2 : decode cX10_since 2 = .ok (.invokevirtual 135, 3) := by decide +kernel
theorem dX10_since_5 : decode cX10_since 5 = .ok (.ifCond .eq 14, 3) := by decide +kernel
theorem dX10_since_8 : decode cX10_since 8 = .ok (.aload_n 0, 1) := by decide +kernel
theorem dX10_since_9 : decode cX10_since 9 = .ok (.getfield 50, 3) := by decide +kernel
theorem dX10_since_12 : decode cX10_since 12 = .ok (.iload_n 1, 1) := by decide +kernel
theorem dX10_since_13 : decode cX10_since 13 = .ok (.invokevirtual 253, 3) := by decide +kernel
theorem dX10_since_16 : decode cX10_since 16 = .ok (.goto 5, 3) := by decide +kernel
theorem dX10_since_19 : decode cX10_since 19 = .ok (.bipush (-2), 2) := by decide +kernel
theorem dX10_since_21 : decode cX10_since 21 = .ok (.ireturn, 1) := by decide +kernel
theorem dX10_held_0 : decode cX10_held 0 = .ok (.aload_n 0, 1) := by decide +kernel
theorem dX10_held_1 : decode cX10_held 1 = .ok (.iload_n 1, 1) := by decide +kernel
theorem dX10_held_2 : decode cX10_held 2 = .ok (.invokevirtual 135, 3) := by decide +kernel
theorem dX10_held_5 : decode cX10_held 5 = .ok (.ifCond .eq 14, 3) := by decide +kernel
theorem dX10_held_8 : decode cX10_held 8 = .ok (.aload_n 0, 1) := by decide +kernel
theorem dX10_held_9 : decode cX10_held 9 = .ok (.getfield 50, 3) := by decide +kernel
theorem dX10_held_12 : decode cX10_held 12 = .ok (.iload_n 1, 1) := by decide +kernel
theorem dX10_held_13 : decode cX10_held 13 = .ok (.invokevirtual 256, 3) := by decide +kernel
theorem dX10_held_16 : decode cX10_held 16 = .ok (.goto 5, 3) := by decide +kernel
theorem dX10_held_19 : decode cX10_held 19 = .ok (.bipush (-2), 2) := by decide +kernel
theorem dX10_held_21 : decode cX10_held 21 = .ok (.ireturn, 1) := by decide +kernel
theorem dX10_hush_0 : decode cX10_hush 0 = .ok (.aload_n 0, 1) := by decide +kernel
theorem dX10_hush_1 : decode cX10_hush 1 = .ok (.iload_n 1, 1) := by decide +kernel
theorem dX10_hush_2 : decode cX10_hush 2 = .ok (.invokevirtual 161, 3) := by decide +kernel
theorem dX10_hush_5 : decode cX10_hush 5 = .ok (.ifCond .eq 14, 3) := by decide +kernel
theorem dX10_hush_8 : decode cX10_hush 8 = .ok (.aload_n 0, 1) := by decide +kernel
theorem dX10_hush_9 : decode cX10_hush 9 = .ok (.getfield 50, 3) := by decide +kernel
theorem dX10_hush_12 : decode cX10_hush 12 = .ok (.iload_n 1, 1) := by decide +kernel
theorem dX10_hush_13 : decode cX10_hush 13 = .ok (.invokevirtual 259, 3) := by decide +kernel
theorem dX10_hush_16 : decode cX10_hush 16 = .ok (.goto 5, 3) := by decide +kernel
theorem dX10_hush_19 : decode cX10_hush 19 = .ok (.bipush (-2), 2) := by decide +kernel
theorem dX10_hush_21 : decode cX10_hush 21 = .ok (.ireturn, 1) := by decide +kernel
theorem dX10_lonely_0 : decode cX10_lonely 0 = .ok (.aload_n 0, 1) := by decide +kernel
theorem dX10_lonely_1 : decode cX10_lonely 1 = .ok (.iload_n 1, 1) := by decide +kernel
theorem dX10_lonely_2 : decode cX10_lonely 2 = .ok (.invokevirtual 161, 3) := by decide +kernel
theorem dX10_lonely_5 : decode cX10_lonely 5 = .ok (.ifCond .eq 14, 3) := by decide +kernel
theorem dX10_lonely_8 : decode cX10_lonely 8 = .ok (.aload_n 0, 1) := by decide +kernel
theorem dX10_lonely_9 : decode cX10_lonely 9 = .ok (.getfield 50, 3) := by decide +kernel
theorem dX10_lonely_12 : decode cX10_lonely 12 = .ok (.iload_n 1, 1) := by decide +kernel
theorem dX10_lonely_13 : decode cX10_lonely 13 = .ok (.invokevirtual 262, 3) := by decide +kernel
theorem dX10_lonely_16 : decode cX10_lonely 16 = .ok (.goto 5, 3) := by decide +kernel
theorem dX10_lonely_19 : decode cX10_lonely 19 = .ok (.bipush (-2), 2) := by decide +kernel
theorem dX10_lonely_21 : decode cX10_lonely 21 = .ok (.ireturn, 1) := by decide +kernel
theorem dX10_quarrels_0 : decode cX10_quarrels 0 = .ok (.aload_n 0, 1) := by decide +kernel
theorem dX10_quarrels_1 : decode cX10_quarrels 1 = .ok (.iload_n 1, 1) := by decide +kernel
theorem dX10_quarrels_2 : decode cX10_quarrels 2 = .ok (.invokevirtual 161, 3) := by decide +kernel
theorem dX10_quarrels_5 : decode cX10_quarrels 5 = .ok (.ifCond .eq 14, 3) := by decide +kernel
theorem dX10_quarrels_8 : decode cX10_quarrels 8 = .ok (.aload_n 0, 1) := by decide +kernel
theorem dX10_quarrels_9 : decode cX10_quarrels 9 = .ok (.getfield 50, 3) := by decide +kernel
theorem dX10_quarrels_12 : decode cX10_quarrels 12 = .ok (.iload_n 1, 1) := by decide +kernel
theorem dX10_quarrels_13 : decode cX10_quarrels 13 = .ok (.invokevirtual 265, 3) := by decide +kernel
theorem dX10_quarrels_16 : decode cX10_quarrels 16 = .ok (.goto 5, 3) := by decide +kernel
theorem dX10_quarrels_19 : decode cX10_quarrels 19 = .ok (.bipush (-2), 2) := by decide +kernel
theorem dX10_quarrels_21 : decode cX10_quarrels 21 = .ok (.ireturn, 1) := by decide +kernel
theorem dX10_never_0 : decode cX10_never 0 = .ok (.aload_n 0, 1) := by decide +kernel
theorem dX10_never_1 : decode cX10_never 1 = .ok (.invokevirtual 196, 3) := by decide +kernel
theorem dX10_never_4 : decode cX10_never 4 = .ok (.ifCond .eq 21, 3) := by decide +kernel
theorem dX10_never_7 : decode cX10_never 7 = .ok (.iload_n 1, 1) := by decide +kernel
theorem dX10_never_8 : decode cX10_never 8 = .ok (.invokestatic 184, 3) := by decide +kernel
theorem dX10_never_11 : decode cX10_never 11 = .ok (.ifCond .eq 14, 3) := by decide +kernel
theorem dX10_never_14 : decode cX10_never 14 = .ok (.aload_n 0, 1) := by decide +kernel
theorem dX10_never_15 : decode cX10_never 15 = .ok (.getfield 50, 3) := by decide +kernel
theorem dX10_never_18 : decode cX10_never 18 = .ok (.iload_n 1, 1) := by decide +kernel
theorem dX10_never_19 : decode cX10_never 19 = .ok (.invokevirtual 268, 3) := by decide +kernel
theorem dX10_never_22 : decode cX10_never 22 = .ok (.goto 5, 3) := by decide +kernel
theorem dX10_never_25 : decode cX10_never 25 = .ok (.bipush (-2), 2) := by decide +kernel
theorem dX10_never_27 : decode cX10_never 27 = .ok (.ireturn, 1) := by decide +kernel
theorem dX10_most_0 : decode cX10_most 0 = .ok (.aload_n 0, 1) := by decide +kernel
theorem dX10_most_1 : decode cX10_most 1 = .ok (.invokevirtual 196, 3) := by decide +kernel
theorem dX10_most_4 : decode cX10_most 4 = .ok (.ifCond .eq 21, 3) := by decide +kernel
theorem dX10_most_7 : decode cX10_most 7 = .ok (.iload_n 1, 1) := by decide +kernel
theorem dX10_most_8 : decode cX10_most 8 = .ok (.invokestatic 184, 3) := by decide +kernel
theorem dX10_most_11 : decode cX10_most 11 = .ok (.ifCond .eq 14, 3) := by decide +kernel
theorem dX10_most_14 : decode cX10_most 14 = .ok (.aload_n 0, 1) := by decide +kernel
theorem dX10_most_15 : decode cX10_most 15 = .ok (.getfield 50, 3) := by decide +kernel
theorem dX10_most_18 : decode cX10_most 18 = .ok (.iload_n 1, 1) := by decide +kernel
theorem dX10_most_19 : decode cX10_most 19 = .ok (.invokevirtual 271, 3) := by decide +kernel
theorem dX10_most_22 : decode cX10_most 22 = .ok (.goto 5, 3) := by decide +kernel
theorem dX10_most_25 : decode cX10_most 25 = .ok (.bipush (-2), 2) := by decide +kernel
theorem dX10_most_27 : decode cX10_most 27 = .ok (.ireturn, 1) := by decide +kernel
theorem dX10_fewest_0 : decode cX10_fewest 0 = .ok (.aload_n 0, 1) := by decide +kernel
theorem dX10_fewest_1 : decode cX10_fewest 1 = .ok (.invokevirtual 196, 3) := by decide +kernel
theorem dX10_fewest_4 : decode cX10_fewest 4 = .ok (.ifCond .eq 10, 3) := by decide +kernel
theorem dX10_fewest_7 : decode cX10_fewest 7 = .ok (.iload_n 1, 1) := by decide +kernel
theorem dX10_fewest_8 : decode cX10_fewest 8 = .ok (.invokestatic 184, 3) := by decide +kernel
theorem dX10_fewest_11 : decode cX10_fewest 11 = .ok (.ifCond .ne 6, 3) := by decide +kernel
theorem dX10_fewest_14 : decode cX10_fewest 14 = .ok (.bipush (-2), 2) := by decide +kernel
theorem dX10_fewest_16 : decode cX10_fewest 16 = .ok (.ireturn, 1) := by decide +kernel
theorem dX10_fewest_17 : decode cX10_fewest 17 = .ok (.aload_n 0, 1) := by decide +kernel
theorem dX10_fewest_18 : decode cX10_fewest 18 = .ok (.getfield 57, 3) := by decide +kernel
theorem dX10_fewest_21 : decode cX10_fewest 21 = .ok (.iload_n 1, 1) := by decide +kernel
theorem dX10_fewest_22 : decode cX10_fewest 22 = .ok (.invokevirtual 274, 3) := by decide +kernel
theorem dX10_fewest_25 : decode cX10_fewest 25 = .ok (.istore_n 2, 1) := by decide +kernel
theorem dX10_fewest_26 : decode cX10_fewest 26 = .ok (.iload_n 2, 1) := by decide +kernel
theorem dX10_fewest_27 : decode cX10_fewest 27 = .ok (.iconst (-1), 1) := by decide +kernel
theorem dX10_fewest_28 : decode cX10_fewest 28 = .ok (.if_icmp .ne 7, 3) := by decide +kernel
theorem dX10_fewest_31 : decode cX10_fewest 31 = .ok (.iconst (-1), 1) := by decide +kernel
theorem dX10_fewest_32 : decode cX10_fewest 32 = .ok (.goto 7, 3) := by decide +kernel
theorem dX10_fewest_35 : decode cX10_fewest 35 = .ok (.iload_n 2, 1) := by decide +kernel
theorem dX10_fewest_36 : decode cX10_fewest 36 = .ok (.invokestatic 277, 3) := by decide +kernel
theorem dX10_fewest_39 : decode cX10_fewest 39 = .ok (.ireturn, 1) := by decide +kernel
theorem dX10_tell_0 : decode cX10_tell 0 = .ok (.aload_n 0, 1) := by decide +kernel
theorem dX10_tell_1 : decode cX10_tell 1 = .ok (.invokevirtual 196, 3) := by decide +kernel
theorem dX10_tell_4 : decode cX10_tell 4 = .ok (.ifCond .eq 21, 3) := by decide +kernel
theorem dX10_tell_7 : decode cX10_tell 7 = .ok (.iload_n 1, 1) := by decide +kernel
theorem dX10_tell_8 : decode cX10_tell 8 = .ok (.invokestatic 184, 3) := by decide +kernel
theorem dX10_tell_11 : decode cX10_tell 11 = .ok (.ifCond .eq 14, 3) := by decide +kernel
theorem dX10_tell_14 : decode cX10_tell 14 = .ok (.aload_n 0, 1) := by decide +kernel
theorem dX10_tell_15 : decode cX10_tell 15 = .ok (.getfield 57, 3) := by decide +kernel
theorem dX10_tell_18 : decode cX10_tell 18 = .ok (.iload_n 1, 1) := by decide +kernel
theorem dX10_tell_19 : decode cX10_tell 19 = .ok (.invokevirtual 274, 3) := by decide +kernel
theorem dX10_tell_22 : decode cX10_tell 22 = .ok (.goto 5, 3) := by decide +kernel
theorem dX10_tell_25 : decode cX10_tell 25 = .ok (.bipush (-2), 2) := by decide +kernel
theorem dX10_tell_27 : decode cX10_tell 27 = .ok (.ireturn, 1) := by decide +kernel
theorem dX10_brings_0 : decode cX10_brings 0 = .ok (.aload_n 0, 1) := by decide +kernel
theorem dX10_brings_1 : decode cX10_brings 1 = .ok (.invokevirtual 196, 3) := by decide +kernel
theorem dX10_brings_4 : decode cX10_brings 4 = .ok (.ifCond .eq 28, 3) := by decide +kernel
theorem dX10_brings_7 : decode cX10_brings 7 = .ok (.iload_n 1, 1) := by decide +kernel
theorem dX10_brings_8 : decode cX10_brings 8 = .ok (.invokestatic 184, 3) := by decide +kernel
theorem dX10_brings_11 : decode cX10_brings 11 = .ok (.ifCond .eq 21, 3) := by decide +kernel
theorem dX10_brings_14 : decode cX10_brings 14 = .ok (.iload_n 2, 1) := by decide +kernel
theorem dX10_brings_15 : decode cX10_brings 15 = .ok (.aload_n 0, 1) := by decide +kernel
theorem dX10_brings_16 : decode cX10_brings 16 = .ok (.getfield 23, 3) := by decide +kernel
theorem dX10_brings_19 : decode cX10_brings 19 = .ok (.invokevirtual 224, 3) := by decide +kernel
theorem dX10_brings_22 : decode cX10_brings 22 = .ok (.iconst (-1), 1) := by decide +kernel
theorem dX10_brings_23 : decode cX10_brings 23 = .ok (.ixor, 1) := by decide +kernel
theorem dX10_brings_24 : decode cX10_brings 24 = .ok (.iand, 1) := by decide +kernel
theorem dX10_brings_25 : decode cX10_brings 25 = .ok (.ifCond .ne 7, 3) := by decide +kernel
theorem dX10_brings_28 : decode cX10_brings 28 = .ok (.iconst 1, 1) := by decide +kernel
theorem dX10_brings_29 : decode cX10_brings 29 = .ok (.goto 4, 3) := by decide +kernel
theorem dX10_brings_32 : decode cX10_brings 32 = .ok (.iconst 0, 1) := by decide +kernel
theorem dX10_brings_33 : decode cX10_brings 33 = .ok (.istore_n 3, 1) := by decide +kernel
theorem dX10_brings_34 : decode cX10_brings 34 = .ok (.iload_n 3, 1) := by decide +kernel
theorem dX10_brings_35 : decode cX10_brings 35 = .ok (.ifCond .eq 18, 3) := by decide +kernel
theorem dX10_brings_38 : decode cX10_brings 38 = .ok (.aload_n 0, 1) := by decide +kernel
theorem dX10_brings_39 : decode cX10_brings 39 = .ok (.getfield 57, 3) := by decide +kernel
theorem dX10_brings_42 : decode cX10_brings 42 = .ok (.iload_n 1, 1) := by decide +kernel
theorem dX10_brings_43 : decode cX10_brings 43 = .ok (.iload_n 2, 1) := by decide +kernel
theorem dX10_brings_44 : decode cX10_brings 44 = .ok (.invokevirtual 282, 3) := by decide +kernel
theorem dX10_brings_47 : decode cX10_brings 47 = .ok (.invokestatic 277, 3) := by decide +kernel
theorem dX10_brings_50 : decode cX10_brings 50 = .ok (.goto 5, 3) := by decide +kernel
theorem dX10_brings_53 : decode cX10_brings 53 = .ok (.bipush (-2), 2) := by decide +kernel
theorem dX10_brings_55 : decode cX10_brings 55 = .ok (.ireturn, 1) := by decide +kernel
theorem dX10_loud_0 : decode cX10_loud 0 = .ok (.aload_n 0, 1) := by decide +kernel
theorem dX10_loud_1 : decode cX10_loud 1 = .ok (.invokevirtual 196, 3) := by decide +kernel
theorem dX10_loud_4 : decode cX10_loud 4 = .ok (.ifCond .eq 21, 3) := by decide +kernel
theorem dX10_loud_7 : decode cX10_loud 7 = .ok (.iload_n 1, 1) := by decide +kernel
theorem dX10_loud_8 : decode cX10_loud 8 = .ok (.invokestatic 184, 3) := by decide +kernel
theorem dX10_loud_11 : decode cX10_loud 11 = .ok (.ifCond .eq 14, 3) := by decide +kernel
theorem dX10_loud_14 : decode cX10_loud 14 = .ok (.aload_n 0, 1) := by decide +kernel
theorem dX10_loud_15 : decode cX10_loud 15 = .ok (.getfield 57, 3) := by decide +kernel
theorem dX10_loud_18 : decode cX10_loud 18 = .ok (.iload_n 1, 1) := by decide +kernel
theorem dX10_loud_19 : decode cX10_loud 19 = .ok (.invokevirtual 285, 3) := by decide +kernel
theorem dX10_loud_22 : decode cX10_loud 22 = .ok (.goto 5, 3) := by decide +kernel
theorem dX10_loud_25 : decode cX10_loud 25 = .ok (.bipush (-2), 2) := by decide +kernel
theorem dX10_loud_27 : decode cX10_loud 27 = .ok (.ireturn, 1) := by decide +kernel
theorem dX10_firm_0 : decode cX10_firm 0 = .ok (.aload_n 0, 1) := by decide +kernel
theorem dX10_firm_1 : decode cX10_firm 1 = .ok (.invokevirtual 196, 3) := by decide +kernel
theorem dX10_firm_4 : decode cX10_firm 4 = .ok (.ifCond .eq 21, 3) := by decide +kernel
theorem dX10_firm_7 : decode cX10_firm 7 = .ok (.iload_n 1, 1) := by decide +kernel
theorem dX10_firm_8 : decode cX10_firm 8 = .ok (.invokestatic 184, 3) := by decide +kernel
theorem dX10_firm_11 : decode cX10_firm 11 = .ok (.ifCond .eq 14, 3) := by decide +kernel
theorem dX10_firm_14 : decode cX10_firm 14 = .ok (.aload_n 0, 1) := by decide +kernel
theorem dX10_firm_15 : decode cX10_firm 15 = .ok (.getfield 57, 3) := by decide +kernel
theorem dX10_firm_18 : decode cX10_firm 18 = .ok (.iload_n 1, 1) := by decide +kernel
theorem dX10_firm_19 : decode cX10_firm 19 = .ok (.invokevirtual 288, 3) := by decide +kernel
theorem dX10_firm_22 : decode cX10_firm 22 = .ok (.goto 5, 3) := by decide +kernel
theorem dX10_firm_25 : decode cX10_firm 25 = .ok (.bipush (-2), 2) := by decide +kernel
theorem dX10_firm_27 : decode cX10_firm 27 = .ok (.ireturn, 1) := by decide +kernel
theorem dX10_share_0 : decode cX10_share 0 = .ok (.aload_n 0, 1) := by decide +kernel
theorem dX10_share_1 : decode cX10_share 1 = .ok (.iload_n 1, 1) := by decide +kernel
theorem dX10_share_2 : decode cX10_share 2 = .ok (.invokevirtual 135, 3) := by decide +kernel
theorem dX10_share_5 : decode cX10_share 5 = .ok (.ifCond .eq 17, 3) := by decide +kernel
theorem dX10_share_8 : decode cX10_share 8 = .ok (.iload_n 2, 1) := by decide +kernel
theorem dX10_share_9 : decode cX10_share 9 = .ok (.invokestatic 184, 3) := by decide +kernel
theorem dX10_share_12 : decode cX10_share 12 = .ok (.ifCond .eq 10, 3) := by decide +kernel
theorem dX10_share_15 : decode cX10_share 15 = .ok (.iload_n 3, 1) := by decide +kernel
theorem dX10_share_16 : decode cX10_share 16 = .ok (.invokestatic 291, 3) := by decide +kernel
theorem dX10_share_19 : decode cX10_share 19 = .ok (.ifCond .ne 7, 3) := by decide +kernel
theorem dX10_share_22 : decode cX10_share 22 = .ok (.ldc2_w 294, 3) := by decide +kernel
theorem dX10_share_25 : decode cX10_share 25 = .ok (.lreturn, 1) := by decide +kernel
theorem dX10_share_26 : decode cX10_share 26 = .ok (.aload_n 0, 1) := by decide +kernel
theorem dX10_share_27 : decode cX10_share 27 = .ok (.getfield 23, 3) := by decide +kernel
theorem dX10_share_30 : decode cX10_share 30 = .ok (.getfield 296, 3) := by decide +kernel
theorem dX10_share_33 : decode cX10_share 33 = .ok (.bipush 8, 2) := by decide +kernel
theorem dX10_share_35 : decode cX10_share 35 = .ok (.if_icmp .le 7, 3) := by decide +kernel
theorem dX10_share_38 : decode cX10_share 38 = .ok (.ldc2_w 299, 3) := by decide +kernel
theorem dX10_share_41 : decode cX10_share 41 = .ok (.lreturn, 1) := by decide +kernel
theorem dX10_share_42 : decode cX10_share 42 = .ok (.aload_n 0, 1) := by decide +kernel
theorem dX10_share_43 : decode cX10_share 43 = .ok (.getfield 57, 3) := by decide +kernel
theorem dX10_share_46 : decode cX10_share 46 = .ok (.iload_n 1, 1) := by decide +kernel
theorem dX10_share_47 : decode cX10_share 47 = .ok (.iload_n 2, 1) := by decide +kernel
theorem dX10_share_48 : decode cX10_share 48 = .ok (.invokevirtual 301, 3) := by decide +kernel
theorem dX10_share_51 : decode cX10_share 51 = .ok (.aload_n 0, 1) := by decide +kernel
theorem dX10_share_52 : decode cX10_share 52 = .ok (.getfield 23, 3) := by decide +kernel
theorem dX10_share_55 : decode cX10_share 55 = .ok (.getfield 296, 3) := by decide +kernel
theorem dX10_share_58 : decode cX10_share 58 = .ok (.invokestatic 305, 3) := by decide +kernel
theorem dX10_share_61 : decode cX10_share 61 = .ok (.iload_n 3, 1) := by decide +kernel
theorem dX10_share_62 : decode cX10_share 62 = .ok (.invokestatic 309, 3) := by decide +kernel
theorem dX10_share_65 : decode cX10_share 65 = .ok (.lreturn, 1) := by decide +kernel
theorem dX10_sample_0 : decode cX10_sample 0 = .ok (.aload_n 0, 1) := by decide +kernel
theorem dX10_sample_1 : decode cX10_sample 1 = .ok (.iload_n 1, 1) := by decide +kernel
theorem dX10_sample_2 : decode cX10_sample 2 = .ok (.invokevirtual 161, 3) := by decide +kernel
theorem dX10_sample_5 : decode cX10_sample 5 = .ok (.ifCond .eq 31, 3) := by decide +kernel
theorem dX10_sample_8 : decode cX10_sample 8 = .ok (.iload_n 3, 1) := by decide +kernel
theorem dX10_sample_9 : decode cX10_sample 9 = .ok (.invokestatic 291, 3) := by decide +kernel
theorem dX10_sample_12 : decode cX10_sample 12 = .ok (.ifCond .eq 24, 3) := by decide +kernel
theorem dX10_sample_15 : decode cX10_sample 15 = .ok (.iload_n 2, 1) := by decide +kernel
theorem dX10_sample_16 : decode cX10_sample 16 = .ok (.iconst 1, 1) := by decide +kernel
theorem dX10_sample_17 : decode cX10_sample 17 = .ok (.if_icmp .lt 19, 3) := by decide +kernel
theorem dX10_sample_20 : decode cX10_sample 20 = .ok (.iload_n 2, 1) := by decide +kernel
theorem dX10_sample_21 : decode cX10_sample 21 = .ok (.aload_n 0, 1) := by decide +kernel
theorem dX10_sample_22 : decode cX10_sample 22 = .ok (.getfield 50, 3) := by decide +kernel
theorem dX10_sample_25 : decode cX10_sample 25 = .ok (.iload_n 1, 1) := by decide +kernel
theorem dX10_sample_26 : decode cX10_sample 26 = .ok (.invokevirtual 313, 3) := by decide +kernel
theorem dX10_sample_29 : decode cX10_sample 29 = .ok (.if_icmp .gt 7, 3) := by decide +kernel
theorem dX10_sample_32 : decode cX10_sample 32 = .ok (.iconst 1, 1) := by decide +kernel
theorem dX10_sample_33 : decode cX10_sample 33 = .ok (.goto 4, 3) := by decide +kernel
theorem dX10_sample_36 : decode cX10_sample 36 = .ok (.iconst 0, 1) := by decide +kernel
theorem dX10_sample_37 : decode cX10_sample 37 = .ok (.istore 4, 2) := by decide +kernel
theorem dX10_sample_39 : decode cX10_sample 39 = .ok (.iload 4, 2) := by decide +kernel
theorem dX10_sample_41 : decode cX10_sample 41 = .ok (.ifCond .eq 31, 3) := by decide +kernel
theorem dX10_sample_44 : decode cX10_sample 44 = .ok (.aload_n 0, 1) := by decide +kernel
theorem dX10_sample_45 : decode cX10_sample 45 = .ok (.getfield 50, 3) := by decide +kernel
theorem dX10_sample_48 : decode cX10_sample 48 = .ok (.iload_n 1, 1) := by decide +kernel
theorem dX10_sample_49 : decode cX10_sample 49 = .ok (.iload_n 2, 1) := by decide +kernel
theorem dX10_sample_50 : decode cX10_sample 50 = .ok (.invokevirtual 316, 3) := by decide +kernel
theorem dX10_sample_53 : decode cX10_sample 53 = .ok (.aload_n 0, 1) := by decide +kernel
theorem dX10_sample_54 : decode cX10_sample 54 = .ok (.getfield 50, 3) := by decide +kernel
theorem dX10_sample_57 : decode cX10_sample 57 = .ok (.iload_n 1, 1) := by decide +kernel
theorem dX10_sample_58 : decode cX10_sample 58 = .ok (.invokevirtual 313, 3) := by decide +kernel
theorem dX10_sample_61 : decode cX10_sample 61 = .ok (.iload_n 2, 1) := by decide +kernel
theorem dX10_sample_62 : decode cX10_sample 62 = .ok (.invokestatic 319, 3) := by decide +kernel
theorem dX10_sample_65 : decode cX10_sample 65 = .ok (.iload_n 3, 1) := by decide +kernel
theorem dX10_sample_66 : decode cX10_sample 66 = .ok (.invokestatic 309, 3) := by decide +kernel
theorem dX10_sample_69 : decode cX10_sample 69 = .ok (.goto 6, 3) := by decide +kernel
theorem dX10_sample_72 : decode cX10_sample 72 = .ok (.ldc2_w 294, 3) := by decide +kernel
theorem dX10_sample_75 : decode cX10_sample 75 = .ok (.lreturn, 1) := by decide +kernel
theorem dX10_sure_0 : decode cX10_sure 0 = .ok (.aload_n 0, 1) := by decide +kernel
theorem dX10_sure_1 : decode cX10_sure 1 = .ok (.iload_n 1, 1) := by decide +kernel
theorem dX10_sure_2 : decode cX10_sure 2 = .ok (.invokevirtual 161, 3) := by decide +kernel
theorem dX10_sure_5 : decode cX10_sure 5 = .ok (.ifCond .eq 14, 3) := by decide +kernel
theorem dX10_sure_8 : decode cX10_sure 8 = .ok (.aload_n 0, 1) := by decide +kernel
theorem dX10_sure_9 : decode cX10_sure 9 = .ok (.getfield 50, 3) := by decide +kernel
theorem dX10_sure_12 : decode cX10_sure 12 = .ok (.iload_n 1, 1) := by decide +kernel
theorem dX10_sure_13 : decode cX10_sure 13 = .ok (.invokevirtual 322, 3) := by decide +kernel
theorem dX10_sure_16 : decode cX10_sure 16 = .ok (.goto 5, 3) := by decide +kernel
theorem dX10_sure_19 : decode cX10_sure 19 = .ok (.bipush (-2), 2) := by decide +kernel
theorem dX10_sure_21 : decode cX10_sure 21 = .ok (.ireturn, 1) := by decide +kernel
theorem dX10_worth_0 : decode cX10_worth 0 = .ok (.aload_n 0, 1) := by decide +kernel
theorem dX10_worth_1 : decode cX10_worth 1 = .ok (.getfield 23, 3) := by decide +kernel
theorem dX10_worth_4 : decode cX10_worth 4 = .ok (.getfield 296, 3) := by decide +kernel
theorem dX10_worth_7 : decode cX10_worth 7 = .ok (.ifCond .ne 7, 3) := by decide +kernel
theorem dX10_worth_10 : decode cX10_worth 10 = .ok (.sipush (-1000), 3) := by decide +kernel
theorem dX10_worth_13 : decode cX10_worth 13 = .ok (.ireturn, 1) := by decide +kernel
theorem dX10_worth_14 : decode cX10_worth 14 = .ok (.aload_n 0, 1) := by decide +kernel
theorem dX10_worth_15 : decode cX10_worth 15 = .ok (.getfield 66, 3) := by decide +kernel
theorem dX10_worth_18 : decode cX10_worth 18 = .ok (.invokevirtual 325, 3) := by decide +kernel
theorem dX10_worth_21 : decode cX10_worth 21 = .ok (.aload_n 0, 1) := by decide +kernel
theorem dX10_worth_22 : decode cX10_worth 22 = .ok (.getfield 66, 3) := by decide +kernel
theorem dX10_worth_25 : decode cX10_worth 25 = .ok (.getfield 328, 3) := by decide +kernel
theorem dX10_worth_28 : decode cX10_worth 28 = .ok (.ireturn, 1) := by decide +kernel
theorem dX10_opens_0 : decode cX10_opens 0 = .ok (.aload_n 0, 1) := by decide +kernel
theorem dX10_opens_1 : decode cX10_opens 1 = .ok (.invokevirtual 196, 3) := by decide +kernel
theorem dX10_opens_4 : decode cX10_opens 4 = .ok (.ifCond .ne 6, 3) := by decide +kernel
theorem dX10_opens_7 : decode cX10_opens 7 = .ok (.bipush (-2), 2) := by decide +kernel
theorem dX10_opens_9 : decode cX10_opens 9 = .ok (.ireturn, 1) := by decide +kernel
theorem dX10_opens_10 : decode cX10_opens 10 = .ok (.aload_n 0, 1) := by decide +kernel
theorem dX10_opens_11 : decode cX10_opens 11 = .ok (.getfield 66, 3) := by decide +kernel
theorem dX10_opens_14 : decode cX10_opens 14 = .ok (.invokevirtual 325, 3) := by decide +kernel
theorem dX10_opens_17 : decode cX10_opens 17 = .ok (.aload_n 0, 1) := by decide +kernel
theorem dX10_opens_18 : decode cX10_opens 18 = .ok (.getfield 66, 3) := by decide +kernel
theorem dX10_opens_21 : decode cX10_opens 21 = .ok (.getfield 331, 3) := by decide +kernel
theorem dX10_opens_24 : decode cX10_opens 24 = .ok (.ireturn, 1) := by decide +kernel
theorem dX10_replies_0 : decode cX10_replies 0 = .ok (.aload_n 0, 1) := by decide +kernel
theorem dX10_replies_1 : decode cX10_replies 1 = .ok (.iload_n 1, 1) := by decide +kernel
theorem dX10_replies_2 : decode cX10_replies 2 = .ok (.invokevirtual 135, 3) := by decide +kernel
theorem dX10_replies_5 : decode cX10_replies 5 = .ok (.ifCond .eq 14, 3) := by decide +kernel
theorem dX10_replies_8 : decode cX10_replies 8 = .ok (.aload_n 0, 1) := by decide +kernel
theorem dX10_replies_9 : decode cX10_replies 9 = .ok (.getfield 66, 3) := by decide +kernel
theorem dX10_replies_12 : decode cX10_replies 12 = .ok (.iload_n 1, 1) := by decide +kernel
theorem dX10_replies_13 : decode cX10_replies 13 = .ok (.invokevirtual 334, 3) := by decide +kernel
theorem dX10_replies_16 : decode cX10_replies 16 = .ok (.goto 5, 3) := by decide +kernel
theorem dX10_replies_19 : decode cX10_replies 19 = .ok (.bipush (-2), 2) := by decide +kernel
theorem dX10_replies_21 : decode cX10_replies 21 = .ok (.ireturn, 1) := by decide +kernel
theorem dX10_whom_0 : decode cX10_whom 0 = .ok (.iload_n 2, 1) := by decide +kernel
theorem dX10_whom_1 : decode cX10_whom 1 = .ok (.invokestatic 184, 3) := by decide +kernel
theorem dX10_whom_4 : decode cX10_whom 4 = .ok (.ifCond .eq 11, 3) := by decide +kernel
theorem dX10_whom_7 : decode cX10_whom 7 = .ok (.aload_n 0, 1) := by decide +kernel
theorem dX10_whom_8 : decode cX10_whom 8 = .ok (.iload_n 1, 1) := by decide +kernel
theorem dX10_whom_9 : decode cX10_whom 9 = .ok (.invokevirtual 337, 3) := by decide +kernel
theorem dX10_whom_12 : decode cX10_whom 12 = .ok (.goto 5, 3) := by decide +kernel
theorem dX10_whom_15 : decode cX10_whom 15 = .ok (.bipush (-2), 2) := by decide +kernel
theorem dX10_whom_17 : decode cX10_whom 17 = .ok (.istore_n 3, 1) := by decide +kernel
theorem dX10_whom_18 : decode cX10_whom 18 = .ok (.iload_n 3, 1) := by decide +kernel
theorem dX10_whom_19 : decode cX10_whom 19 = .ok (.ifCond .ne 15, 3) := by decide +kernel
theorem dX10_whom_22 : decode cX10_whom 22 = .ok (.aload_n 0, 1) := by decide +kernel
theorem dX10_whom_23 : decode cX10_whom 23 = .ok (.getfield 82, 3) := by decide +kernel
theorem dX10_whom_26 : decode cX10_whom 26 = .ok (.iload_n 1, 1) := by decide +kernel
theorem dX10_whom_27 : decode cX10_whom 27 = .ok (.iload_n 2, 1) := by decide +kernel
theorem dX10_whom_28 : decode cX10_whom 28 = .ok (.invokevirtual 340, 3) := by decide +kernel
theorem dX10_whom_31 : decode cX10_whom 31 = .ok (.goto 4, 3) := by decide +kernel
theorem dX10_whom_34 : decode cX10_whom 34 = .ok (.iload_n 3, 1) := by decide +kernel
theorem dX10_whom_35 : decode cX10_whom 35 = .ok (.ireturn, 1) := by decide +kernel
theorem dX10_ask_0 : decode cX10_ask 0 = .ok (.iload_n 2, 1) := by decide +kernel
theorem dX10_ask_1 : decode cX10_ask 1 = .ok (.invokestatic 184, 3) := by decide +kernel
theorem dX10_ask_4 : decode cX10_ask 4 = .ok (.ifCond .eq 11, 3) := by decide +kernel
theorem dX10_ask_7 : decode cX10_ask 7 = .ok (.aload_n 0, 1) := by decide +kernel
theorem dX10_ask_8 : decode cX10_ask 8 = .ok (.iload_n 1, 1) := by decide +kernel
theorem dX10_ask_9 : decode cX10_ask 9 = .ok (.invokevirtual 337, 3) := by decide +kernel
theorem dX10_ask_12 : decode cX10_ask 12 = .ok (.goto 5, 3) := by decide +kernel
theorem dX10_ask_15 : decode cX10_ask 15 = .ok (.bipush (-2), 2) := by decide +kernel
theorem dX10_ask_17 : decode cX10_ask 17 = .ok (.istore_n 3, 1) := by decide +kernel
theorem dX10_ask_18 : decode cX10_ask 18 = .ok (.iload_n 3, 1) := by decide +kernel
theorem dX10_ask_19 : decode cX10_ask 19 = .ok (.ifCond .eq 5, 3) := by decide +kernel
theorem dX10_ask_22 : decode cX10_ask 22 = .ok (.iload_n 3, 1) := by decide +kernel
theorem dX10_ask_23 : decode cX10_ask 23 = .ok (.ireturn, 1) := by decide +kernel
theorem dX10_ask_24 : decode cX10_ask 24 = .ok (.aload_n 0, 1) := by decide +kernel
theorem dX10_ask_25 : decode cX10_ask 25 = .ok (.getfield 82, 3) := by decide +kernel
theorem dX10_ask_28 : decode cX10_ask 28 = .ok (.iload_n 1, 1) := by decide +kernel
theorem dX10_ask_29 : decode cX10_ask 29 = .ok (.iload_n 2, 1) := by decide +kernel
theorem dX10_ask_30 : decode cX10_ask 30 = .ok (.invokevirtual 343, 3) := by decide +kernel
theorem dX10_ask_33 : decode cX10_ask 33 = .ok (.aload_n 0, 1) := by decide +kernel
theorem dX10_ask_34 : decode cX10_ask 34 = .ok (.getfield 82, 3) := by decide +kernel
theorem dX10_ask_37 : decode cX10_ask 37 = .ok (.getfield 347, 3) := by decide +kernel
theorem dX10_ask_40 : decode cX10_ask 40 = .ok (.ireturn, 1) := by decide +kernel
theorem dX10_leaves_0 : decode cX10_leaves 0 = .ok (.iload_n 2, 1) := by decide +kernel
theorem dX10_leaves_1 : decode cX10_leaves 1 = .ok (.invokestatic 184, 3) := by decide +kernel
theorem dX10_leaves_4 : decode cX10_leaves 4 = .ok (.ifCond .eq 11, 3) := by decide +kernel
theorem dX10_leaves_7 : decode cX10_leaves 7 = .ok (.aload_n 0, 1) := by decide +kernel
theorem dX10_leaves_8 : decode cX10_leaves 8 = .ok (.iload_n 1, 1) := by decide +kernel
theorem dX10_leaves_9 : decode cX10_leaves 9 = .ok (.invokevirtual 337, 3) := by decide +kernel
theorem dX10_leaves_12 : decode cX10_leaves 12 = .ok (.goto 5, 3) := by decide +kernel
theorem dX10_leaves_15 : decode cX10_leaves 15 = .ok (.bipush (-2), 2) := by decide +kernel
theorem dX10_leaves_17 : decode cX10_leaves 17 = .ok (.istore_n 3, 1) := by decide +kernel
theorem dX10_leaves_18 : decode cX10_leaves 18 = .ok (.iload_n 3, 1) := by decide +kernel
theorem dX10_leaves_19 : decode cX10_leaves 19 = .ok (.ifCond .eq 5, 3) := by decide +kernel
theorem dX10_leaves_22 : decode cX10_leaves 22 = .ok (.iload_n 3, 1) := by decide +kernel
theorem dX10_leaves_23 : decode cX10_leaves 23 = .ok (.ireturn, 1) := by decide +kernel
theorem dX10_leaves_24 : decode cX10_leaves 24 = .ok (.aload_n 0, 1) := by decide +kernel
theorem dX10_leaves_25 : decode cX10_leaves 25 = .ok (.getfield 82, 3) := by decide +kernel
theorem dX10_leaves_28 : decode cX10_leaves 28 = .ok (.iload_n 1, 1) := by decide +kernel
theorem dX10_leaves_29 : decode cX10_leaves 29 = .ok (.iload_n 2, 1) := by decide +kernel
theorem dX10_leaves_30 : decode cX10_leaves 30 = .ok (.invokevirtual 343, 3) := by decide +kernel
theorem dX10_leaves_33 : decode cX10_leaves 33 = .ok (.aload_n 0, 1) := by decide +kernel
theorem dX10_leaves_34 : decode cX10_leaves 34 = .ok (.getfield 82, 3) := by decide +kernel
theorem dX10_leaves_37 : decode cX10_leaves 37 = .ok (.getfield 350, 3) := by decide +kernel
theorem dX10_leaves_40 : decode cX10_leaves 40 = .ok (.ireturn, 1) := by decide +kernel
theorem dX10_laws_0 : decode cX10_laws 0 = .ok (.aload_n 0, 1) := by decide +kernel
theorem dX10_laws_1 : decode cX10_laws 1 = .ok (.iload_n 1, 1) := by decide +kernel
theorem dX10_laws_2 : decode cX10_laws 2 = .ok (.invokevirtual 337, 3) := by decide +kernel
theorem dX10_laws_5 : decode cX10_laws 5 = .ok (.istore_n 2, 1) := by decide +kernel
theorem dX10_laws_6 : decode cX10_laws 6 = .ok (.iload_n 2, 1) := by decide +kernel
theorem dX10_laws_7 : decode cX10_laws 7 = .ok (.ifCond .ne 14, 3) := by decide +kernel
theorem dX10_laws_10 : decode cX10_laws 10 = .ok (.aload_n 0, 1) := by decide +kernel
theorem dX10_laws_11 : decode cX10_laws 11 = .ok (.getfield 82, 3) := by decide +kernel
theorem dX10_laws_14 : decode cX10_laws 14 = .ok (.iload_n 1, 1) := by decide +kernel
theorem dX10_laws_15 : decode cX10_laws 15 = .ok (.invokevirtual 353, 3) := by decide +kernel
theorem dX10_laws_18 : decode cX10_laws 18 = .ok (.goto 4, 3) := by decide +kernel
theorem dX10_laws_21 : decode cX10_laws 21 = .ok (.iload_n 2, 1) := by decide +kernel
theorem dX10_laws_22 : decode cX10_laws 22 = .ok (.ireturn, 1) := by decide +kernel
theorem dX10_by_0 : decode cX10_by 0 = .ok (.aload_n 0, 1) := by decide +kernel
theorem dX10_by_1 : decode cX10_by 1 = .ok (.invokevirtual 196, 3) := by decide +kernel
theorem dX10_by_4 : decode cX10_by 4 = .ok (.ifCond .eq 12, 3) := by decide +kernel
theorem dX10_by_7 : decode cX10_by 7 = .ok (.iload_n 1, 1) := by decide +kernel
theorem dX10_by_8 : decode cX10_by 8 = .ok (.ifCond .lt 8, 3) := by decide +kernel
theorem dX10_by_11 : decode cX10_by 11 = .ok (.iload_n 1, 1) := by decide +kernel
theorem dX10_by_12 : decode cX10_by 12 = .ok (.iconst 4, 1) := by decide +kernel
theorem dX10_by_13 : decode cX10_by 13 = .ok (.if_icmp .lt 6, 3) := by decide +kernel
theorem dX10_by_16 : decode cX10_by 16 = .ok (.bipush (-2), 2) := by decide +kernel
theorem dX10_by_18 : decode cX10_by 18 = .ok (.ireturn, 1) := by decide +kernel
theorem dX10_by_19 : decode cX10_by 19 = .ok (.aload_n 0, 1) := by decide +kernel
theorem dX10_by_20 : decode cX10_by 20 = .ok (.getfield 42, 3) := by decide +kernel
theorem dX10_by_23 : decode cX10_by 23 = .ok (.iload_n 1, 1) := by decide +kernel
theorem dX10_by_24 : decode cX10_by 24 = .ok (.invokevirtual 356, 3) := by decide +kernel
theorem dX10_by_27 : decode cX10_by 27 = .ok (.aload_n 0, 1) := by decide +kernel
theorem dX10_by_28 : decode cX10_by 28 = .ok (.getfield 42, 3) := by decide +kernel
theorem dX10_by_31 : decode cX10_by 31 = .ok (.invokevirtual 359, 3) := by decide +kernel
theorem dX10_by_34 : decode cX10_by 34 = .ok (.aload_n 0, 1) := by decide +kernel
theorem dX10_by_35 : decode cX10_by 35 = .ok (.getfield 42, 3) := by decide +kernel
theorem dX10_by_38 : decode cX10_by 38 = .ok (.invokevirtual 362, 3) := by decide +kernel
theorem dX10_by_41 : decode cX10_by 41 = .ok (.iconst 1, 1) := by decide +kernel
theorem dX10_by_42 : decode cX10_by 42 = .ok (.invokestatic 365, 3) := by decide +kernel
theorem dX10_by_45 : decode cX10_by 45 = .ok (.ireturn, 1) := by decide +kernel
theorem dX10_law_0 : decode cX10_law 0 = .ok (.aload_n 0, 1) := by decide +kernel
theorem dX10_law_1 : decode cX10_law 1 = .ok (.invokevirtual 196, 3) := by decide +kernel
theorem dX10_law_4 : decode cX10_law 4 = .ok (.ifCond .eq 13, 3) := by decide +kernel
theorem dX10_law_7 : decode cX10_law 7 = .ok (.aload_n 0, 1) := by decide +kernel
theorem dX10_law_8 : decode cX10_law 8 = .ok (.getfield 66, 3) := by decide +kernel
theorem dX10_law_11 : decode cX10_law 11 = .ok (.invokevirtual 368, 3) := by decide +kernel
theorem dX10_law_14 : decode cX10_law 14 = .ok (.goto 5, 3) := by decide +kernel
theorem dX10_law_17 : decode cX10_law 17 = .ok (.bipush (-2), 2) := by decide +kernel
theorem dX10_law_19 : decode cX10_law 19 = .ok (.ireturn, 1) := by decide +kernel
theorem dX10_rests_0 : decode cX10_rests 0 = .ok (.aload_n 0, 1) := by decide +kernel
theorem dX10_rests_1 : decode cX10_rests 1 = .ok (.iload_n 1, 1) := by decide +kernel
theorem dX10_rests_2 : decode cX10_rests 2 = .ok (.iload_n 2, 1) := by decide +kernel
theorem dX10_rests_3 : decode cX10_rests 3 = .ok (.invokevirtual 371, 3) := by decide +kernel
theorem dX10_rests_6 : decode cX10_rests 6 = .ok (.ifCond .eq 15, 3) := by decide +kernel
theorem dX10_rests_9 : decode cX10_rests 9 = .ok (.aload_n 0, 1) := by decide +kernel
theorem dX10_rests_10 : decode cX10_rests 10 = .ok (.getfield 66, 3) := by decide +kernel
theorem dX10_rests_13 : decode cX10_rests 13 = .ok (.iload_n 1, 1) := by decide +kernel
theorem dX10_rests_14 : decode cX10_rests 14 = .ok (.iload_n 2, 1) := by decide +kernel
theorem dX10_rests_15 : decode cX10_rests 15 = .ok (.invokevirtual 375, 3) := by decide +kernel
theorem dX10_rests_18 : decode cX10_rests 18 = .ok (.goto 5, 3) := by decide +kernel
theorem dX10_rests_21 : decode cX10_rests 21 = .ok (.bipush (-2), 2) := by decide +kernel
theorem dX10_rests_23 : decode cX10_rests 23 = .ok (.ireturn, 1) := by decide +kernel
theorem dX10_gets_0 : decode cX10_gets 0 = .ok (.aload_n 0, 1) := by decide +kernel
theorem dX10_gets_1 : decode cX10_gets 1 = .ok (.iload_n 1, 1) := by decide +kernel
theorem dX10_gets_2 : decode cX10_gets 2 = .ok (.iload_n 2, 1) := by decide +kernel
theorem dX10_gets_3 : decode cX10_gets 3 = .ok (.invokevirtual 371, 3) := by decide +kernel
theorem dX10_gets_6 : decode cX10_gets 6 = .ok (.ifCond .eq 22, 3) := by decide +kernel
theorem dX10_gets_9 : decode cX10_gets 9 = .ok (.iload_n 3, 1) := by decide +kernel
theorem dX10_gets_10 : decode cX10_gets 10 = .ok (.invokestatic 291, 3) := by decide +kernel
theorem dX10_gets_13 : decode cX10_gets 13 = .ok (.ifCond .eq 15, 3) := by decide +kernel
theorem dX10_gets_16 : decode cX10_gets 16 = .ok (.iload 4, 2) := by decide +kernel
theorem dX10_gets_18 : decode cX10_gets 18 = .ok (.invokestatic 291, 3) := by decide +kernel
theorem dX10_gets_21 : decode cX10_gets 21 = .ok (.ifCond .eq 7, 3) := by decide +kernel
theorem dX10_gets_24 : decode cX10_gets 24 = .ok (.iconst 1, 1) := by decide +kernel
theorem dX10_gets_25 : decode cX10_gets 25 = .ok (.goto 4, 3) := by decide +kernel
theorem dX10_gets_28 : decode cX10_gets 28 = .ok (.iconst 0, 1) := by decide +kernel
theorem dX10_gets_29 : decode cX10_gets 29 = .ok (.istore 5, 2) := by decide +kernel
theorem dX10_gets_31 : decode cX10_gets 31 = .ok (.iload 5, 2) := by decide +kernel
theorem dX10_gets_33 : decode cX10_gets 33 = .ok (.ifCond .eq 22, 3) := by decide +kernel
theorem dX10_gets_36 : decode cX10_gets 36 = .ok (.aload_n 0, 1) := by decide +kernel
theorem dX10_gets_37 : decode cX10_gets 37 = .ok (.getfield 66, 3) := by decide +kernel
theorem dX10_gets_40 : decode cX10_gets 40 = .ok (.iload_n 1, 1) := by decide +kernel
theorem dX10_gets_41 : decode cX10_gets 41 = .ok (.iload_n 3, 1) := by decide +kernel
theorem dX10_gets_42 : decode cX10_gets 42 = .ok (.iload_n 1, 1) := by decide +kernel
theorem dX10_gets_43 : decode cX10_gets 43 = .ok (.ishl, 1) := by decide +kernel
theorem dX10_gets_44 : decode cX10_gets 44 = .ok (.iload 4, 2) := by decide +kernel
theorem dX10_gets_46 : decode cX10_gets 46 = .ok (.iload_n 2, 1) := by decide +kernel
theorem dX10_gets_47 : decode cX10_gets 47 = .ok (.ishl, 1) := by decide +kernel
theorem dX10_gets_48 : decode cX10_gets 48 = .ok (.ior, 1) := by decide +kernel
theorem dX10_gets_49 : decode cX10_gets 49 = .ok (.invokevirtual 378, 3) := by decide +kernel
theorem dX10_gets_52 : decode cX10_gets 52 = .ok (.goto 6, 3) := by decide +kernel
theorem dX10_gets_55 : decode cX10_gets 55 = .ok (.sipush (-1000), 3) := by decide +kernel
theorem dX10_gets_58 : decode cX10_gets 58 = .ok (.ireturn, 1) := by decide +kernel
theorem dX10_chance_0 : decode cX10_chance 0 = .ok (.aload_n 0, 1) := by decide +kernel
theorem dX10_chance_1 : decode cX10_chance 1 = .ok (.iload_n 1, 1) := by decide +kernel
theorem dX10_chance_2 : decode cX10_chance 2 = .ok (.invokevirtual 135, 3) := by decide +kernel
theorem dX10_chance_5 : decode cX10_chance 5 = .ok (.ifCond .eq 26, 3) := by decide +kernel
theorem dX10_chance_8 : decode cX10_chance 8 = .ok (.iload_n 2, 1) := by decide +kernel
theorem dX10_chance_9 : decode cX10_chance 9 = .ok (.invokestatic 168, 3) := by decide +kernel
theorem dX10_chance_12 : decode cX10_chance 12 = .ok (.ifCond .eq 19, 3) := by decide +kernel
theorem dX10_chance_15 : decode cX10_chance 15 = .ok (.aload_n 0, 1) := by decide +kernel
theorem dX10_chance_16 : decode cX10_chance 16 = .ok (.iload_n 3, 1) := by decide +kernel
theorem dX10_chance_17 : decode cX10_chance 17 = .ok (.invokevirtual 381, 3) := by decide +kernel
theorem dX10_chance_20 : decode cX10_chance 20 = .ok (.ifCond .eq 11, 3) := by decide +kernel
theorem dX10_chance_23 : decode cX10_chance 23 = .ok (.iload 4, 2) := by decide +kernel
theorem dX10_chance_25 : decode cX10_chance 25 = .ok (.invokestatic 291, 3) := by decide +kernel
theorem dX10_chance_28 : decode cX10_chance 28 = .ok (.ifCond .ne 7, 3) := by decide +kernel
theorem dX10_chance_31 : decode cX10_chance 31 = .ok (.ldc2_w 294, 3) := by decide +kernel
theorem dX10_chance_34 : decode cX10_chance 34 = .ok (.lreturn, 1) := by decide +kernel
theorem dX10_chance_35 : decode cX10_chance 35 = .ok (.aload_n 0, 1) := by decide +kernel
theorem dX10_chance_36 : decode cX10_chance 36 = .ok (.getfield 91, 3) := by decide +kernel
theorem dX10_chance_39 : decode cX10_chance 39 = .ok (.iload_n 1, 1) := by decide +kernel
theorem dX10_chance_40 : decode cX10_chance 40 = .ok (.iload_n 2, 1) := by decide +kernel
theorem dX10_chance_41 : decode cX10_chance 41 = .ok (.iload_n 3, 1) := by decide +kernel
theorem dX10_chance_42 : decode cX10_chance 42 = .ok (.invokevirtual 384, 3) := by decide +kernel
theorem dX10_chance_45 : decode cX10_chance 45 = .ok (.aload_n 0, 1) := by decide +kernel
theorem dX10_chance_46 : decode cX10_chance 46 = .ok (.getfield 91, 3) := by decide +kernel
theorem dX10_chance_49 : decode cX10_chance 49 = .ok (.iload_n 3, 1) := by decide +kernel
theorem dX10_chance_50 : decode cX10_chance 50 = .ok (.invokevirtual 388, 3) := by decide +kernel
theorem dX10_chance_53 : decode cX10_chance 53 = .ok (.iload 4, 2) := by decide +kernel
theorem dX10_chance_55 : decode cX10_chance 55 = .ok (.invokestatic 309, 3) := by decide +kernel
theorem dX10_chance_58 : decode cX10_chance 58 = .ok (.lreturn, 1) := by decide +kernel
theorem dX10_mean_0 : decode cX10_mean 0 = .ok (.aload_n 0, 1) := by decide +kernel
theorem dX10_mean_1 : decode cX10_mean 1 = .ok (.iload_n 1, 1) := by decide +kernel
theorem dX10_mean_2 : decode cX10_mean 2 = .ok (.invokevirtual 381, 3) := by decide +kernel
theorem dX10_mean_5 : decode cX10_mean 5 = .ok (.ifCond .eq 10, 3) := by decide +kernel
theorem dX10_mean_8 : decode cX10_mean 8 = .ok (.iload_n 2, 1) := by decide +kernel
theorem dX10_mean_9 : decode cX10_mean 9 = .ok (.invokestatic 291, 3) := by decide +kernel
theorem dX10_mean_12 : decode cX10_mean 12 = .ok (.ifCond .ne 7, 3) := by decide +kernel
theorem dX10_mean_15 : decode cX10_mean 15 = .ok (.ldc2_w 294, 3) := by decide +kernel
theorem dX10_mean_18 : decode cX10_mean 18 = .ok (.lreturn, 1) := by decide +kernel
theorem dX10_mean_19 : decode cX10_mean 19 = .ok (.aload_n 0, 1) := by decide +kernel
theorem dX10_mean_20 : decode cX10_mean 20 = .ok (.getfield 91, 3) := by decide +kernel
theorem dX10_mean_23 : decode cX10_mean 23 = .ok (.iload_n 1, 1) := by decide +kernel
theorem dX10_mean_24 : decode cX10_mean 24 = .ok (.invokevirtual 391, 3) := by decide +kernel
theorem dX10_mean_27 : decode cX10_mean 27 = .ok (.aload_n 0, 1) := by decide +kernel
theorem dX10_mean_28 : decode cX10_mean 28 = .ok (.getfield 91, 3) := by decide +kernel
theorem dX10_mean_31 : decode cX10_mean 31 = .ok (.iload_n 1, 1) := by decide +kernel
theorem dX10_mean_32 : decode cX10_mean 32 = .ok (.invokevirtual 388, 3) := by decide +kernel
theorem dX10_mean_35 : decode cX10_mean 35 = .ok (.iload_n 2, 1) := by decide +kernel
theorem dX10_mean_36 : decode cX10_mean 36 = .ok (.invokestatic 309, 3) := by decide +kernel
theorem dX10_mean_39 : decode cX10_mean 39 = .ok (.lreturn, 1) := by decide +kernel
theorem dX10_say_0 : decode cX10_say 0 = .ok (.iload_n 1, 1) := by decide +kernel
theorem dX10_say_1 : decode cX10_say 1 = .ok (.invokestatic 184, 3) := by decide +kernel
theorem dX10_say_4 : decode cX10_say 4 = .ok (.ifCond .eq 19, 3) := by decide +kernel
theorem dX10_say_7 : decode cX10_say 7 = .ok (.aload_n 0, 1) := by decide +kernel
theorem dX10_say_8 : decode cX10_say 8 = .ok (.iload_n 2, 1) := by decide +kernel
theorem dX10_say_9 : decode cX10_say 9 = .ok (.invokevirtual 135, 3) := by decide +kernel
theorem dX10_say_12 : decode cX10_say 12 = .ok (.ifCond .eq 11, 3) := by decide +kernel
theorem dX10_say_15 : decode cX10_say 15 = .ok (.aload_n 0, 1) := by decide +kernel
theorem dX10_say_16 : decode cX10_say 16 = .ok (.iload_n 3, 1) := by decide +kernel
theorem dX10_say_17 : decode cX10_say 17 = .ok (.invokevirtual 161, 3) := by decide +kernel
theorem dX10_say_20 : decode cX10_say 20 = .ok (.ifCond .ne 6, 3) := by decide +kernel
theorem dX10_say_23 : decode cX10_say 23 = .ok (.bipush (-2), 2) := by decide +kernel
theorem dX10_say_25 : decode cX10_say 25 = .ok (.ireturn, 1) := by decide +kernel
theorem dX10_say_26 : decode cX10_say 26 = .ok (.aload_n 0, 1) := by decide +kernel
theorem dX10_say_27 : decode cX10_say 27 = .ok (.getfield 23, 3) := by decide +kernel
theorem dX10_say_30 : decode cX10_say 30 = .ok (.getfield 394, 3) := by decide +kernel
theorem dX10_say_33 : decode cX10_say 33 = .ok (.bipush 30, 2) := by decide +kernel
theorem dX10_say_35 : decode cX10_say 35 = .ok (.if_icmp .lt 6, 3) := by decide +kernel
theorem dX10_say_38 : decode cX10_say 38 = .ok (.bipush (-5), 2) := by decide +kernel
theorem dX10_say_40 : decode cX10_say 40 = .ok (.ireturn, 1) := by decide +kernel
theorem dX10_say_41 : decode cX10_say 41 = .ok (.aload_n 0, 1) := by decide +kernel
theorem dX10_say_42 : decode cX10_say 42 = .ok (.getfield 23, 3) := by decide +kernel
theorem dX10_say_45 : decode cX10_say 45 = .ok (.iload_n 1, 1) := by decide +kernel
theorem dX10_say_46 : decode cX10_say 46 = .ok (.iload_n 2, 1) := by decide +kernel
theorem dX10_say_47 : decode cX10_say 47 = .ok (.iload_n 3, 1) := by decide +kernel
theorem dX10_say_48 : decode cX10_say 48 = .ok (.invokevirtual 397, 3) := by decide +kernel
theorem dX10_say_51 : decode cX10_say 51 = .ok (.aload_n 0, 1) := by decide +kernel
theorem dX10_say_52 : decode cX10_say 52 = .ok (.invokevirtual 103, 3) := by decide +kernel
theorem dX10_say_55 : decode cX10_say 55 = .ok (.aload_n 0, 1) := by decide +kernel
theorem dX10_say_56 : decode cX10_say 56 = .ok (.getfield 38, 3) := by decide +kernel
theorem dX10_say_59 : decode cX10_say 59 = .ok (.invokevirtual 362, 3) := by decide +kernel
theorem dX10_say_62 : decode cX10_say 62 = .ok (.iload_n 1, 1) := by decide +kernel
theorem dX10_say_63 : decode cX10_say 63 = .ok (.invokestatic 365, 3) := by decide +kernel
theorem dX10_say_66 : decode cX10_say 66 = .ok (.invokestatic 277, 3) := by decide +kernel
theorem dX10_say_69 : decode cX10_say 69 = .ok (.ireturn, 1) := by decide +kernel
theorem dX10_slug_0 : decode cX10_slug 0 = .ok (.aload_n 0, 1) := by decide +kernel
theorem dX10_slug_1 : decode cX10_slug 1 = .ok (.iload_n 1, 1) := by decide +kernel
theorem dX10_slug_2 : decode cX10_slug 2 = .ok (.invokevirtual 135, 3) := by decide +kernel
theorem dX10_slug_5 : decode cX10_slug 5 = .ok (.ifCond .eq 11, 3) := by decide +kernel
theorem dX10_slug_8 : decode cX10_slug 8 = .ok (.aload_n 0, 1) := by decide +kernel
theorem dX10_slug_9 : decode cX10_slug 9 = .ok (.iload_n 2, 1) := by decide +kernel
theorem dX10_slug_10 : decode cX10_slug 10 = .ok (.invokevirtual 161, 3) := by decide +kernel
theorem dX10_slug_13 : decode cX10_slug 13 = .ok (.ifCond .ne 6, 3) := by decide +kernel
theorem dX10_slug_16 : decode cX10_slug 16 = .ok (.bipush (-2), 2) := by decide +kernel
theorem dX10_slug_18 : decode cX10_slug 18 = .ok (.ireturn, 1) := by decide +kernel
theorem dX10_slug_19 : decode cX10_slug 19 = .ok (.aload_n 0, 1) := by decide +kernel
theorem dX10_slug_20 : decode cX10_slug 20 = .ok (.getfield 23, 3) := by decide +kernel
theorem dX10_slug_23 : decode cX10_slug 23 = .ok (.getfield 394, 3) := by decide +kernel
theorem dX10_slug_26 : decode cX10_slug 26 = .ok (.bipush 30, 2) := by decide +kernel
theorem dX10_slug_28 : decode cX10_slug 28 = .ok (.if_icmp .lt 6, 3) := by decide +kernel
theorem dX10_slug_31 : decode cX10_slug 31 = .ok (.bipush (-5), 2) := by decide +kernel
theorem dX10_slug_33 : decode cX10_slug 33 = .ok (.ireturn, 1) := by decide +kernel
theorem dX10_slug_34 : decode cX10_slug 34 = .ok (.aload_n 0, 1) := by decide +kernel
theorem dX10_slug_35 : decode cX10_slug 35 = .ok (.getfield 23, 3) := by decide +kernel
theorem dX10_slug_38 : decode cX10_slug 38 = .ok (.iconst 0, 1) := by decide +kernel
theorem dX10_slug_39 : decode cX10_slug 39 = .ok (.iload_n 1, 1) := by decide +kernel
theorem dX10_slug_40 : decode cX10_slug 40 = .ok (.iload_n 2, 1) := by decide +kernel
theorem dX10_slug_41 : decode cX10_slug 41 = .ok (.invokevirtual 397, 3) := by decide +kernel
theorem dX10_slug_44 : decode cX10_slug 44 = .ok (.aload_n 0, 1) := by decide +kernel
theorem dX10_slug_45 : decode cX10_slug 45 = .ok (.invokevirtual 103, 3) := by decide +kernel
theorem dX10_slug_48 : decode cX10_slug 48 = .ok (.aload_n 0, 1) := by decide +kernel
theorem dX10_slug_49 : decode cX10_slug 49 = .ok (.getfield 29, 3) := by decide +kernel
theorem dX10_slug_52 : decode cX10_slug 52 = .ok (.getfield 174, 3) := by decide +kernel
theorem dX10_slug_55 : decode cX10_slug 55 = .ok (.aload_n 0, 1) := by decide +kernel
theorem dX10_slug_56 : decode cX10_slug 56 = .ok (.getfield 23, 3) := by decide +kernel
theorem dX10_slug_59 : decode cX10_slug 59 = .ok (.getfield 401, 3) := by decide +kernel
theorem dX10_slug_62 : decode cX10_slug 62 = .ok (.iaload, 1) := by decide +kernel
theorem dX10_slug_63 : decode cX10_slug 63 = .ok (.ireturn, 1) := by decide +kernel
theorem dX10_undo_0 : decode cX10_undo 0 = .ok (.aload_n 0, 1) := by decide +kernel
theorem dX10_undo_1 : decode cX10_undo 1 = .ok (.invokevirtual 196, 3) := by decide +kernel
theorem dX10_undo_4 : decode cX10_undo 4 = .ok (.ifCond .ne 6, 3) := by decide +kernel
theorem dX10_undo_7 : decode cX10_undo 7 = .ok (.bipush (-2), 2) := by decide +kernel
theorem dX10_undo_9 : decode cX10_undo 9 = .ok (.ireturn, 1) := by decide +kernel
theorem dX10_undo_10 : decode cX10_undo 10 = .ok (.aload_n 0, 1) := by decide +kernel
theorem dX10_undo_11 : decode cX10_undo 11 = .ok (.getfield 23, 3) := by decide +kernel
theorem dX10_undo_14 : decode cX10_undo 14 = .ok (.getfield 394, 3) := by decide +kernel
theorem dX10_undo_17 : decode cX10_undo 17 = .ok (.ifCond .ne 6, 3) := by decide +kernel
theorem dX10_undo_20 : decode cX10_undo 20 = .ok (.bipush (-5), 2) := by decide +kernel
theorem dX10_undo_22 : decode cX10_undo 22 = .ok (.ireturn, 1) := by decide +kernel
theorem dX10_undo_23 : decode cX10_undo 23 = .ok (.aload_n 0, 1) := by decide +kernel
theorem dX10_undo_24 : decode cX10_undo 24 = .ok (.getfield 23, 3) := by decide +kernel
theorem dX10_undo_27 : decode cX10_undo 27 = .ok (.dup, 1) := by decide +kernel
theorem dX10_undo_28 : decode cX10_undo 28 = .ok (.getfield 394, 3) := by decide +kernel
theorem dX10_undo_31 : decode cX10_undo 31 = .ok (.iconst 1, 1) := by decide +kernel
theorem dX10_undo_32 : decode cX10_undo 32 = .ok (.isub, 1) := by decide +kernel
theorem dX10_undo_33 : decode cX10_undo 33 = .ok (.putfield 394, 3) := by decide +kernel
theorem dX10_undo_36 : decode cX10_undo 36 = .ok (.aload_n 0, 1) := by decide +kernel
theorem dX10_undo_37 : decode cX10_undo 37 = .ok (.invokevirtual 103, 3) := by decide +kernel
theorem dX10_undo_40 : decode cX10_undo 40 = .ok (.aload_n 0, 1) := by decide +kernel
theorem dX10_undo_41 : decode cX10_undo 41 = .ok (.getfield 23, 3) := by decide +kernel
theorem dX10_undo_44 : decode cX10_undo 44 = .ok (.getfield 394, 3) := by decide +kernel
theorem dX10_undo_47 : decode cX10_undo 47 = .ok (.ireturn, 1) := by decide +kernel
theorem dX10_anew_0 : decode cX10_anew 0 = .ok (.aload_n 0, 1) := by decide +kernel
theorem dX10_anew_1 : decode cX10_anew 1 = .ok (.invokevirtual 196, 3) := by decide +kernel
theorem dX10_anew_4 : decode cX10_anew 4 = .ok (.ifCond .ne 6, 3) := by decide +kernel
theorem dX10_anew_7 : decode cX10_anew 7 = .ok (.bipush (-2), 2) := by decide +kernel
theorem dX10_anew_9 : decode cX10_anew 9 = .ok (.ireturn, 1) := by decide +kernel
theorem dX10_anew_10 : decode cX10_anew 10 = .ok (.aload_n 0, 1) := by decide +kernel
theorem dX10_anew_11 : decode cX10_anew 11 = .ok (.getfield 23, 3) := by decide +kernel
theorem dX10_anew_14 : decode cX10_anew 14 = .ok (.getfield 394, 3) := by decide +kernel
theorem dX10_anew_17 : decode cX10_anew 17 = .ok (.istore_n 1, 1) := by decide +kernel
theorem dX10_anew_18 : decode cX10_anew 18 = .ok (.aload_n 0, 1) := by decide +kernel
theorem dX10_anew_19 : decode cX10_anew 19 = .ok (.getfield 23, 3) := by decide +kernel
theorem dX10_anew_22 : decode cX10_anew 22 = .ok (.iconst 0, 1) := by decide +kernel
theorem dX10_anew_23 : decode cX10_anew 23 = .ok (.putfield 394, 3) := by decide +kernel
theorem dX10_anew_26 : decode cX10_anew 26 = .ok (.aload_n 0, 1) := by decide +kernel
theorem dX10_anew_27 : decode cX10_anew 27 = .ok (.invokevirtual 103, 3) := by decide +kernel
theorem dX10_anew_30 : decode cX10_anew 30 = .ok (.iload_n 1, 1) := by decide +kernel
theorem dX10_anew_31 : decode cX10_anew 31 = .ok (.ireturn, 1) := by decide +kernel
theorem dX10_drawn_0 : decode cX10_drawn 0 = .ok (.aload_n 0, 1) := by decide +kernel
theorem dX10_drawn_1 : decode cX10_drawn 1 = .ok (.invokevirtual 196, 3) := by decide +kernel
theorem dX10_drawn_4 : decode cX10_drawn 4 = .ok (.ifCond .eq 17, 3) := by decide +kernel
theorem dX10_drawn_7 : decode cX10_drawn 7 = .ok (.iload_n 1, 1) := by decide +kernel
theorem dX10_drawn_8 : decode cX10_drawn 8 = .ok (.invokestatic 404, 3) := by decide +kernel
theorem dX10_drawn_11 : decode cX10_drawn 11 = .ok (.ifCond .eq 10, 3) := by decide +kernel
theorem dX10_drawn_14 : decode cX10_drawn 14 = .ok (.iload_n 2, 1) := by decide +kernel
theorem dX10_drawn_15 : decode cX10_drawn 15 = .ok (.invokestatic 168, 3) := by decide +kernel
theorem dX10_drawn_18 : decode cX10_drawn 18 = .ok (.ifCond .ne 6, 3) := by decide +kernel
theorem dX10_drawn_21 : decode cX10_drawn 21 = .ok (.bipush (-2), 2) := by decide +kernel
theorem dX10_drawn_23 : decode cX10_drawn 23 = .ok (.ireturn, 1) := by decide +kernel
theorem dX10_drawn_24 : decode cX10_drawn 24 = .ok (.aload_n 0, 1) := by decide +kernel
theorem dX10_drawn_25 : decode cX10_drawn 25 = .ok (.getfield 91, 3) := by decide +kernel
theorem dX10_drawn_28 : decode cX10_drawn 28 = .ok (.iload_n 1, 1) := by decide +kernel
theorem dX10_drawn_29 : decode cX10_drawn 29 = .ok (.invokevirtual 407, 3) := by decide +kernel
theorem dX10_drawn_32 : decode cX10_drawn 32 = .ok (.istore_n 3, 1) := by decide +kernel
theorem dX10_drawn_33 : decode cX10_drawn 33 = .ok (.iload_n 2, 1) := by decide +kernel
theorem dX10_drawn_34 : decode cX10_drawn 34 = .ok (.ifCond .ne 5, 3) := by decide +kernel
theorem dX10_drawn_37 : decode cX10_drawn 37 = .ok (.iload_n 3, 1) := by decide +kernel
theorem dX10_drawn_38 : decode cX10_drawn 38 = .ok (.ireturn, 1) := by decide +kernel
theorem dX10_drawn_39 : decode cX10_drawn 39 = .ok (.aload_n 0, 1) := by decide +kernel
theorem dX10_drawn_40 : decode cX10_drawn 40 = .ok (.getfield 42, 3) := by decide +kernel
theorem dX10_drawn_43 : decode cX10_drawn 43 = .ok (.iload_n 3, 1) := by decide +kernel
theorem dX10_drawn_44 : decode cX10_drawn 44 = .ok (.invokevirtual 410, 3) := by decide +kernel
theorem dX10_drawn_47 : decode cX10_drawn 47 = .ok (.aload_n 0, 1) := by decide +kernel
theorem dX10_drawn_48 : decode cX10_drawn 48 = .ok (.getfield 42, 3) := by decide +kernel
theorem dX10_drawn_51 : decode cX10_drawn 51 = .ok (.invokevirtual 359, 3) := by decide +kernel
theorem dX10_drawn_54 : decode cX10_drawn 54 = .ok (.aload_n 0, 1) := by decide +kernel
theorem dX10_drawn_55 : decode cX10_drawn 55 = .ok (.getfield 42, 3) := by decide +kernel
theorem dX10_drawn_58 : decode cX10_drawn 58 = .ok (.invokevirtual 362, 3) := by decide +kernel
theorem dX10_drawn_61 : decode cX10_drawn 61 = .ok (.iload_n 2, 1) := by decide +kernel
theorem dX10_drawn_62 : decode cX10_drawn 62 = .ok (.invokestatic 365, 3) := by decide +kernel
theorem dX10_drawn_65 : decode cX10_drawn 65 = .ok (.ireturn, 1) := by decide +kernel
theorem dX10_luck_0 : decode cX10_luck 0 = .ok (.iload_n 1, 1) := by decide +kernel
theorem dX10_luck_1 : decode cX10_luck 1 = .ok (.invokestatic 404, 3) := by decide +kernel
theorem dX10_luck_4 : decode cX10_luck 4 = .ok (.ifCond .eq 34, 3) := by decide +kernel
theorem dX10_luck_7 : decode cX10_luck 7 = .ok (.iload_n 2, 1) := by decide +kernel
theorem dX10_luck_8 : decode cX10_luck 8 = .ok (.iconst 1, 1) := by decide +kernel
theorem dX10_luck_9 : decode cX10_luck 9 = .ok (.if_icmp .lt 29, 3) := by decide +kernel
theorem dX10_luck_12 : decode cX10_luck 12 = .ok (.iload_n 2, 1) := by decide +kernel
theorem dX10_luck_13 : decode cX10_luck 13 = .ok (.bipush 20, 2) := by decide +kernel
theorem dX10_luck_15 : decode cX10_luck 15 = .ok (.if_icmp .gt 23, 3) := by decide +kernel
theorem dX10_luck_18 : decode cX10_luck 18 = .ok (.aload_n 0, 1) := by decide +kernel
theorem dX10_luck_19 : decode cX10_luck 19 = .ok (.iload_n 3, 1) := by decide +kernel
theorem dX10_luck_20 : decode cX10_luck 20 = .ok (.invokevirtual 135, 3) := by decide +kernel
theorem dX10_luck_23 : decode cX10_luck 23 = .ok (.ifCond .eq 15, 3) := by decide +kernel
theorem dX10_luck_26 : decode cX10_luck 26 = .ok (.iload 4, 2) := by decide +kernel
theorem dX10_luck_28 : decode cX10_luck 28 = .ok (.invokestatic 168, 3) := by decide +kernel
theorem dX10_luck_31 : decode cX10_luck 31 = .ok (.ifCond .eq 7, 3) := by decide +kernel
theorem dX10_luck_34 : decode cX10_luck 34 = .ok (.iconst 1, 1) := by decide +kernel
theorem dX10_luck_35 : decode cX10_luck 35 = .ok (.goto 4, 3) := by decide +kernel
theorem dX10_luck_38 : decode cX10_luck 38 = .ok (.iconst 0, 1) := by decide +kernel
theorem dX10_luck_39 : decode cX10_luck 39 = .ok (.istore 5, 2) := by decide +kernel
theorem dX10_luck_41 : decode cX10_luck 41 = .ok (.iload 5, 2) := by decide +kernel
theorem dX10_luck_43 : decode cX10_luck 43 = .ok (.ifCond .eq 18, 3) := by decide +kernel
theorem dX10_luck_46 : decode cX10_luck 46 = .ok (.aload_n 0, 1) := by decide +kernel
theorem dX10_luck_47 : decode cX10_luck 47 = .ok (.getfield 91, 3) := by decide +kernel
theorem dX10_luck_50 : decode cX10_luck 50 = .ok (.iload_n 1, 1) := by decide +kernel
theorem dX10_luck_51 : decode cX10_luck 51 = .ok (.iload_n 2, 1) := by decide +kernel
theorem dX10_luck_52 : decode cX10_luck 52 = .ok (.iload_n 3, 1) := by decide +kernel
theorem dX10_luck_53 : decode cX10_luck 53 = .ok (.iload 4, 2) := by decide +kernel
theorem dX10_luck_55 : decode cX10_luck 55 = .ok (.invokevirtual 413, 3) := by decide +kernel
theorem dX10_luck_58 : decode cX10_luck 58 = .ok (.goto 5, 3) := by decide +kernel
theorem dX10_luck_61 : decode cX10_luck 61 = .ok (.bipush (-2), 2) := by decide +kernel
theorem dX10_luck_63 : decode cX10_luck 63 = .ok (.ireturn, 1) := by decide +kernel
theorem dX10_rate_0 : decode cX10_rate 0 = .ok (.aload_n 0, 1) := by decide +kernel
theorem dX10_rate_1 : decode cX10_rate 1 = .ok (.iload_n 1, 1) := by decide +kernel
theorem dX10_rate_2 : decode cX10_rate 2 = .ok (.invokevirtual 135, 3) := by decide +kernel
theorem dX10_rate_5 : decode cX10_rate 5 = .ok (.ifCond .eq 13, 3) := by decide +kernel
theorem dX10_rate_8 : decode cX10_rate 8 = .ok (.iload_n 2, 1) := by decide +kernel
theorem dX10_rate_9 : decode cX10_rate 9 = .ok (.iconst 1, 1) := by decide +kernel
theorem dX10_rate_10 : decode cX10_rate 10 = .ok (.if_icmp .lt 8, 3) := by decide +kernel
theorem dX10_rate_13 : decode cX10_rate 13 = .ok (.iload_n 2, 1) := by decide +kernel
theorem dX10_rate_14 : decode cX10_rate 14 = .ok (.iconst 4, 1) := by decide +kernel
theorem dX10_rate_15 : decode cX10_rate 15 = .ok (.if_icmp .le 6, 3) := by decide +kernel
theorem dX10_rate_18 : decode cX10_rate 18 = .ok (.bipush (-2), 2) := by decide +kernel
theorem dX10_rate_20 : decode cX10_rate 20 = .ok (.ireturn, 1) := by decide +kernel
theorem dX10_rate_21 : decode cX10_rate 21 = .ok (.aload_n 0, 1) := by decide +kernel
theorem dX10_rate_22 : decode cX10_rate 22 = .ok (.getfield 23, 3) := by decide +kernel
theorem dX10_rate_25 : decode cX10_rate 25 = .ok (.getfield 394, 3) := by decide +kernel
theorem dX10_rate_28 : decode cX10_rate 28 = .ok (.ifCond .le 6, 3) := by decide +kernel
theorem dX10_rate_31 : decode cX10_rate 31 = .ok (.bipush (-5), 2) := by decide +kernel
theorem dX10_rate_33 : decode cX10_rate 33 = .ok (.ireturn, 1) := by decide +kernel
theorem dX10_rate_34 : decode cX10_rate 34 = .ok (.aload_n 0, 1) := by decide +kernel
theorem dX10_rate_35 : decode cX10_rate 35 = .ok (.getfield 23, 3) := by decide +kernel
theorem dX10_rate_38 : decode cX10_rate 38 = .ok (.getfield 139, 3) := by decide +kernel
theorem dX10_rate_41 : decode cX10_rate 41 = .ok (.iload_n 1, 1) := by decide +kernel
theorem dX10_rate_42 : decode cX10_rate 42 = .ok (.iaload, 1) := by decide +kernel
theorem dX10_rate_43 : decode cX10_rate 43 = .ok (.istore_n 3, 1) := by decide +kernel
theorem dX10_rate_44 : decode cX10_rate 44 = .ok (.aload_n 0, 1) := by decide +kernel
theorem dX10_rate_45 : decode cX10_rate 45 = .ok (.getfield 23, 3) := by decide +kernel
theorem dX10_rate_48 : decode cX10_rate 48 = .ok (.getfield 139, 3) := by decide +kernel
theorem dX10_rate_51 : decode cX10_rate 51 = .ok (.iload_n 1, 1) := by decide +kernel
theorem dX10_rate_52 : decode cX10_rate 52 = .ok (.iload_n 2, 1) := by decide +kernel
theorem dX10_rate_53 : decode cX10_rate 53 = .ok (.iastore, 1) := by decide +kernel
theorem dX10_rate_54 : decode cX10_rate 54 = .ok (.aload_n 0, 1) := by decide +kernel
theorem dX10_rate_55 : decode cX10_rate 55 = .ok (.invokevirtual 103, 3) := by decide +kernel
theorem dX10_rate_58 : decode cX10_rate 58 = .ok (.iload_n 3, 1) := by decide +kernel
theorem dX10_rate_59 : decode cX10_rate 59 = .ok (.ireturn, 1) := by decide +kernel

set_option maxHeartbeats 4000000 in
set_option maxRecDepth 100000 in
theorem ctX10_head (l : Launch) (D : va_G) (k : Nat → ClassId) (o : Nat → Nat) (p0 : Int32) (p1 : Int32)  : RO l yX10_head cX10_head 3 (some .int) 1 D k [.ref (o 0), .int p0, .int p1] [((o 0), .inr (10, [.ref (o 1), .ref (o 2), .ref (o 3), .ref (o 4), .ref (o 5), .ref (o 6), .ref (o 7), .ref (o 8), .ref (o 9), .ref (o 10), .ref (o 11), .ref (o 12), .ref (o 13), .ref (o 14)])), ((o 3), .inr (2, [.int 0, .int 0, .int 0, .int 0, .int 0, .int 0, .int 0, .int 0, .int 0, .ref (o 26), .ref (o 27), .ref (o 28), .ref (o 29), .ref (o 30), .ref (o 31), .ref (o 32), .ref (o 33), .ref (o 34), .ref (o 35)]))] (Qi (fun r : Int32 => r = (-2))) := by
  refine RO.of (by decide) (Nat.le_of_ble_eq_true rfl) ?_
  intro p e s m below meth c ls A args Q S hr hlk hQ hK hP hDW hA hS hl
  have hx := S.1
  have hb := S.2.1
  have hl : lv_has ls 3 [(0, .ref (o 0)), (1, .int p0), (2, .int p1)] := hl
  refine lv_aload_n hx hb dX10_head_0 rfl (lv_at hl 0 rfl) ?_
  refine lv_iload_n hx hb dX10_head_1 rfl (lv_at hl 1 rfl) ?_
  refine x_roVi (As := [.int p0]) S hK hP hS hA hl mwX10_isHead lkX10_135 (ctX10_isHead l D k o p0 ) [0, 1] rfl (hDW.sub [0, 1] (by decide) rfl) rfl rfl rfl rfl rfl ⟨Nat.le_of_ble_eq_true rfl, Nat.le_of_ble_eq_true rfl, Nat.le_of_ble_eq_true rfl⟩ dX10_head_2 ⟨Nat.le_of_ble_eq_true rfl, Nat.le_of_ble_eq_true rfl⟩ (fun r_1 H locs hr_1 hP hS => ?_)
  subst hr_1
  refine lv_if_ne (tgt := 11) hx hb dX10_head_5 (by decide) (fun c_2 => absurd (by decide) c_2) (fun c_2 => ?_)
  refine lv_bipush (v := (-2)) hx hb dX10_head_8 (by decide) ?_
  exact x_reti S hr hlk hQ hS () rfl x_T dX10_head_10

set_option maxHeartbeats 4000000 in
set_option maxRecDepth 100000 in
theorem ctX10_near (l : Launch) (D : va_G) (k : Nat → ClassId) (o : Nat → Nat) (p0 : Int32)  : RO l yX10_near cX10_near 2 (some .int) 1 D k [.ref (o 0), .int p0] [((o 0), .inr (10, [.ref (o 1), .ref (o 2), .ref (o 3), .ref (o 4), .ref (o 5), .ref (o 6), .ref (o 7), .ref (o 8), .ref (o 9), .ref (o 10), .ref (o 11), .ref (o 12), .ref (o 13), .ref (o 14)])), ((o 3), .inr (2, [.int 0, .int 0, .int 0, .int 0, .int 0, .int 0, .int 0, .int 0, .int 0, .ref (o 26), .ref (o 27), .ref (o 28), .ref (o 29), .ref (o 30), .ref (o 31), .ref (o 32), .ref (o 33), .ref (o 34), .ref (o 35)]))] (Qi (fun r : Int32 => r = (-2))) := by
  refine RO.of (by decide) (Nat.le_of_ble_eq_true rfl) ?_
  intro p e s m below meth c ls A args Q S hr hlk hQ hK hP hDW hA hS hl
  have hx := S.1
  have hb := S.2.1
  have hl : lv_has ls 2 [(0, .ref (o 0)), (1, .int p0)] := hl
  refine lv_aload_n hx hb dX10_near_0 rfl (lv_at hl 0 rfl) ?_
  refine lv_iload_n hx hb dX10_near_1 rfl (lv_at hl 1 rfl) ?_
  refine x_roVi (As := [.int p0]) S hK hP hS hA hl mwX10_isHead lkX10_135 (ctX10_isHead l D k o p0 ) [0, 1] rfl (hDW.sub [0, 1] (by decide) rfl) rfl rfl rfl rfl rfl ⟨Nat.le_of_ble_eq_true rfl, Nat.le_of_ble_eq_true rfl, Nat.le_of_ble_eq_true rfl⟩ dX10_near_2 ⟨Nat.le_of_ble_eq_true rfl, Nat.le_of_ble_eq_true rfl⟩ (fun r_1 H locs hr_1 hP hS => ?_)
  subst hr_1
  refine lv_if_eq (tgt := 20) hx hb dX10_near_5 (by decide) (fun c_2 => ?_) (fun c_2 => absurd (by decide) c_2)
  refine lv_bipush (v := (-2)) hx hb dX10_near_20 (by decide) ?_
  exact x_reti S hr hlk hQ hS () rfl x_T dX10_near_22

set_option maxHeartbeats 4000000 in
set_option maxRecDepth 100000 in
theorem ctX10_heads (l : Launch) (D : va_G) (k : Nat → ClassId) (o : Nat → Nat) (p0 : Int32)  : RO l yX10_heads cX10_heads 2 (some .int) 1 D k [.ref (o 0), .int p0] [((o 0), .inr (10, [.ref (o 1), .ref (o 2), .ref (o 3), .ref (o 4), .ref (o 5), .ref (o 6), .ref (o 7), .ref (o 8), .ref (o 9), .ref (o 10), .ref (o 11), .ref (o 12), .ref (o 13), .ref (o 14)])), ((o 3), .inr (2, [.int 0, .int 0, .int 0, .int 0, .int 0, .int 0, .int 0, .int 0, .int 0, .ref (o 26), .ref (o 27), .ref (o 28), .ref (o 29), .ref (o 30), .ref (o 31), .ref (o 32), .ref (o 33), .ref (o 34), .ref (o 35)]))] (Qi (fun r : Int32 => r = (-2))) := by
  refine RO.of (by decide) (Nat.le_of_ble_eq_true rfl) ?_
  intro p e s m below meth c ls A args Q S hr hlk hQ hK hP hDW hA hS hl
  have hx := S.1
  have hb := S.2.1
  have hl : lv_has ls 2 [(0, .ref (o 0)), (1, .int p0)] := hl
  refine lv_aload_n hx hb dX10_heads_0 rfl (lv_at hl 0 rfl) ?_
  refine lv_iload_n hx hb dX10_heads_1 rfl (lv_at hl 1 rfl) ?_
  refine x_roVi (As := [.int p0]) S hK hP hS hA hl mwX10_isRow lkX10_155 (ctX10_isRow l D k o p0 ) [0, 1] rfl (hDW.sub [0, 1] (by decide) rfl) rfl rfl rfl rfl rfl ⟨Nat.le_of_ble_eq_true rfl, Nat.le_of_ble_eq_true rfl, Nat.le_of_ble_eq_true rfl⟩ dX10_heads_2 ⟨Nat.le_of_ble_eq_true rfl, Nat.le_of_ble_eq_true rfl⟩ (fun r_1 H locs hr_1 hP hS => ?_)
  subst hr_1
  refine lv_if_eq (tgt := 20) hx hb dX10_heads_5 (by decide) (fun c_2 => ?_) (fun c_2 => absurd (by decide) c_2)
  refine lv_bipush (v := (-2)) hx hb dX10_heads_20 (by decide) ?_
  exact x_reti S hr hlk hQ hS () rfl x_T dX10_heads_22

set_option maxHeartbeats 4000000 in
set_option maxRecDepth 100000 in
theorem ctX10_view (l : Launch) (D : va_G) (k : Nat → ClassId) (o : Nat → Nat) (p0 : Int32) (p1 : Int32)  : RO l yX10_view cX10_view 3 (some .int) 1 D k [.ref (o 0), .int p0, .int p1] [((o 0), .inr (10, [.ref (o 1), .ref (o 2), .ref (o 3), .ref (o 4), .ref (o 5), .ref (o 6), .ref (o 7), .ref (o 8), .ref (o 9), .ref (o 10), .ref (o 11), .ref (o 12), .ref (o 13), .ref (o 14)])), ((o 3), .inr (2, [.int 0, .int 0, .int 0, .int 0, .int 0, .int 0, .int 0, .int 0, .int 0, .ref (o 26), .ref (o 27), .ref (o 28), .ref (o 29), .ref (o 30), .ref (o 31), .ref (o 32), .ref (o 33), .ref (o 34), .ref (o 35)]))] (Qi (fun r : Int32 => r = (-2))) := by
  refine RO.of (by decide) (Nat.le_of_ble_eq_true rfl) ?_
  intro p e s m below meth c ls A args Q S hr hlk hQ hK hP hDW hA hS hl
  have hx := S.1
  have hb := S.2.1
  have hl : lv_has ls 3 [(0, .ref (o 0)), (1, .int p0), (2, .int p1)] := hl
  refine lv_aload_n hx hb dX10_view_0 rfl (lv_at hl 0 rfl) ?_
  refine lv_iload_n hx hb dX10_view_1 rfl (lv_at hl 1 rfl) ?_
  refine x_roVi (As := [.int p0]) S hK hP hS hA hl mwX10_isHead lkX10_135 (ctX10_isHead l D k o p0 ) [0, 1] rfl (hDW.sub [0, 1] (by decide) rfl) rfl rfl rfl rfl rfl ⟨Nat.le_of_ble_eq_true rfl, Nat.le_of_ble_eq_true rfl, Nat.le_of_ble_eq_true rfl⟩ dX10_view_2 ⟨Nat.le_of_ble_eq_true rfl, Nat.le_of_ble_eq_true rfl⟩ (fun r_1 H locs hr_1 hP hS => ?_)
  subst hr_1
  refine lv_if_eq (tgt := 28) hx hb dX10_view_5 (by decide) (fun c_2 => ?_) (fun c_2 => absurd (by decide) c_2)
  refine lv_bipush (v := (-2)) hx hb dX10_view_28 (by decide) ?_
  exact x_reti S hr hlk hQ hS () rfl x_T dX10_view_30

set_option maxHeartbeats 4000000 in
set_option maxRecDepth 100000 in
theorem ctX10_holding (l : Launch) (D : va_G) (k : Nat → ClassId) (o : Nat → Nat) (p0 : Int32) (p1 : Int32)  : RO l yX10_holding cX10_holding 3 (some .int) 2 D k [.ref (o 0), .int p0, .int p1] [((o 0), .inr (10, [.ref (o 1), .ref (o 2), .ref (o 3), .ref (o 4), .ref (o 5), .ref (o 6), .ref (o 7), .ref (o 8), .ref (o 9), .ref (o 10), .ref (o 11), .ref (o 12), .ref (o 13), .ref (o 14)])), ((o 3), .inr (2, [.int 0, .int 0, .int 0, .int 0, .int 0, .int 0, .int 0, .int 0, .int 0, .ref (o 26), .ref (o 27), .ref (o 28), .ref (o 29), .ref (o 30), .ref (o 31), .ref (o 32), .ref (o 33), .ref (o 34), .ref (o 35)]))] (Qi (fun r : Int32 => r = (-2))) := by
  refine RO.of (by decide) (Nat.le_of_ble_eq_true rfl) ?_
  intro p e s m below meth c ls A args Q S hr hlk hQ hK hP hDW hA hS hl
  have hx := S.1
  have hb := S.2.1
  have hl : lv_has ls 3 [(0, .ref (o 0)), (1, .int p0), (2, .int p1)] := hl
  refine lv_iload_n hx hb dX10_holding_0 rfl (lv_at hl 1 rfl) ?_
  refine x_roSi (As := [.int p0]) S hK hP hS hA hl mwX10_isAnyView lkX10_168 (ctX10_isAnyView l D k p0 ) [] rfl D_nil rfl rfl ⟨Nat.le_of_ble_eq_true rfl, Nat.le_of_ble_eq_true rfl, Nat.le_of_ble_eq_true rfl⟩ dX10_holding_1 ⟨Nat.le_of_ble_eq_true rfl, Nat.le_of_ble_eq_true rfl⟩ (fun r_1 H locs hr_1 hP hS => ?_)
  refine lv_if_eq (tgt := 27) hx hb dX10_holding_4 (by decide) (fun c_2 => ?_) (fun c_2 => ?_)
  · skip
    refine lv_bipush (v := (-2)) hx hb dX10_holding_27 (by decide) ?_
    exact x_reti S hr hlk hQ hS () rfl x_T dX10_holding_29
  · skip
    refine lv_aload_n hx hb dX10_holding_7 rfl (lv_at hl 0 rfl) ?_
    refine lv_iload_n hx hb dX10_holding_8 rfl (lv_at hl 2 rfl) ?_
    refine x_roVi (As := [.int p1]) S hK hP hS hA hl mwX10_isHour lkX10_161 (ctX10_isHour l D k o p1 ) [0, 1] rfl (hDW.sub [0, 1] (by decide) rfl) rfl rfl rfl rfl rfl ⟨Nat.le_of_ble_eq_true rfl, Nat.le_of_ble_eq_true rfl, Nat.le_of_ble_eq_true rfl⟩ dX10_holding_9 ⟨Nat.le_of_ble_eq_true rfl, Nat.le_of_ble_eq_true rfl⟩ (fun r_3 H locs hr_3 hP hS => ?_)
    subst hr_3
    refine lv_if_eq (tgt := 27) hx hb dX10_holding_12 (by decide) (fun c_4 => ?_) (fun c_4 => absurd (by decide) c_4)
    refine lv_bipush (v := (-2)) hx hb dX10_holding_27 (by decide) ?_
    exact x_reti S hr hlk hQ hS () rfl x_T dX10_holding_29

set_option maxHeartbeats 4000000 in
set_option maxRecDepth 100000 in
theorem ctX10_eaten (l : Launch) (D : va_G) (k : Nat → ClassId) (o : Nat → Nat) (p0 : Int32)  : RO l yX10_eaten cX10_eaten 2 (some .int) 2 D k [.ref (o 0), .int p0] [((o 0), .inr (10, [.ref (o 1), .ref (o 2), .ref (o 3), .ref (o 4), .ref (o 5), .ref (o 6), .ref (o 7), .ref (o 8), .ref (o 9), .ref (o 10), .ref (o 11), .ref (o 12), .ref (o 13), .ref (o 14)])), ((o 3), .inr (2, [.int 0, .int 0, .int 0, .int 0, .int 0, .int 0, .int 0, .int 0, .int 0, .ref (o 26), .ref (o 27), .ref (o 28), .ref (o 29), .ref (o 30), .ref (o 31), .ref (o 32), .ref (o 33), .ref (o 34), .ref (o 35)]))] (Qi (fun r : Int32 => r = (-2))) := by
  refine RO.of (by decide) (Nat.le_of_ble_eq_true rfl) ?_
  intro p e s m below meth c ls A args Q S hr hlk hQ hK hP hDW hA hS hl
  have hx := S.1
  have hb := S.2.1
  have hl : lv_has ls 2 [(0, .ref (o 0)), (1, .int p0)] := hl
  refine lv_aload_n hx hb dX10_eaten_0 rfl (lv_at hl 0 rfl) ?_
  refine lv_iload_n hx hb dX10_eaten_1 rfl (lv_at hl 1 rfl) ?_
  refine x_roVi (As := [.int p0]) S hK hP hS hA hl mwX10_isHour lkX10_161 (ctX10_isHour l D k o p0 ) [0, 1] rfl (hDW.sub [0, 1] (by decide) rfl) rfl rfl rfl rfl rfl ⟨Nat.le_of_ble_eq_true rfl, Nat.le_of_ble_eq_true rfl, Nat.le_of_ble_eq_true rfl⟩ dX10_eaten_2 ⟨Nat.le_of_ble_eq_true rfl, Nat.le_of_ble_eq_true rfl⟩ (fun r_1 H locs hr_1 hP hS => ?_)
  subst hr_1
  refine lv_if_eq (tgt := 20) hx hb dX10_eaten_5 (by decide) (fun c_2 => ?_) (fun c_2 => absurd (by decide) c_2)
  refine lv_bipush (v := (-2)) hx hb dX10_eaten_20 (by decide) ?_
  exact x_reti S hr hlk hQ hS () rfl x_T dX10_eaten_22

set_option maxHeartbeats 4000000 in
set_option maxRecDepth 100000 in
theorem ctX10_turned (l : Launch) (D : va_G) (k : Nat → ClassId) (o : Nat → Nat) (p0 : Int32)  : RO l yX10_turned cX10_turned 2 (some .int) 2 D k [.ref (o 0), .int p0] [((o 0), .inr (10, [.ref (o 1), .ref (o 2), .ref (o 3), .ref (o 4), .ref (o 5), .ref (o 6), .ref (o 7), .ref (o 8), .ref (o 9), .ref (o 10), .ref (o 11), .ref (o 12), .ref (o 13), .ref (o 14)])), ((o 3), .inr (2, [.int 0, .int 0, .int 0, .int 0, .int 0, .int 0, .int 0, .int 0, .int 0, .ref (o 26), .ref (o 27), .ref (o 28), .ref (o 29), .ref (o 30), .ref (o 31), .ref (o 32), .ref (o 33), .ref (o 34), .ref (o 35)]))] (Qi (fun r : Int32 => r = (-2))) := by
  refine RO.of (by decide) (Nat.le_of_ble_eq_true rfl) ?_
  intro p e s m below meth c ls A args Q S hr hlk hQ hK hP hDW hA hS hl
  have hx := S.1
  have hb := S.2.1
  have hl : lv_has ls 2 [(0, .ref (o 0)), (1, .int p0)] := hl
  refine lv_aload_n hx hb dX10_turned_0 rfl (lv_at hl 0 rfl) ?_
  refine lv_iload_n hx hb dX10_turned_1 rfl (lv_at hl 1 rfl) ?_
  refine x_roVi (As := [.int p0]) S hK hP hS hA hl mwX10_isHour lkX10_161 (ctX10_isHour l D k o p0 ) [0, 1] rfl (hDW.sub [0, 1] (by decide) rfl) rfl rfl rfl rfl rfl ⟨Nat.le_of_ble_eq_true rfl, Nat.le_of_ble_eq_true rfl, Nat.le_of_ble_eq_true rfl⟩ dX10_turned_2 ⟨Nat.le_of_ble_eq_true rfl, Nat.le_of_ble_eq_true rfl⟩ (fun r_1 H locs hr_1 hP hS => ?_)
  subst hr_1
  refine lv_if_eq (tgt := 19) hx hb dX10_turned_5 (by decide) (fun c_2 => ?_) (fun c_2 => absurd (by decide) c_2)
  refine lv_bipush (v := (-2)) hx hb dX10_turned_19 (by decide) ?_
  exact x_reti S hr hlk hQ hS () rfl x_T dX10_turned_21

set_option maxHeartbeats 4000000 in
set_option maxRecDepth 100000 in
theorem ctX10_sways (l : Launch) (D : va_G) (k : Nat → ClassId) (o : Nat → Nat) (p0 : Int32)  : RO l yX10_sways cX10_sways 2 (some .int) 1 D k [.ref (o 0), .int p0] [((o 0), .inr (10, [.ref (o 1), .ref (o 2), .ref (o 3), .ref (o 4), .ref (o 5), .ref (o 6), .ref (o 7), .ref (o 8), .ref (o 9), .ref (o 10), .ref (o 11), .ref (o 12), .ref (o 13), .ref (o 14)])), ((o 3), .inr (2, [.int 0, .int 0, .int 0, .int 0, .int 0, .int 0, .int 0, .int 0, .int 0, .ref (o 26), .ref (o 27), .ref (o 28), .ref (o 29), .ref (o 30), .ref (o 31), .ref (o 32), .ref (o 33), .ref (o 34), .ref (o 35)]))] (Qi (fun r : Int32 => r = (-2))) := by
  refine RO.of (by decide) (Nat.le_of_ble_eq_true rfl) ?_
  intro p e s m below meth c ls A args Q S hr hlk hQ hK hP hDW hA hS hl
  have hx := S.1
  have hb := S.2.1
  have hl : lv_has ls 2 [(0, .ref (o 0)), (1, .int p0)] := hl
  refine lv_aload_n hx hb dX10_sways_0 rfl (lv_at hl 0 rfl) ?_
  refine lv_iload_n hx hb dX10_sways_1 rfl (lv_at hl 1 rfl) ?_
  refine x_roVi (As := [.int p0]) S hK hP hS hA hl mwX10_isHead lkX10_135 (ctX10_isHead l D k o p0 ) [0, 1] rfl (hDW.sub [0, 1] (by decide) rfl) rfl rfl rfl rfl rfl ⟨Nat.le_of_ble_eq_true rfl, Nat.le_of_ble_eq_true rfl, Nat.le_of_ble_eq_true rfl⟩ dX10_sways_2 ⟨Nat.le_of_ble_eq_true rfl, Nat.le_of_ble_eq_true rfl⟩ (fun r_1 H locs hr_1 hP hS => ?_)
  subst hr_1
  refine lv_if_eq (tgt := 19) hx hb dX10_sways_5 (by decide) (fun c_2 => ?_) (fun c_2 => absurd (by decide) c_2)
  refine lv_bipush (v := (-2)) hx hb dX10_sways_19 (by decide) ?_
  exact x_reti S hr hlk hQ hS () rfl x_T dX10_sways_21

set_option maxHeartbeats 4000000 in
set_option maxRecDepth 100000 in
theorem ctX10_when (l : Launch) (D : va_G) (k : Nat → ClassId) (o : Nat → Nat) (p0 : Int32) (p1 : Int32)  : RO l yX10_when cX10_when 3 (some .int) 1 D k [.ref (o 0), .int p0, .int p1] [((o 0), .inr (10, [.ref (o 1), .ref (o 2), .ref (o 3), .ref (o 4), .ref (o 5), .ref (o 6), .ref (o 7), .ref (o 8), .ref (o 9), .ref (o 10), .ref (o 11), .ref (o 12), .ref (o 13), .ref (o 14)])), ((o 3), .inr (2, [.int 0, .int 0, .int 0, .int 0, .int 0, .int 0, .int 0, .int 0, .int 0, .ref (o 26), .ref (o 27), .ref (o 28), .ref (o 29), .ref (o 30), .ref (o 31), .ref (o 32), .ref (o 33), .ref (o 34), .ref (o 35)]))] (Qi (fun r : Int32 => r = (-2))) := by
  refine RO.of (by decide) (Nat.le_of_ble_eq_true rfl) ?_
  intro p e s m below meth c ls A args Q S hr hlk hQ hK hP hDW hA hS hl
  have hx := S.1
  have hb := S.2.1
  have hl : lv_has ls 3 [(0, .ref (o 0)), (1, .int p0), (2, .int p1)] := hl
  refine lv_aload_n hx hb dX10_when_0 rfl (lv_at hl 0 rfl) ?_
  refine lv_iload_n hx hb dX10_when_1 rfl (lv_at hl 1 rfl) ?_
  refine x_roVi (As := [.int p0]) S hK hP hS hA hl mwX10_isHead lkX10_135 (ctX10_isHead l D k o p0 ) [0, 1] rfl (hDW.sub [0, 1] (by decide) rfl) rfl rfl rfl rfl rfl ⟨Nat.le_of_ble_eq_true rfl, Nat.le_of_ble_eq_true rfl, Nat.le_of_ble_eq_true rfl⟩ dX10_when_2 ⟨Nat.le_of_ble_eq_true rfl, Nat.le_of_ble_eq_true rfl⟩ (fun r_1 H locs hr_1 hP hS => ?_)
  subst hr_1
  refine lv_if_eq (tgt := 29) hx hb dX10_when_5 (by decide) (fun c_2 => ?_) (fun c_2 => absurd (by decide) c_2)
  refine lv_bipush (v := (-2)) hx hb dX10_when_29 (by decide) ?_
  exact x_reti S hr hlk hQ hS () rfl x_T dX10_when_31

set_option maxHeartbeats 4000000 in
set_option maxRecDepth 100000 in
theorem ctX10_often (l : Launch) (D : va_G) (k : Nat → ClassId) (o : Nat → Nat) (p0 : Int32) (p1 : Int32)  : RO l yX10_often cX10_often 3 (some .int) 1 D k [.ref (o 0), .int p0, .int p1] [((o 0), .inr (10, [.ref (o 1), .ref (o 2), .ref (o 3), .ref (o 4), .ref (o 5), .ref (o 6), .ref (o 7), .ref (o 8), .ref (o 9), .ref (o 10), .ref (o 11), .ref (o 12), .ref (o 13), .ref (o 14)])), ((o 3), .inr (2, [.int 0, .int 0, .int 0, .int 0, .int 0, .int 0, .int 0, .int 0, .int 0, .ref (o 26), .ref (o 27), .ref (o 28), .ref (o 29), .ref (o 30), .ref (o 31), .ref (o 32), .ref (o 33), .ref (o 34), .ref (o 35)]))] (Qi (fun r : Int32 => r = (-2))) := by
  refine RO.of (by decide) (Nat.le_of_ble_eq_true rfl) ?_
  intro p e s m below meth c ls A args Q S hr hlk hQ hK hP hDW hA hS hl
  have hx := S.1
  have hb := S.2.1
  have hl : lv_has ls 3 [(0, .ref (o 0)), (1, .int p0), (2, .int p1)] := hl
  refine lv_aload_n hx hb dX10_often_0 rfl (lv_at hl 0 rfl) ?_
  refine lv_iload_n hx hb dX10_often_1 rfl (lv_at hl 1 rfl) ?_
  refine x_roVi (As := [.int p0]) S hK hP hS hA hl mwX10_isHead lkX10_135 (ctX10_isHead l D k o p0 ) [0, 1] rfl (hDW.sub [0, 1] (by decide) rfl) rfl rfl rfl rfl rfl ⟨Nat.le_of_ble_eq_true rfl, Nat.le_of_ble_eq_true rfl, Nat.le_of_ble_eq_true rfl⟩ dX10_often_2 ⟨Nat.le_of_ble_eq_true rfl, Nat.le_of_ble_eq_true rfl⟩ (fun r_1 H locs hr_1 hP hS => ?_)
  subst hr_1
  refine lv_if_eq (tgt := 27) hx hb dX10_often_5 (by decide) (fun c_2 => ?_) (fun c_2 => absurd (by decide) c_2)
  refine lv_bipush (v := (-2)) hx hb dX10_often_27 (by decide) ?_
  exact x_reti S hr hlk hQ hS () rfl x_T dX10_often_29

set_option maxHeartbeats 4000000 in
set_option maxRecDepth 100000 in
theorem ctX10_heart (l : Launch) (D : va_G) (k : Nat → ClassId) (o : Nat → Nat) (p0 : Int32)  : RO l yX10_heart cX10_heart 2 (some .int) 1 D k [.ref (o 0), .int p0] [((o 0), .inr (10, [.ref (o 1), .ref (o 2), .ref (o 3), .ref (o 4), .ref (o 5), .ref (o 6), .ref (o 7), .ref (o 8), .ref (o 9), .ref (o 10), .ref (o 11), .ref (o 12), .ref (o 13), .ref (o 14)])), ((o 3), .inr (2, [.int 0, .int 0, .int 0, .int 0, .int 0, .int 0, .int 0, .int 0, .int 0, .ref (o 26), .ref (o 27), .ref (o 28), .ref (o 29), .ref (o 30), .ref (o 31), .ref (o 32), .ref (o 33), .ref (o 34), .ref (o 35)]))] (Qi (fun r : Int32 => r = (-2))) := by
  refine RO.of (by decide) (Nat.le_of_ble_eq_true rfl) ?_
  intro p e s m below meth c ls A args Q S hr hlk hQ hK hP hDW hA hS hl
  have hx := S.1
  have hb := S.2.1
  have hl : lv_has ls 2 [(0, .ref (o 0)), (1, .int p0)] := hl
  refine lv_aload_n hx hb dX10_heart_0 rfl (lv_at hl 0 rfl) ?_
  refine lv_iload_n hx hb dX10_heart_1 rfl (lv_at hl 1 rfl) ?_
  refine x_roVi (As := [.int p0]) S hK hP hS hA hl mwX10_isHead lkX10_135 (ctX10_isHead l D k o p0 ) [0, 1] rfl (hDW.sub [0, 1] (by decide) rfl) rfl rfl rfl rfl rfl ⟨Nat.le_of_ble_eq_true rfl, Nat.le_of_ble_eq_true rfl, Nat.le_of_ble_eq_true rfl⟩ dX10_heart_2 ⟨Nat.le_of_ble_eq_true rfl, Nat.le_of_ble_eq_true rfl⟩ (fun r_1 H locs hr_1 hP hS => ?_)
  subst hr_1
  refine lv_if_eq (tgt := 19) hx hb dX10_heart_5 (by decide) (fun c_2 => ?_) (fun c_2 => absurd (by decide) c_2)
  refine lv_bipush (v := (-2)) hx hb dX10_heart_19 (by decide) ?_
  exact x_reti S hr hlk hQ hS () rfl x_T dX10_heart_21

set_option maxHeartbeats 4000000 in
set_option maxRecDepth 100000 in
theorem ctX10_fickle (l : Launch) (D : va_G) (k : Nat → ClassId) (o : Nat → Nat)  : RO l yX10_fickle cX10_fickle 1 (some .int) 1 D k [.ref (o 0)] [((o 0), .inr (10, [.ref (o 1), .ref (o 2), .ref (o 3), .ref (o 4), .ref (o 5), .ref (o 6), .ref (o 7), .ref (o 8), .ref (o 9), .ref (o 10), .ref (o 11), .ref (o 12), .ref (o 13), .ref (o 14)])), ((o 3), .inr (2, [.int 0, .int 0, .int 0, .int 0, .int 0, .int 0, .int 0, .int 0, .int 0, .ref (o 26), .ref (o 27), .ref (o 28), .ref (o 29), .ref (o 30), .ref (o 31), .ref (o 32), .ref (o 33), .ref (o 34), .ref (o 35)]))] (Qi (fun r : Int32 => r = (-2))) := by
  refine RO.of (by decide) (Nat.le_of_ble_eq_true rfl) ?_
  intro p e s m below meth c ls A args Q S hr hlk hQ hK hP hDW hA hS hl
  have hx := S.1
  have hb := S.2.1
  have hl : lv_has ls 1 [(0, .ref (o 0))] := hl
  refine lv_aload_n hx hb dX10_fickle_0 rfl (lv_at hl 0 rfl) ?_
  refine x_roVi (As := []) S hK hP hS hA hl mwX10_isGarden lkX10_196 (ctX10_isGarden l D k o ) [0, 1] rfl (hDW.sub [0, 1] (by decide) rfl) rfl rfl rfl rfl rfl ⟨Nat.le_of_ble_eq_true rfl, Nat.le_of_ble_eq_true rfl, Nat.le_of_ble_eq_true rfl⟩ dX10_fickle_1 ⟨Nat.le_of_ble_eq_true rfl, Nat.le_of_ble_eq_true rfl⟩ (fun r_1 H locs hr_1 hP hS => ?_)
  subst hr_1
  refine lv_if_eq (tgt := 17) hx hb dX10_fickle_4 (by decide) (fun c_2 => ?_) (fun c_2 => absurd (by decide) c_2)
  refine lv_bipush (v := (-2)) hx hb dX10_fickle_17 (by decide) ?_
  exact x_reti S hr hlk hQ hS () rfl x_T dX10_fickle_19

set_option maxHeartbeats 4000000 in
set_option maxRecDepth 100000 in
theorem ctX10_agree (l : Launch) (D : va_G) (k : Nat → ClassId) (o : Nat → Nat)  : RO l yX10_agree cX10_agree 1 (some .int) 1 D k [.ref (o 0)] [((o 0), .inr (10, [.ref (o 1), .ref (o 2), .ref (o 3), .ref (o 4), .ref (o 5), .ref (o 6), .ref (o 7), .ref (o 8), .ref (o 9), .ref (o 10), .ref (o 11), .ref (o 12), .ref (o 13), .ref (o 14)])), ((o 3), .inr (2, [.int 0, .int 0, .int 0, .int 0, .int 0, .int 0, .int 0, .int 0, .int 0, .ref (o 26), .ref (o 27), .ref (o 28), .ref (o 29), .ref (o 30), .ref (o 31), .ref (o 32), .ref (o 33), .ref (o 34), .ref (o 35)]))] (Qi (fun r : Int32 => r = (-2))) := by
  refine RO.of (by decide) (Nat.le_of_ble_eq_true rfl) ?_
  intro p e s m below meth c ls A args Q S hr hlk hQ hK hP hDW hA hS hl
  have hx := S.1
  have hb := S.2.1
  have hl : lv_has ls 1 [(0, .ref (o 0))] := hl
  refine lv_aload_n hx hb dX10_agree_0 rfl (lv_at hl 0 rfl) ?_
  refine x_roVi (As := []) S hK hP hS hA hl mwX10_isGarden lkX10_196 (ctX10_isGarden l D k o ) [0, 1] rfl (hDW.sub [0, 1] (by decide) rfl) rfl rfl rfl rfl rfl ⟨Nat.le_of_ble_eq_true rfl, Nat.le_of_ble_eq_true rfl, Nat.le_of_ble_eq_true rfl⟩ dX10_agree_1 ⟨Nat.le_of_ble_eq_true rfl, Nat.le_of_ble_eq_true rfl⟩ (fun r_1 H locs hr_1 hP hS => ?_)
  subst hr_1
  refine lv_if_eq (tgt := 17) hx hb dX10_agree_4 (by decide) (fun c_2 => ?_) (fun c_2 => absurd (by decide) c_2)
  refine lv_bipush (v := (-2)) hx hb dX10_agree_17 (by decide) ?_
  exact x_reti S hr hlk hQ hS () rfl x_T dX10_agree_19

set_option maxHeartbeats 4000000 in
set_option maxRecDepth 100000 in
theorem ctX10_still (l : Launch) (D : va_G) (k : Nat → ClassId) (o : Nat → Nat)  : RO l yX10_still cX10_still 1 (some .int) 1 D k [.ref (o 0)] [((o 0), .inr (10, [.ref (o 1), .ref (o 2), .ref (o 3), .ref (o 4), .ref (o 5), .ref (o 6), .ref (o 7), .ref (o 8), .ref (o 9), .ref (o 10), .ref (o 11), .ref (o 12), .ref (o 13), .ref (o 14)])), ((o 3), .inr (2, [.int 0, .int 0, .int 0, .int 0, .int 0, .int 0, .int 0, .int 0, .int 0, .ref (o 26), .ref (o 27), .ref (o 28), .ref (o 29), .ref (o 30), .ref (o 31), .ref (o 32), .ref (o 33), .ref (o 34), .ref (o 35)]))] (Qi (fun r : Int32 => r = (-2))) := by
  refine RO.of (by decide) (Nat.le_of_ble_eq_true rfl) ?_
  intro p e s m below meth c ls A args Q S hr hlk hQ hK hP hDW hA hS hl
  have hx := S.1
  have hb := S.2.1
  have hl : lv_has ls 1 [(0, .ref (o 0))] := hl
  refine lv_aload_n hx hb dX10_still_0 rfl (lv_at hl 0 rfl) ?_
  refine x_roVi (As := []) S hK hP hS hA hl mwX10_isGarden lkX10_196 (ctX10_isGarden l D k o ) [0, 1] rfl (hDW.sub [0, 1] (by decide) rfl) rfl rfl rfl rfl rfl ⟨Nat.le_of_ble_eq_true rfl, Nat.le_of_ble_eq_true rfl, Nat.le_of_ble_eq_true rfl⟩ dX10_still_1 ⟨Nat.le_of_ble_eq_true rfl, Nat.le_of_ble_eq_true rfl⟩ (fun r_1 H locs hr_1 hP hS => ?_)
  subst hr_1
  refine lv_if_eq (tgt := 17) hx hb dX10_still_4 (by decide) (fun c_2 => ?_) (fun c_2 => absurd (by decide) c_2)
  refine lv_bipush (v := (-2)) hx hb dX10_still_17 (by decide) ?_
  exact x_reti S hr hlk hQ hS () rfl x_T dX10_still_19

set_option maxHeartbeats 4000000 in
set_option maxRecDepth 100000 in
theorem ctX10_quiet (l : Launch) (D : va_G) (k : Nat → ClassId) (o : Nat → Nat)  : RO l yX10_quiet cX10_quiet 1 (some .int) 1 D k [.ref (o 0)] [((o 0), .inr (10, [.ref (o 1), .ref (o 2), .ref (o 3), .ref (o 4), .ref (o 5), .ref (o 6), .ref (o 7), .ref (o 8), .ref (o 9), .ref (o 10), .ref (o 11), .ref (o 12), .ref (o 13), .ref (o 14)])), ((o 3), .inr (2, [.int 0, .int 0, .int 0, .int 0, .int 0, .int 0, .int 0, .int 0, .int 0, .ref (o 26), .ref (o 27), .ref (o 28), .ref (o 29), .ref (o 30), .ref (o 31), .ref (o 32), .ref (o 33), .ref (o 34), .ref (o 35)]))] (Qi (fun r : Int32 => r = (-2))) := by
  refine RO.of (by decide) (Nat.le_of_ble_eq_true rfl) ?_
  intro p e s m below meth c ls A args Q S hr hlk hQ hK hP hDW hA hS hl
  have hx := S.1
  have hb := S.2.1
  have hl : lv_has ls 1 [(0, .ref (o 0))] := hl
  refine lv_aload_n hx hb dX10_quiet_0 rfl (lv_at hl 0 rfl) ?_
  refine x_roVi (As := []) S hK hP hS hA hl mwX10_isGarden lkX10_196 (ctX10_isGarden l D k o ) [0, 1] rfl (hDW.sub [0, 1] (by decide) rfl) rfl rfl rfl rfl rfl ⟨Nat.le_of_ble_eq_true rfl, Nat.le_of_ble_eq_true rfl, Nat.le_of_ble_eq_true rfl⟩ dX10_quiet_1 ⟨Nat.le_of_ble_eq_true rfl, Nat.le_of_ble_eq_true rfl⟩ (fun r_1 H locs hr_1 hP hS => ?_)
  subst hr_1
  refine lv_if_eq (tgt := 17) hx hb dX10_quiet_4 (by decide) (fun c_2 => ?_) (fun c_2 => absurd (by decide) c_2)
  refine lv_bipush (v := (-2)) hx hb dX10_quiet_17 (by decide) ?_
  exact x_reti S hr hlk hQ hS () rfl x_T dX10_quiet_19

set_option maxHeartbeats 4000000 in
set_option maxRecDepth 100000 in
theorem ctX10_settles (l : Launch) (D : va_G) (k : Nat → ClassId) (o : Nat → Nat)  : RO l yX10_settles cX10_settles 2 (some .int) 1 D k [.ref (o 0)] [((o 0), .inr (10, [.ref (o 1), .ref (o 2), .ref (o 3), .ref (o 4), .ref (o 5), .ref (o 6), .ref (o 7), .ref (o 8), .ref (o 9), .ref (o 10), .ref (o 11), .ref (o 12), .ref (o 13), .ref (o 14)])), ((o 3), .inr (2, [.int 0, .int 0, .int 0, .int 0, .int 0, .int 0, .int 0, .int 0, .int 0, .ref (o 26), .ref (o 27), .ref (o 28), .ref (o 29), .ref (o 30), .ref (o 31), .ref (o 32), .ref (o 33), .ref (o 34), .ref (o 35)]))] (Qi (fun r : Int32 => r = (-2))) := by
  refine RO.of (by decide) (Nat.le_of_ble_eq_true rfl) ?_
  intro p e s m below meth c ls A args Q S hr hlk hQ hK hP hDW hA hS hl
  have hx := S.1
  have hb := S.2.1
  have hl : lv_has ls 2 [(0, .ref (o 0))] := hl
  refine lv_aload_n hx hb dX10_settles_0 rfl (lv_at hl 0 rfl) ?_
  refine x_roVi (As := []) S hK hP hS hA hl mwX10_isGarden lkX10_196 (ctX10_isGarden l D k o ) [0, 1] rfl (hDW.sub [0, 1] (by decide) rfl) rfl rfl rfl rfl rfl ⟨Nat.le_of_ble_eq_true rfl, Nat.le_of_ble_eq_true rfl, Nat.le_of_ble_eq_true rfl⟩ dX10_settles_1 ⟨Nat.le_of_ble_eq_true rfl, Nat.le_of_ble_eq_true rfl⟩ (fun r_1 H locs hr_1 hP hS => ?_)
  subst hr_1
  refine lv_if_ne (tgt := 10) hx hb dX10_settles_4 (by decide) (fun c_2 => absurd (by decide) c_2) (fun c_2 => ?_)
  refine lv_bipush (v := (-2)) hx hb dX10_settles_7 (by decide) ?_
  exact x_reti S hr hlk hQ hS () rfl x_T dX10_settles_9

set_option maxHeartbeats 4000000 in
set_option maxRecDepth 100000 in
theorem ctX10_round (l : Launch) (D : va_G) (k : Nat → ClassId) (o : Nat → Nat)  : RO l yX10_round cX10_round 1 (some .int) 1 D k [.ref (o 0)] [((o 0), .inr (10, [.ref (o 1), .ref (o 2), .ref (o 3), .ref (o 4), .ref (o 5), .ref (o 6), .ref (o 7), .ref (o 8), .ref (o 9), .ref (o 10), .ref (o 11), .ref (o 12), .ref (o 13), .ref (o 14)])), ((o 3), .inr (2, [.int 0, .int 0, .int 0, .int 0, .int 0, .int 0, .int 0, .int 0, .int 0, .ref (o 26), .ref (o 27), .ref (o 28), .ref (o 29), .ref (o 30), .ref (o 31), .ref (o 32), .ref (o 33), .ref (o 34), .ref (o 35)]))] (Qi (fun r : Int32 => r = (-2))) := by
  refine RO.of (by decide) (Nat.le_of_ble_eq_true rfl) ?_
  intro p e s m below meth c ls A args Q S hr hlk hQ hK hP hDW hA hS hl
  have hx := S.1
  have hb := S.2.1
  have hl : lv_has ls 1 [(0, .ref (o 0))] := hl
  refine lv_aload_n hx hb dX10_round_0 rfl (lv_at hl 0 rfl) ?_
  refine x_roVi (As := []) S hK hP hS hA hl mwX10_isGarden lkX10_196 (ctX10_isGarden l D k o ) [0, 1] rfl (hDW.sub [0, 1] (by decide) rfl) rfl rfl rfl rfl rfl ⟨Nat.le_of_ble_eq_true rfl, Nat.le_of_ble_eq_true rfl, Nat.le_of_ble_eq_true rfl⟩ dX10_round_1 ⟨Nat.le_of_ble_eq_true rfl, Nat.le_of_ble_eq_true rfl⟩ (fun r_1 H locs hr_1 hP hS => ?_)
  subst hr_1
  refine lv_if_eq (tgt := 17) hx hb dX10_round_4 (by decide) (fun c_2 => ?_) (fun c_2 => absurd (by decide) c_2)
  refine lv_bipush (v := (-2)) hx hb dX10_round_17 (by decide) ?_
  exact x_reti S hr hlk hQ hS () rfl x_T dX10_round_19

set_option maxHeartbeats 4000000 in
set_option maxRecDepth 100000 in
theorem ctX10_mind (l : Launch) (D : va_G) (k : Nat → ClassId) (o : Nat → Nat) (p0 : Int32) (p1 : Int32)  : RO l yX10_mind cX10_mind 3 (some .int) 1 D k [.ref (o 0), .int p0, .int p1] [((o 0), .inr (10, [.ref (o 1), .ref (o 2), .ref (o 3), .ref (o 4), .ref (o 5), .ref (o 6), .ref (o 7), .ref (o 8), .ref (o 9), .ref (o 10), .ref (o 11), .ref (o 12), .ref (o 13), .ref (o 14)])), ((o 3), .inr (2, [.int 0, .int 0, .int 0, .int 0, .int 0, .int 0, .int 0, .int 0, .int 0, .ref (o 26), .ref (o 27), .ref (o 28), .ref (o 29), .ref (o 30), .ref (o 31), .ref (o 32), .ref (o 33), .ref (o 34), .ref (o 35)]))] (Qi (fun r : Int32 => r = (-2))) := by
  refine RO.of (by decide) (Nat.le_of_ble_eq_true rfl) ?_
  intro p e s m below meth c ls A args Q S hr hlk hQ hK hP hDW hA hS hl
  have hx := S.1
  have hb := S.2.1
  have hl : lv_has ls 3 [(0, .ref (o 0)), (1, .int p0), (2, .int p1)] := hl
  refine lv_aload_n hx hb dX10_mind_0 rfl (lv_at hl 0 rfl) ?_
  refine lv_iload_n hx hb dX10_mind_1 rfl (lv_at hl 1 rfl) ?_
  refine x_roVi (As := [.int p0]) S hK hP hS hA hl mwX10_isRow lkX10_155 (ctX10_isRow l D k o p0 ) [0, 1] rfl (hDW.sub [0, 1] (by decide) rfl) rfl rfl rfl rfl rfl ⟨Nat.le_of_ble_eq_true rfl, Nat.le_of_ble_eq_true rfl, Nat.le_of_ble_eq_true rfl⟩ dX10_mind_2 ⟨Nat.le_of_ble_eq_true rfl, Nat.le_of_ble_eq_true rfl⟩ (fun r_1 H locs hr_1 hP hS => ?_)
  subst hr_1
  refine lv_if_eq (tgt := 28) hx hb dX10_mind_5 (by decide) (fun c_2 => ?_) (fun c_2 => absurd (by decide) c_2)
  refine lv_bipush (v := (-2)) hx hb dX10_mind_28 (by decide) ?_
  exact x_reti S hr hlk hQ hS () rfl x_T dX10_mind_30

set_option maxHeartbeats 4000000 in
set_option maxRecDepth 100000 in
theorem ctX10_rows (l : Launch) (D : va_G) (k : Nat → ClassId) (o : Nat → Nat) (p0 : Int32) (p1 : Int32)  : RO l yX10_rows cX10_rows 3 (some .int) 2 D k [.ref (o 0), .int p0, .int p1] [((o 0), .inr (10, [.ref (o 1), .ref (o 2), .ref (o 3), .ref (o 4), .ref (o 5), .ref (o 6), .ref (o 7), .ref (o 8), .ref (o 9), .ref (o 10), .ref (o 11), .ref (o 12), .ref (o 13), .ref (o 14)])), ((o 3), .inr (2, [.int 0, .int 0, .int 0, .int 0, .int 0, .int 0, .int 0, .int 0, .int 0, .ref (o 26), .ref (o 27), .ref (o 28), .ref (o 29), .ref (o 30), .ref (o 31), .ref (o 32), .ref (o 33), .ref (o 34), .ref (o 35)]))] (Qi (fun r : Int32 => r = (-2))) := by
  refine RO.of (by decide) (Nat.le_of_ble_eq_true rfl) ?_
  intro p e s m below meth c ls A args Q S hr hlk hQ hK hP hDW hA hS hl
  have hx := S.1
  have hb := S.2.1
  have hl : lv_has ls 3 [(0, .ref (o 0)), (1, .int p0), (2, .int p1)] := hl
  refine lv_iload_n hx hb dX10_rows_0 rfl (lv_at hl 1 rfl) ?_
  refine x_roSi (As := [.int p0]) S hK hP hS hA hl mwX10_isView lkX10_184 (ctX10_isView l D k p0 ) [] rfl D_nil rfl rfl ⟨Nat.le_of_ble_eq_true rfl, Nat.le_of_ble_eq_true rfl, Nat.le_of_ble_eq_true rfl⟩ dX10_rows_1 ⟨Nat.le_of_ble_eq_true rfl, Nat.le_of_ble_eq_true rfl⟩ (fun r_1 H locs hr_1 hP hS => ?_)
  refine lv_if_eq (tgt := 27) hx hb dX10_rows_4 (by decide) (fun c_2 => ?_) (fun c_2 => ?_)
  · skip
    refine lv_bipush (v := (-2)) hx hb dX10_rows_27 (by decide) ?_
    exact x_reti S hr hlk hQ hS () rfl x_T dX10_rows_29
  · skip
    refine lv_aload_n hx hb dX10_rows_7 rfl (lv_at hl 0 rfl) ?_
    refine lv_iload_n hx hb dX10_rows_8 rfl (lv_at hl 2 rfl) ?_
    refine x_roVi (As := [.int p1]) S hK hP hS hA hl mwX10_isHour lkX10_161 (ctX10_isHour l D k o p1 ) [0, 1] rfl (hDW.sub [0, 1] (by decide) rfl) rfl rfl rfl rfl rfl ⟨Nat.le_of_ble_eq_true rfl, Nat.le_of_ble_eq_true rfl, Nat.le_of_ble_eq_true rfl⟩ dX10_rows_9 ⟨Nat.le_of_ble_eq_true rfl, Nat.le_of_ble_eq_true rfl⟩ (fun r_3 H locs hr_3 hP hS => ?_)
    subst hr_3
    refine lv_if_eq (tgt := 27) hx hb dX10_rows_12 (by decide) (fun c_4 => ?_) (fun c_4 => absurd (by decide) c_4)
    refine lv_bipush (v := (-2)) hx hb dX10_rows_27 (by decide) ?_
    exact x_reti S hr hlk hQ hS () rfl x_T dX10_rows_29

set_option maxHeartbeats 4000000 in
set_option maxRecDepth 100000 in
theorem ctX10_split (l : Launch) (D : va_G) (k : Nat → ClassId) (o : Nat → Nat) (p0 : Int32)  : RO l yX10_split cX10_split 2 (some .int) 2 D k [.ref (o 0), .int p0] [((o 0), .inr (10, [.ref (o 1), .ref (o 2), .ref (o 3), .ref (o 4), .ref (o 5), .ref (o 6), .ref (o 7), .ref (o 8), .ref (o 9), .ref (o 10), .ref (o 11), .ref (o 12), .ref (o 13), .ref (o 14)])), ((o 3), .inr (2, [.int 0, .int 0, .int 0, .int 0, .int 0, .int 0, .int 0, .int 0, .int 0, .ref (o 26), .ref (o 27), .ref (o 28), .ref (o 29), .ref (o 30), .ref (o 31), .ref (o 32), .ref (o 33), .ref (o 34), .ref (o 35)]))] (Qi (fun r : Int32 => r = (-2))) := by
  refine RO.of (by decide) (Nat.le_of_ble_eq_true rfl) ?_
  intro p e s m below meth c ls A args Q S hr hlk hQ hK hP hDW hA hS hl
  have hx := S.1
  have hb := S.2.1
  have hl : lv_has ls 2 [(0, .ref (o 0)), (1, .int p0)] := hl
  refine lv_aload_n hx hb dX10_split_0 rfl (lv_at hl 0 rfl) ?_
  refine lv_iload_n hx hb dX10_split_1 rfl (lv_at hl 1 rfl) ?_
  refine x_roVi (As := [.int p0]) S hK hP hS hA hl mwX10_isHour lkX10_161 (ctX10_isHour l D k o p0 ) [0, 1] rfl (hDW.sub [0, 1] (by decide) rfl) rfl rfl rfl rfl rfl ⟨Nat.le_of_ble_eq_true rfl, Nat.le_of_ble_eq_true rfl, Nat.le_of_ble_eq_true rfl⟩ dX10_split_2 ⟨Nat.le_of_ble_eq_true rfl, Nat.le_of_ble_eq_true rfl⟩ (fun r_1 H locs hr_1 hP hS => ?_)
  subst hr_1
  refine lv_if_eq (tgt := 29) hx hb dX10_split_5 (by decide) (fun c_2 => ?_) (fun c_2 => absurd (by decide) c_2)
  refine lv_bipush (v := (-2)) hx hb dX10_split_29 (by decide) ?_
  exact x_reti S hr hlk hQ hS () rfl x_T dX10_split_31

set_option maxHeartbeats 4000000 in
set_option maxRecDepth 100000 in
theorem ctX10_main (l : Launch) (D : va_G) (k : Nat → ClassId) (o : Nat → Nat) (p0 : Int32)  : RO l yX10_main cX10_main 2 (some .int) 2 D k [.ref (o 0), .int p0] [((o 0), .inr (10, [.ref (o 1), .ref (o 2), .ref (o 3), .ref (o 4), .ref (o 5), .ref (o 6), .ref (o 7), .ref (o 8), .ref (o 9), .ref (o 10), .ref (o 11), .ref (o 12), .ref (o 13), .ref (o 14)])), ((o 3), .inr (2, [.int 0, .int 0, .int 0, .int 0, .int 0, .int 0, .int 0, .int 0, .int 0, .ref (o 26), .ref (o 27), .ref (o 28), .ref (o 29), .ref (o 30), .ref (o 31), .ref (o 32), .ref (o 33), .ref (o 34), .ref (o 35)]))] (Qi (fun r : Int32 => r = (-2))) := by
  refine RO.of (by decide) (Nat.le_of_ble_eq_true rfl) ?_
  intro p e s m below meth c ls A args Q S hr hlk hQ hK hP hDW hA hS hl
  have hx := S.1
  have hb := S.2.1
  have hl : lv_has ls 2 [(0, .ref (o 0)), (1, .int p0)] := hl
  refine lv_aload_n hx hb dX10_main_0 rfl (lv_at hl 0 rfl) ?_
  refine lv_iload_n hx hb dX10_main_1 rfl (lv_at hl 1 rfl) ?_
  refine x_roVi (As := [.int p0]) S hK hP hS hA hl mwX10_isHour lkX10_161 (ctX10_isHour l D k o p0 ) [0, 1] rfl (hDW.sub [0, 1] (by decide) rfl) rfl rfl rfl rfl rfl ⟨Nat.le_of_ble_eq_true rfl, Nat.le_of_ble_eq_true rfl, Nat.le_of_ble_eq_true rfl⟩ dX10_main_2 ⟨Nat.le_of_ble_eq_true rfl, Nat.le_of_ble_eq_true rfl⟩ (fun r_1 H locs hr_1 hP hS => ?_)
  subst hr_1
  refine lv_if_eq (tgt := 29) hx hb dX10_main_5 (by decide) (fun c_2 => ?_) (fun c_2 => absurd (by decide) c_2)
  refine lv_bipush (v := (-2)) hx hb dX10_main_29 (by decide) ?_
  exact x_reti S hr hlk hQ hS () rfl x_T dX10_main_31

set_option maxHeartbeats 4000000 in
set_option maxRecDepth 100000 in
theorem ctX10_first (l : Launch) (D : va_G) (k : Nat → ClassId) (o : Nat → Nat) (p0 : Int32)  : RO l yX10_first cX10_first 2 (some .int) 1 D k [.ref (o 0), .int p0] [((o 0), .inr (10, [.ref (o 1), .ref (o 2), .ref (o 3), .ref (o 4), .ref (o 5), .ref (o 6), .ref (o 7), .ref (o 8), .ref (o 9), .ref (o 10), .ref (o 11), .ref (o 12), .ref (o 13), .ref (o 14)])), ((o 3), .inr (2, [.int 0, .int 0, .int 0, .int 0, .int 0, .int 0, .int 0, .int 0, .int 0, .ref (o 26), .ref (o 27), .ref (o 28), .ref (o 29), .ref (o 30), .ref (o 31), .ref (o 32), .ref (o 33), .ref (o 34), .ref (o 35)]))] (Qi (fun r : Int32 => r = (-2))) := by
  refine RO.of (by decide) (Nat.le_of_ble_eq_true rfl) ?_
  intro p e s m below meth c ls A args Q S hr hlk hQ hK hP hDW hA hS hl
  have hx := S.1
  have hb := S.2.1
  have hl : lv_has ls 2 [(0, .ref (o 0)), (1, .int p0)] := hl
  refine lv_aload_n hx hb dX10_first_0 rfl (lv_at hl 0 rfl) ?_
  refine x_roVi (As := []) S hK hP hS hA hl mwX10_isGarden lkX10_196 (ctX10_isGarden l D k o ) [0, 1] rfl (hDW.sub [0, 1] (by decide) rfl) rfl rfl rfl rfl rfl ⟨Nat.le_of_ble_eq_true rfl, Nat.le_of_ble_eq_true rfl, Nat.le_of_ble_eq_true rfl⟩ dX10_first_1 ⟨Nat.le_of_ble_eq_true rfl, Nat.le_of_ble_eq_true rfl⟩ (fun r_1 H locs hr_1 hP hS => ?_)
  subst hr_1
  refine lv_if_eq (tgt := 32) hx hb dX10_first_4 (by decide) (fun c_2 => ?_) (fun c_2 => absurd (by decide) c_2)
  refine lv_bipush (v := (-2)) hx hb dX10_first_32 (by decide) ?_
  exact x_reti S hr hlk hQ hS () rfl x_T dX10_first_34

set_option maxHeartbeats 4000000 in
set_option maxRecDepth 100000 in
theorem ctX10_solid (l : Launch) (D : va_G) (k : Nat → ClassId) (o : Nat → Nat) (p0 : Int32)  : RO l yX10_solid cX10_solid 2 (some .int) 2 D k [.ref (o 0), .int p0] [((o 0), .inr (10, [.ref (o 1), .ref (o 2), .ref (o 3), .ref (o 4), .ref (o 5), .ref (o 6), .ref (o 7), .ref (o 8), .ref (o 9), .ref (o 10), .ref (o 11), .ref (o 12), .ref (o 13), .ref (o 14)])), ((o 3), .inr (2, [.int 0, .int 0, .int 0, .int 0, .int 0, .int 0, .int 0, .int 0, .int 0, .ref (o 26), .ref (o 27), .ref (o 28), .ref (o 29), .ref (o 30), .ref (o 31), .ref (o 32), .ref (o 33), .ref (o 34), .ref (o 35)]))] (Qi (fun r : Int32 => r = (-2))) := by
  refine RO.of (by decide) (Nat.le_of_ble_eq_true rfl) ?_
  intro p e s m below meth c ls A args Q S hr hlk hQ hK hP hDW hA hS hl
  have hx := S.1
  have hb := S.2.1
  have hl : lv_has ls 2 [(0, .ref (o 0)), (1, .int p0)] := hl
  refine lv_aload_n hx hb dX10_solid_0 rfl (lv_at hl 0 rfl) ?_
  refine lv_iload_n hx hb dX10_solid_1 rfl (lv_at hl 1 rfl) ?_
  refine x_roVi (As := [.int p0]) S hK hP hS hA hl mwX10_isHour lkX10_161 (ctX10_isHour l D k o p0 ) [0, 1] rfl (hDW.sub [0, 1] (by decide) rfl) rfl rfl rfl rfl rfl ⟨Nat.le_of_ble_eq_true rfl, Nat.le_of_ble_eq_true rfl, Nat.le_of_ble_eq_true rfl⟩ dX10_solid_2 ⟨Nat.le_of_ble_eq_true rfl, Nat.le_of_ble_eq_true rfl⟩ (fun r_1 H locs hr_1 hP hS => ?_)
  subst hr_1
  refine lv_if_eq (tgt := 19) hx hb dX10_solid_5 (by decide) (fun c_2 => ?_) (fun c_2 => absurd (by decide) c_2)
  refine lv_bipush (v := (-2)) hx hb dX10_solid_19 (by decide) ?_
  exact x_reti S hr hlk hQ hS () rfl x_T dX10_solid_21

set_option maxHeartbeats 4000000 in
set_option maxRecDepth 100000 in
theorem ctX10_longest (l : Launch) (D : va_G) (k : Nat → ClassId) (o : Nat → Nat) (p0 : Int32) (p1 : Int32)  : RO l yX10_longest cX10_longest 3 (some .int) 2 D k [.ref (o 0), .int p0, .int p1] [((o 0), .inr (10, [.ref (o 1), .ref (o 2), .ref (o 3), .ref (o 4), .ref (o 5), .ref (o 6), .ref (o 7), .ref (o 8), .ref (o 9), .ref (o 10), .ref (o 11), .ref (o 12), .ref (o 13), .ref (o 14)])), ((o 3), .inr (2, [.int 0, .int 0, .int 0, .int 0, .int 0, .int 0, .int 0, .int 0, .int 0, .ref (o 26), .ref (o 27), .ref (o 28), .ref (o 29), .ref (o 30), .ref (o 31), .ref (o 32), .ref (o 33), .ref (o 34), .ref (o 35)]))] (Qi (fun r : Int32 => r = (-2))) := by
  refine RO.of (by decide) (Nat.le_of_ble_eq_true rfl) ?_
  intro p e s m below meth c ls A args Q S hr hlk hQ hK hP hDW hA hS hl
  have hx := S.1
  have hb := S.2.1
  have hl : lv_has ls 3 [(0, .ref (o 0)), (1, .int p0), (2, .int p1)] := hl
  refine lv_iload_n hx hb dX10_longest_0 rfl (lv_at hl 1 rfl) ?_
  refine x_roSi (As := [.int p0]) S hK hP hS hA hl mwX10_isAnyView lkX10_168 (ctX10_isAnyView l D k p0 ) [] rfl D_nil rfl rfl ⟨Nat.le_of_ble_eq_true rfl, Nat.le_of_ble_eq_true rfl, Nat.le_of_ble_eq_true rfl⟩ dX10_longest_1 ⟨Nat.le_of_ble_eq_true rfl, Nat.le_of_ble_eq_true rfl⟩ (fun r_1 H locs hr_1 hP hS => ?_)
  refine lv_if_eq (tgt := 27) hx hb dX10_longest_4 (by decide) (fun c_2 => ?_) (fun c_2 => ?_)
  · skip
    refine lv_bipush (v := (-2)) hx hb dX10_longest_27 (by decide) ?_
    exact x_reti S hr hlk hQ hS () rfl x_T dX10_longest_29
  · skip
    refine lv_aload_n hx hb dX10_longest_7 rfl (lv_at hl 0 rfl) ?_
    refine lv_iload_n hx hb dX10_longest_8 rfl (lv_at hl 2 rfl) ?_
    refine x_roVi (As := [.int p1]) S hK hP hS hA hl mwX10_isHour lkX10_161 (ctX10_isHour l D k o p1 ) [0, 1] rfl (hDW.sub [0, 1] (by decide) rfl) rfl rfl rfl rfl rfl ⟨Nat.le_of_ble_eq_true rfl, Nat.le_of_ble_eq_true rfl, Nat.le_of_ble_eq_true rfl⟩ dX10_longest_9 ⟨Nat.le_of_ble_eq_true rfl, Nat.le_of_ble_eq_true rfl⟩ (fun r_3 H locs hr_3 hP hS => ?_)
    subst hr_3
    refine lv_if_eq (tgt := 27) hx hb dX10_longest_12 (by decide) (fun c_4 => ?_) (fun c_4 => absurd (by decide) c_4)
    refine lv_bipush (v := (-2)) hx hb dX10_longest_27 (by decide) ?_
    exact x_reti S hr hlk hQ hS () rfl x_T dX10_longest_29

set_option maxHeartbeats 4000000 in
set_option maxRecDepth 100000 in
theorem ctX10_pull (l : Launch) (D : va_G) (k : Nat → ClassId) (o : Nat → Nat) (p0 : Int32) (p1 : Int32)  : RO l yX10_pull cX10_pull 3 (some .int) 1 D k [.ref (o 0), .int p0, .int p1] [((o 0), .inr (10, [.ref (o 1), .ref (o 2), .ref (o 3), .ref (o 4), .ref (o 5), .ref (o 6), .ref (o 7), .ref (o 8), .ref (o 9), .ref (o 10), .ref (o 11), .ref (o 12), .ref (o 13), .ref (o 14)])), ((o 3), .inr (2, [.int 0, .int 0, .int 0, .int 0, .int 0, .int 0, .int 0, .int 0, .int 0, .ref (o 26), .ref (o 27), .ref (o 28), .ref (o 29), .ref (o 30), .ref (o 31), .ref (o 32), .ref (o 33), .ref (o 34), .ref (o 35)]))] (Qi (fun r : Int32 => r = (-1000))) := by
  refine RO.of (by decide) (Nat.le_of_ble_eq_true rfl) ?_
  intro p e s m below meth c ls A args Q S hr hlk hQ hK hP hDW hA hS hl
  have hx := S.1
  have hb := S.2.1
  have hl : lv_has ls 3 [(0, .ref (o 0)), (1, .int p0), (2, .int p1)] := hl
  refine lv_aload_n hx hb dX10_pull_0 rfl (lv_at hl 0 rfl) ?_
  refine lv_iload_n hx hb dX10_pull_1 rfl (lv_at hl 1 rfl) ?_
  refine x_roVi (As := [.int p0]) S hK hP hS hA hl mwX10_isHead lkX10_135 (ctX10_isHead l D k o p0 ) [0, 1] rfl (hDW.sub [0, 1] (by decide) rfl) rfl rfl rfl rfl rfl ⟨Nat.le_of_ble_eq_true rfl, Nat.le_of_ble_eq_true rfl, Nat.le_of_ble_eq_true rfl⟩ dX10_pull_2 ⟨Nat.le_of_ble_eq_true rfl, Nat.le_of_ble_eq_true rfl⟩ (fun r_1 H locs hr_1 hP hS => ?_)
  subst hr_1
  refine lv_if_eq (tgt := 36) hx hb dX10_pull_5 (by decide) (fun c_2 => ?_) (fun c_2 => absurd (by decide) c_2)
  refine lv_sipush (v := (-1000)) hx hb dX10_pull_36 (by decide) ?_
  exact x_reti S hr hlk hQ hS () rfl x_T dX10_pull_39

set_option maxHeartbeats 4000000 in
set_option maxRecDepth 100000 in
theorem ctX10_tied (l : Launch) (D : va_G) (k : Nat → ClassId) (o : Nat → Nat) (p0 : Int32)  : RO l yX10_tied cX10_tied 2 (some .int) 2 D k [.ref (o 0), .int p0] [((o 0), .inr (10, [.ref (o 1), .ref (o 2), .ref (o 3), .ref (o 4), .ref (o 5), .ref (o 6), .ref (o 7), .ref (o 8), .ref (o 9), .ref (o 10), .ref (o 11), .ref (o 12), .ref (o 13), .ref (o 14)])), ((o 3), .inr (2, [.int 0, .int 0, .int 0, .int 0, .int 0, .int 0, .int 0, .int 0, .int 0, .ref (o 26), .ref (o 27), .ref (o 28), .ref (o 29), .ref (o 30), .ref (o 31), .ref (o 32), .ref (o 33), .ref (o 34), .ref (o 35)]))] (Qi (fun r : Int32 => r = (-2))) := by
  refine RO.of (by decide) (Nat.le_of_ble_eq_true rfl) ?_
  intro p e s m below meth c ls A args Q S hr hlk hQ hK hP hDW hA hS hl
  have hx := S.1
  have hb := S.2.1
  have hl : lv_has ls 2 [(0, .ref (o 0)), (1, .int p0)] := hl
  refine lv_aload_n hx hb dX10_tied_0 rfl (lv_at hl 0 rfl) ?_
  refine lv_iload_n hx hb dX10_tied_1 rfl (lv_at hl 1 rfl) ?_
  refine x_roVi (As := [.int p0]) S hK hP hS hA hl mwX10_isHour lkX10_161 (ctX10_isHour l D k o p0 ) [0, 1] rfl (hDW.sub [0, 1] (by decide) rfl) rfl rfl rfl rfl rfl ⟨Nat.le_of_ble_eq_true rfl, Nat.le_of_ble_eq_true rfl, Nat.le_of_ble_eq_true rfl⟩ dX10_tied_2 ⟨Nat.le_of_ble_eq_true rfl, Nat.le_of_ble_eq_true rfl⟩ (fun r_1 H locs hr_1 hP hS => ?_)
  subst hr_1
  refine lv_if_eq (tgt := 19) hx hb dX10_tied_5 (by decide) (fun c_2 => ?_) (fun c_2 => absurd (by decide) c_2)
  refine lv_bipush (v := (-2)) hx hb dX10_tied_19 (by decide) ?_
  exact x_reti S hr hlk hQ hS () rfl x_T dX10_tied_21

set_option maxHeartbeats 4000000 in
set_option maxRecDepth 100000 in
theorem ctX10_since (l : Launch) (D : va_G) (k : Nat → ClassId) (o : Nat → Nat) (p0 : Int32)  : RO l yX10_since cX10_since 2 (some .int) 1 D k [.ref (o 0), .int p0] [((o 0), .inr (10, [.ref (o 1), .ref (o 2), .ref (o 3), .ref (o 4), .ref (o 5), .ref (o 6), .ref (o 7), .ref (o 8), .ref (o 9), .ref (o 10), .ref (o 11), .ref (o 12), .ref (o 13), .ref (o 14)])), ((o 3), .inr (2, [.int 0, .int 0, .int 0, .int 0, .int 0, .int 0, .int 0, .int 0, .int 0, .ref (o 26), .ref (o 27), .ref (o 28), .ref (o 29), .ref (o 30), .ref (o 31), .ref (o 32), .ref (o 33), .ref (o 34), .ref (o 35)]))] (Qi (fun r : Int32 => r = (-2))) := by
  refine RO.of (by decide) (Nat.le_of_ble_eq_true rfl) ?_
  intro p e s m below meth c ls A args Q S hr hlk hQ hK hP hDW hA hS hl
  have hx := S.1
  have hb := S.2.1
  have hl : lv_has ls 2 [(0, .ref (o 0)), (1, .int p0)] := hl
  refine lv_aload_n hx hb dX10_since_0 rfl (lv_at hl 0 rfl) ?_
  refine lv_iload_n hx hb dX10_since_1 rfl (lv_at hl 1 rfl) ?_
  refine x_roVi (As := [.int p0]) S hK hP hS hA hl mwX10_isHead lkX10_135 (ctX10_isHead l D k o p0 ) [0, 1] rfl (hDW.sub [0, 1] (by decide) rfl) rfl rfl rfl rfl rfl ⟨Nat.le_of_ble_eq_true rfl, Nat.le_of_ble_eq_true rfl, Nat.le_of_ble_eq_true rfl⟩ dX10_since_2 ⟨Nat.le_of_ble_eq_true rfl, Nat.le_of_ble_eq_true rfl⟩ (fun r_1 H locs hr_1 hP hS => ?_)
  subst hr_1
  refine lv_if_eq (tgt := 19) hx hb dX10_since_5 (by decide) (fun c_2 => ?_) (fun c_2 => absurd (by decide) c_2)
  refine lv_bipush (v := (-2)) hx hb dX10_since_19 (by decide) ?_
  exact x_reti S hr hlk hQ hS () rfl x_T dX10_since_21

set_option maxHeartbeats 4000000 in
set_option maxRecDepth 100000 in
theorem ctX10_held (l : Launch) (D : va_G) (k : Nat → ClassId) (o : Nat → Nat) (p0 : Int32)  : RO l yX10_held cX10_held 2 (some .int) 1 D k [.ref (o 0), .int p0] [((o 0), .inr (10, [.ref (o 1), .ref (o 2), .ref (o 3), .ref (o 4), .ref (o 5), .ref (o 6), .ref (o 7), .ref (o 8), .ref (o 9), .ref (o 10), .ref (o 11), .ref (o 12), .ref (o 13), .ref (o 14)])), ((o 3), .inr (2, [.int 0, .int 0, .int 0, .int 0, .int 0, .int 0, .int 0, .int 0, .int 0, .ref (o 26), .ref (o 27), .ref (o 28), .ref (o 29), .ref (o 30), .ref (o 31), .ref (o 32), .ref (o 33), .ref (o 34), .ref (o 35)]))] (Qi (fun r : Int32 => r = (-2))) := by
  refine RO.of (by decide) (Nat.le_of_ble_eq_true rfl) ?_
  intro p e s m below meth c ls A args Q S hr hlk hQ hK hP hDW hA hS hl
  have hx := S.1
  have hb := S.2.1
  have hl : lv_has ls 2 [(0, .ref (o 0)), (1, .int p0)] := hl
  refine lv_aload_n hx hb dX10_held_0 rfl (lv_at hl 0 rfl) ?_
  refine lv_iload_n hx hb dX10_held_1 rfl (lv_at hl 1 rfl) ?_
  refine x_roVi (As := [.int p0]) S hK hP hS hA hl mwX10_isHead lkX10_135 (ctX10_isHead l D k o p0 ) [0, 1] rfl (hDW.sub [0, 1] (by decide) rfl) rfl rfl rfl rfl rfl ⟨Nat.le_of_ble_eq_true rfl, Nat.le_of_ble_eq_true rfl, Nat.le_of_ble_eq_true rfl⟩ dX10_held_2 ⟨Nat.le_of_ble_eq_true rfl, Nat.le_of_ble_eq_true rfl⟩ (fun r_1 H locs hr_1 hP hS => ?_)
  subst hr_1
  refine lv_if_eq (tgt := 19) hx hb dX10_held_5 (by decide) (fun c_2 => ?_) (fun c_2 => absurd (by decide) c_2)
  refine lv_bipush (v := (-2)) hx hb dX10_held_19 (by decide) ?_
  exact x_reti S hr hlk hQ hS () rfl x_T dX10_held_21

set_option maxHeartbeats 4000000 in
set_option maxRecDepth 100000 in
theorem ctX10_hush (l : Launch) (D : va_G) (k : Nat → ClassId) (o : Nat → Nat) (p0 : Int32)  : RO l yX10_hush cX10_hush 2 (some .int) 2 D k [.ref (o 0), .int p0] [((o 0), .inr (10, [.ref (o 1), .ref (o 2), .ref (o 3), .ref (o 4), .ref (o 5), .ref (o 6), .ref (o 7), .ref (o 8), .ref (o 9), .ref (o 10), .ref (o 11), .ref (o 12), .ref (o 13), .ref (o 14)])), ((o 3), .inr (2, [.int 0, .int 0, .int 0, .int 0, .int 0, .int 0, .int 0, .int 0, .int 0, .ref (o 26), .ref (o 27), .ref (o 28), .ref (o 29), .ref (o 30), .ref (o 31), .ref (o 32), .ref (o 33), .ref (o 34), .ref (o 35)]))] (Qi (fun r : Int32 => r = (-2))) := by
  refine RO.of (by decide) (Nat.le_of_ble_eq_true rfl) ?_
  intro p e s m below meth c ls A args Q S hr hlk hQ hK hP hDW hA hS hl
  have hx := S.1
  have hb := S.2.1
  have hl : lv_has ls 2 [(0, .ref (o 0)), (1, .int p0)] := hl
  refine lv_aload_n hx hb dX10_hush_0 rfl (lv_at hl 0 rfl) ?_
  refine lv_iload_n hx hb dX10_hush_1 rfl (lv_at hl 1 rfl) ?_
  refine x_roVi (As := [.int p0]) S hK hP hS hA hl mwX10_isHour lkX10_161 (ctX10_isHour l D k o p0 ) [0, 1] rfl (hDW.sub [0, 1] (by decide) rfl) rfl rfl rfl rfl rfl ⟨Nat.le_of_ble_eq_true rfl, Nat.le_of_ble_eq_true rfl, Nat.le_of_ble_eq_true rfl⟩ dX10_hush_2 ⟨Nat.le_of_ble_eq_true rfl, Nat.le_of_ble_eq_true rfl⟩ (fun r_1 H locs hr_1 hP hS => ?_)
  subst hr_1
  refine lv_if_eq (tgt := 19) hx hb dX10_hush_5 (by decide) (fun c_2 => ?_) (fun c_2 => absurd (by decide) c_2)
  refine lv_bipush (v := (-2)) hx hb dX10_hush_19 (by decide) ?_
  exact x_reti S hr hlk hQ hS () rfl x_T dX10_hush_21

set_option maxHeartbeats 4000000 in
set_option maxRecDepth 100000 in
theorem ctX10_lonely (l : Launch) (D : va_G) (k : Nat → ClassId) (o : Nat → Nat) (p0 : Int32)  : RO l yX10_lonely cX10_lonely 2 (some .int) 2 D k [.ref (o 0), .int p0] [((o 0), .inr (10, [.ref (o 1), .ref (o 2), .ref (o 3), .ref (o 4), .ref (o 5), .ref (o 6), .ref (o 7), .ref (o 8), .ref (o 9), .ref (o 10), .ref (o 11), .ref (o 12), .ref (o 13), .ref (o 14)])), ((o 3), .inr (2, [.int 0, .int 0, .int 0, .int 0, .int 0, .int 0, .int 0, .int 0, .int 0, .ref (o 26), .ref (o 27), .ref (o 28), .ref (o 29), .ref (o 30), .ref (o 31), .ref (o 32), .ref (o 33), .ref (o 34), .ref (o 35)]))] (Qi (fun r : Int32 => r = (-2))) := by
  refine RO.of (by decide) (Nat.le_of_ble_eq_true rfl) ?_
  intro p e s m below meth c ls A args Q S hr hlk hQ hK hP hDW hA hS hl
  have hx := S.1
  have hb := S.2.1
  have hl : lv_has ls 2 [(0, .ref (o 0)), (1, .int p0)] := hl
  refine lv_aload_n hx hb dX10_lonely_0 rfl (lv_at hl 0 rfl) ?_
  refine lv_iload_n hx hb dX10_lonely_1 rfl (lv_at hl 1 rfl) ?_
  refine x_roVi (As := [.int p0]) S hK hP hS hA hl mwX10_isHour lkX10_161 (ctX10_isHour l D k o p0 ) [0, 1] rfl (hDW.sub [0, 1] (by decide) rfl) rfl rfl rfl rfl rfl ⟨Nat.le_of_ble_eq_true rfl, Nat.le_of_ble_eq_true rfl, Nat.le_of_ble_eq_true rfl⟩ dX10_lonely_2 ⟨Nat.le_of_ble_eq_true rfl, Nat.le_of_ble_eq_true rfl⟩ (fun r_1 H locs hr_1 hP hS => ?_)
  subst hr_1
  refine lv_if_eq (tgt := 19) hx hb dX10_lonely_5 (by decide) (fun c_2 => ?_) (fun c_2 => absurd (by decide) c_2)
  refine lv_bipush (v := (-2)) hx hb dX10_lonely_19 (by decide) ?_
  exact x_reti S hr hlk hQ hS () rfl x_T dX10_lonely_21

set_option maxHeartbeats 4000000 in
set_option maxRecDepth 100000 in
theorem ctX10_quarrels (l : Launch) (D : va_G) (k : Nat → ClassId) (o : Nat → Nat) (p0 : Int32)  : RO l yX10_quarrels cX10_quarrels 2 (some .int) 2 D k [.ref (o 0), .int p0] [((o 0), .inr (10, [.ref (o 1), .ref (o 2), .ref (o 3), .ref (o 4), .ref (o 5), .ref (o 6), .ref (o 7), .ref (o 8), .ref (o 9), .ref (o 10), .ref (o 11), .ref (o 12), .ref (o 13), .ref (o 14)])), ((o 3), .inr (2, [.int 0, .int 0, .int 0, .int 0, .int 0, .int 0, .int 0, .int 0, .int 0, .ref (o 26), .ref (o 27), .ref (o 28), .ref (o 29), .ref (o 30), .ref (o 31), .ref (o 32), .ref (o 33), .ref (o 34), .ref (o 35)]))] (Qi (fun r : Int32 => r = (-2))) := by
  refine RO.of (by decide) (Nat.le_of_ble_eq_true rfl) ?_
  intro p e s m below meth c ls A args Q S hr hlk hQ hK hP hDW hA hS hl
  have hx := S.1
  have hb := S.2.1
  have hl : lv_has ls 2 [(0, .ref (o 0)), (1, .int p0)] := hl
  refine lv_aload_n hx hb dX10_quarrels_0 rfl (lv_at hl 0 rfl) ?_
  refine lv_iload_n hx hb dX10_quarrels_1 rfl (lv_at hl 1 rfl) ?_
  refine x_roVi (As := [.int p0]) S hK hP hS hA hl mwX10_isHour lkX10_161 (ctX10_isHour l D k o p0 ) [0, 1] rfl (hDW.sub [0, 1] (by decide) rfl) rfl rfl rfl rfl rfl ⟨Nat.le_of_ble_eq_true rfl, Nat.le_of_ble_eq_true rfl, Nat.le_of_ble_eq_true rfl⟩ dX10_quarrels_2 ⟨Nat.le_of_ble_eq_true rfl, Nat.le_of_ble_eq_true rfl⟩ (fun r_1 H locs hr_1 hP hS => ?_)
  subst hr_1
  refine lv_if_eq (tgt := 19) hx hb dX10_quarrels_5 (by decide) (fun c_2 => ?_) (fun c_2 => absurd (by decide) c_2)
  refine lv_bipush (v := (-2)) hx hb dX10_quarrels_19 (by decide) ?_
  exact x_reti S hr hlk hQ hS () rfl x_T dX10_quarrels_21

set_option maxHeartbeats 4000000 in
set_option maxRecDepth 100000 in
theorem ctX10_never (l : Launch) (D : va_G) (k : Nat → ClassId) (o : Nat → Nat) (p0 : Int32)  : RO l yX10_never cX10_never 2 (some .int) 1 D k [.ref (o 0), .int p0] [((o 0), .inr (10, [.ref (o 1), .ref (o 2), .ref (o 3), .ref (o 4), .ref (o 5), .ref (o 6), .ref (o 7), .ref (o 8), .ref (o 9), .ref (o 10), .ref (o 11), .ref (o 12), .ref (o 13), .ref (o 14)])), ((o 3), .inr (2, [.int 0, .int 0, .int 0, .int 0, .int 0, .int 0, .int 0, .int 0, .int 0, .ref (o 26), .ref (o 27), .ref (o 28), .ref (o 29), .ref (o 30), .ref (o 31), .ref (o 32), .ref (o 33), .ref (o 34), .ref (o 35)]))] (Qi (fun r : Int32 => r = (-2))) := by
  refine RO.of (by decide) (Nat.le_of_ble_eq_true rfl) ?_
  intro p e s m below meth c ls A args Q S hr hlk hQ hK hP hDW hA hS hl
  have hx := S.1
  have hb := S.2.1
  have hl : lv_has ls 2 [(0, .ref (o 0)), (1, .int p0)] := hl
  refine lv_aload_n hx hb dX10_never_0 rfl (lv_at hl 0 rfl) ?_
  refine x_roVi (As := []) S hK hP hS hA hl mwX10_isGarden lkX10_196 (ctX10_isGarden l D k o ) [0, 1] rfl (hDW.sub [0, 1] (by decide) rfl) rfl rfl rfl rfl rfl ⟨Nat.le_of_ble_eq_true rfl, Nat.le_of_ble_eq_true rfl, Nat.le_of_ble_eq_true rfl⟩ dX10_never_1 ⟨Nat.le_of_ble_eq_true rfl, Nat.le_of_ble_eq_true rfl⟩ (fun r_1 H locs hr_1 hP hS => ?_)
  subst hr_1
  refine lv_if_eq (tgt := 25) hx hb dX10_never_4 (by decide) (fun c_2 => ?_) (fun c_2 => absurd (by decide) c_2)
  refine lv_bipush (v := (-2)) hx hb dX10_never_25 (by decide) ?_
  exact x_reti S hr hlk hQ hS () rfl x_T dX10_never_27

set_option maxHeartbeats 4000000 in
set_option maxRecDepth 100000 in
theorem ctX10_most (l : Launch) (D : va_G) (k : Nat → ClassId) (o : Nat → Nat) (p0 : Int32)  : RO l yX10_most cX10_most 2 (some .int) 1 D k [.ref (o 0), .int p0] [((o 0), .inr (10, [.ref (o 1), .ref (o 2), .ref (o 3), .ref (o 4), .ref (o 5), .ref (o 6), .ref (o 7), .ref (o 8), .ref (o 9), .ref (o 10), .ref (o 11), .ref (o 12), .ref (o 13), .ref (o 14)])), ((o 3), .inr (2, [.int 0, .int 0, .int 0, .int 0, .int 0, .int 0, .int 0, .int 0, .int 0, .ref (o 26), .ref (o 27), .ref (o 28), .ref (o 29), .ref (o 30), .ref (o 31), .ref (o 32), .ref (o 33), .ref (o 34), .ref (o 35)]))] (Qi (fun r : Int32 => r = (-2))) := by
  refine RO.of (by decide) (Nat.le_of_ble_eq_true rfl) ?_
  intro p e s m below meth c ls A args Q S hr hlk hQ hK hP hDW hA hS hl
  have hx := S.1
  have hb := S.2.1
  have hl : lv_has ls 2 [(0, .ref (o 0)), (1, .int p0)] := hl
  refine lv_aload_n hx hb dX10_most_0 rfl (lv_at hl 0 rfl) ?_
  refine x_roVi (As := []) S hK hP hS hA hl mwX10_isGarden lkX10_196 (ctX10_isGarden l D k o ) [0, 1] rfl (hDW.sub [0, 1] (by decide) rfl) rfl rfl rfl rfl rfl ⟨Nat.le_of_ble_eq_true rfl, Nat.le_of_ble_eq_true rfl, Nat.le_of_ble_eq_true rfl⟩ dX10_most_1 ⟨Nat.le_of_ble_eq_true rfl, Nat.le_of_ble_eq_true rfl⟩ (fun r_1 H locs hr_1 hP hS => ?_)
  subst hr_1
  refine lv_if_eq (tgt := 25) hx hb dX10_most_4 (by decide) (fun c_2 => ?_) (fun c_2 => absurd (by decide) c_2)
  refine lv_bipush (v := (-2)) hx hb dX10_most_25 (by decide) ?_
  exact x_reti S hr hlk hQ hS () rfl x_T dX10_most_27

set_option maxHeartbeats 4000000 in
set_option maxRecDepth 100000 in
theorem ctX10_fewest (l : Launch) (D : va_G) (k : Nat → ClassId) (o : Nat → Nat) (p0 : Int32)  : RO l yX10_fewest cX10_fewest 3 (some .int) 1 D k [.ref (o 0), .int p0] [((o 0), .inr (10, [.ref (o 1), .ref (o 2), .ref (o 3), .ref (o 4), .ref (o 5), .ref (o 6), .ref (o 7), .ref (o 8), .ref (o 9), .ref (o 10), .ref (o 11), .ref (o 12), .ref (o 13), .ref (o 14)])), ((o 3), .inr (2, [.int 0, .int 0, .int 0, .int 0, .int 0, .int 0, .int 0, .int 0, .int 0, .ref (o 26), .ref (o 27), .ref (o 28), .ref (o 29), .ref (o 30), .ref (o 31), .ref (o 32), .ref (o 33), .ref (o 34), .ref (o 35)]))] (Qi (fun r : Int32 => r = (-2))) := by
  refine RO.of (by decide) (Nat.le_of_ble_eq_true rfl) ?_
  intro p e s m below meth c ls A args Q S hr hlk hQ hK hP hDW hA hS hl
  have hx := S.1
  have hb := S.2.1
  have hl : lv_has ls 3 [(0, .ref (o 0)), (1, .int p0)] := hl
  refine lv_aload_n hx hb dX10_fewest_0 rfl (lv_at hl 0 rfl) ?_
  refine x_roVi (As := []) S hK hP hS hA hl mwX10_isGarden lkX10_196 (ctX10_isGarden l D k o ) [0, 1] rfl (hDW.sub [0, 1] (by decide) rfl) rfl rfl rfl rfl rfl ⟨Nat.le_of_ble_eq_true rfl, Nat.le_of_ble_eq_true rfl, Nat.le_of_ble_eq_true rfl⟩ dX10_fewest_1 ⟨Nat.le_of_ble_eq_true rfl, Nat.le_of_ble_eq_true rfl⟩ (fun r_1 H locs hr_1 hP hS => ?_)
  subst hr_1
  refine lv_if_eq (tgt := 14) hx hb dX10_fewest_4 (by decide) (fun c_2 => ?_) (fun c_2 => absurd (by decide) c_2)
  refine lv_bipush (v := (-2)) hx hb dX10_fewest_14 (by decide) ?_
  exact x_reti S hr hlk hQ hS () rfl x_T dX10_fewest_16

set_option maxHeartbeats 4000000 in
set_option maxRecDepth 100000 in
theorem ctX10_tell (l : Launch) (D : va_G) (k : Nat → ClassId) (o : Nat → Nat) (p0 : Int32)  : RO l yX10_tell cX10_tell 2 (some .int) 1 D k [.ref (o 0), .int p0] [((o 0), .inr (10, [.ref (o 1), .ref (o 2), .ref (o 3), .ref (o 4), .ref (o 5), .ref (o 6), .ref (o 7), .ref (o 8), .ref (o 9), .ref (o 10), .ref (o 11), .ref (o 12), .ref (o 13), .ref (o 14)])), ((o 3), .inr (2, [.int 0, .int 0, .int 0, .int 0, .int 0, .int 0, .int 0, .int 0, .int 0, .ref (o 26), .ref (o 27), .ref (o 28), .ref (o 29), .ref (o 30), .ref (o 31), .ref (o 32), .ref (o 33), .ref (o 34), .ref (o 35)]))] (Qi (fun r : Int32 => r = (-2))) := by
  refine RO.of (by decide) (Nat.le_of_ble_eq_true rfl) ?_
  intro p e s m below meth c ls A args Q S hr hlk hQ hK hP hDW hA hS hl
  have hx := S.1
  have hb := S.2.1
  have hl : lv_has ls 2 [(0, .ref (o 0)), (1, .int p0)] := hl
  refine lv_aload_n hx hb dX10_tell_0 rfl (lv_at hl 0 rfl) ?_
  refine x_roVi (As := []) S hK hP hS hA hl mwX10_isGarden lkX10_196 (ctX10_isGarden l D k o ) [0, 1] rfl (hDW.sub [0, 1] (by decide) rfl) rfl rfl rfl rfl rfl ⟨Nat.le_of_ble_eq_true rfl, Nat.le_of_ble_eq_true rfl, Nat.le_of_ble_eq_true rfl⟩ dX10_tell_1 ⟨Nat.le_of_ble_eq_true rfl, Nat.le_of_ble_eq_true rfl⟩ (fun r_1 H locs hr_1 hP hS => ?_)
  subst hr_1
  refine lv_if_eq (tgt := 25) hx hb dX10_tell_4 (by decide) (fun c_2 => ?_) (fun c_2 => absurd (by decide) c_2)
  refine lv_bipush (v := (-2)) hx hb dX10_tell_25 (by decide) ?_
  exact x_reti S hr hlk hQ hS () rfl x_T dX10_tell_27

set_option maxHeartbeats 4000000 in
set_option maxRecDepth 100000 in
theorem ctX10_brings (l : Launch) (D : va_G) (k : Nat → ClassId) (o : Nat → Nat) (p0 : Int32) (p1 : Int32)  : RO l yX10_brings cX10_brings 4 (some .int) 1 D k [.ref (o 0), .int p0, .int p1] [((o 0), .inr (10, [.ref (o 1), .ref (o 2), .ref (o 3), .ref (o 4), .ref (o 5), .ref (o 6), .ref (o 7), .ref (o 8), .ref (o 9), .ref (o 10), .ref (o 11), .ref (o 12), .ref (o 13), .ref (o 14)])), ((o 3), .inr (2, [.int 0, .int 0, .int 0, .int 0, .int 0, .int 0, .int 0, .int 0, .int 0, .ref (o 26), .ref (o 27), .ref (o 28), .ref (o 29), .ref (o 30), .ref (o 31), .ref (o 32), .ref (o 33), .ref (o 34), .ref (o 35)]))] (Qi (fun r : Int32 => r = (-2))) := by
  refine RO.of (by decide) (Nat.le_of_ble_eq_true rfl) ?_
  intro p e s m below meth c ls A args Q S hr hlk hQ hK hP hDW hA hS hl
  have hx := S.1
  have hb := S.2.1
  have hl : lv_has ls 4 [(0, .ref (o 0)), (1, .int p0), (2, .int p1)] := hl
  refine lv_aload_n hx hb dX10_brings_0 rfl (lv_at hl 0 rfl) ?_
  refine x_roVi (As := []) S hK hP hS hA hl mwX10_isGarden lkX10_196 (ctX10_isGarden l D k o ) [0, 1] rfl (hDW.sub [0, 1] (by decide) rfl) rfl rfl rfl rfl rfl ⟨Nat.le_of_ble_eq_true rfl, Nat.le_of_ble_eq_true rfl, Nat.le_of_ble_eq_true rfl⟩ dX10_brings_1 ⟨Nat.le_of_ble_eq_true rfl, Nat.le_of_ble_eq_true rfl⟩ (fun r_1 H locs hr_1 hP hS => ?_)
  subst hr_1
  refine lv_if_eq (tgt := 32) hx hb dX10_brings_4 (by decide) (fun c_2 => ?_) (fun c_2 => absurd (by decide) c_2)
  refine lv_iconst (v := 0) hx hb dX10_brings_32 (by decide) ?_
  refine lv_istore_n (lv' := [(3, .int 0), (0, .ref (o 0)), (1, .int p0), (2, .int p1)]) hx hb dX10_brings_33 rfl hl (by decide) rfl (fun ls hl => ?_)
  refine lv_iload_n hx hb dX10_brings_34 rfl (lv_at hl 0 rfl) ?_
  refine lv_if_eq (tgt := 53) hx hb dX10_brings_35 (by decide) (fun c_3 => ?_) (fun c_3 => absurd (by decide) c_3)
  refine lv_bipush (v := (-2)) hx hb dX10_brings_53 (by decide) ?_
  exact x_reti S hr hlk hQ hS () rfl x_T dX10_brings_55

set_option maxHeartbeats 4000000 in
set_option maxRecDepth 100000 in
theorem ctX10_loud (l : Launch) (D : va_G) (k : Nat → ClassId) (o : Nat → Nat) (p0 : Int32)  : RO l yX10_loud cX10_loud 2 (some .int) 1 D k [.ref (o 0), .int p0] [((o 0), .inr (10, [.ref (o 1), .ref (o 2), .ref (o 3), .ref (o 4), .ref (o 5), .ref (o 6), .ref (o 7), .ref (o 8), .ref (o 9), .ref (o 10), .ref (o 11), .ref (o 12), .ref (o 13), .ref (o 14)])), ((o 3), .inr (2, [.int 0, .int 0, .int 0, .int 0, .int 0, .int 0, .int 0, .int 0, .int 0, .ref (o 26), .ref (o 27), .ref (o 28), .ref (o 29), .ref (o 30), .ref (o 31), .ref (o 32), .ref (o 33), .ref (o 34), .ref (o 35)]))] (Qi (fun r : Int32 => r = (-2))) := by
  refine RO.of (by decide) (Nat.le_of_ble_eq_true rfl) ?_
  intro p e s m below meth c ls A args Q S hr hlk hQ hK hP hDW hA hS hl
  have hx := S.1
  have hb := S.2.1
  have hl : lv_has ls 2 [(0, .ref (o 0)), (1, .int p0)] := hl
  refine lv_aload_n hx hb dX10_loud_0 rfl (lv_at hl 0 rfl) ?_
  refine x_roVi (As := []) S hK hP hS hA hl mwX10_isGarden lkX10_196 (ctX10_isGarden l D k o ) [0, 1] rfl (hDW.sub [0, 1] (by decide) rfl) rfl rfl rfl rfl rfl ⟨Nat.le_of_ble_eq_true rfl, Nat.le_of_ble_eq_true rfl, Nat.le_of_ble_eq_true rfl⟩ dX10_loud_1 ⟨Nat.le_of_ble_eq_true rfl, Nat.le_of_ble_eq_true rfl⟩ (fun r_1 H locs hr_1 hP hS => ?_)
  subst hr_1
  refine lv_if_eq (tgt := 25) hx hb dX10_loud_4 (by decide) (fun c_2 => ?_) (fun c_2 => absurd (by decide) c_2)
  refine lv_bipush (v := (-2)) hx hb dX10_loud_25 (by decide) ?_
  exact x_reti S hr hlk hQ hS () rfl x_T dX10_loud_27

set_option maxHeartbeats 4000000 in
set_option maxRecDepth 100000 in
theorem ctX10_firm (l : Launch) (D : va_G) (k : Nat → ClassId) (o : Nat → Nat) (p0 : Int32)  : RO l yX10_firm cX10_firm 2 (some .int) 1 D k [.ref (o 0), .int p0] [((o 0), .inr (10, [.ref (o 1), .ref (o 2), .ref (o 3), .ref (o 4), .ref (o 5), .ref (o 6), .ref (o 7), .ref (o 8), .ref (o 9), .ref (o 10), .ref (o 11), .ref (o 12), .ref (o 13), .ref (o 14)])), ((o 3), .inr (2, [.int 0, .int 0, .int 0, .int 0, .int 0, .int 0, .int 0, .int 0, .int 0, .ref (o 26), .ref (o 27), .ref (o 28), .ref (o 29), .ref (o 30), .ref (o 31), .ref (o 32), .ref (o 33), .ref (o 34), .ref (o 35)]))] (Qi (fun r : Int32 => r = (-2))) := by
  refine RO.of (by decide) (Nat.le_of_ble_eq_true rfl) ?_
  intro p e s m below meth c ls A args Q S hr hlk hQ hK hP hDW hA hS hl
  have hx := S.1
  have hb := S.2.1
  have hl : lv_has ls 2 [(0, .ref (o 0)), (1, .int p0)] := hl
  refine lv_aload_n hx hb dX10_firm_0 rfl (lv_at hl 0 rfl) ?_
  refine x_roVi (As := []) S hK hP hS hA hl mwX10_isGarden lkX10_196 (ctX10_isGarden l D k o ) [0, 1] rfl (hDW.sub [0, 1] (by decide) rfl) rfl rfl rfl rfl rfl ⟨Nat.le_of_ble_eq_true rfl, Nat.le_of_ble_eq_true rfl, Nat.le_of_ble_eq_true rfl⟩ dX10_firm_1 ⟨Nat.le_of_ble_eq_true rfl, Nat.le_of_ble_eq_true rfl⟩ (fun r_1 H locs hr_1 hP hS => ?_)
  subst hr_1
  refine lv_if_eq (tgt := 25) hx hb dX10_firm_4 (by decide) (fun c_2 => ?_) (fun c_2 => absurd (by decide) c_2)
  refine lv_bipush (v := (-2)) hx hb dX10_firm_25 (by decide) ?_
  exact x_reti S hr hlk hQ hS () rfl x_T dX10_firm_27

set_option maxHeartbeats 4000000 in
set_option maxRecDepth 100000 in
theorem ctX10_share (l : Launch) (D : va_G) (k : Nat → ClassId) (o : Nat → Nat) (p0 : Int32) (p1 : Int32) (p2 : Int32)  : RO l yX10_share cX10_share 4 (some .long) 1 D k [.ref (o 0), .int p0, .int p1, .int p2] [((o 0), .inr (10, [.ref (o 1), .ref (o 2), .ref (o 3), .ref (o 4), .ref (o 5), .ref (o 6), .ref (o 7), .ref (o 8), .ref (o 9), .ref (o 10), .ref (o 11), .ref (o 12), .ref (o 13), .ref (o 14)])), ((o 3), .inr (2, [.int 0, .int 0, .int 0, .int 0, .int 0, .int 0, .int 0, .int 0, .int 0, .ref (o 26), .ref (o 27), .ref (o 28), .ref (o 29), .ref (o 30), .ref (o 31), .ref (o 32), .ref (o 33), .ref (o 34), .ref (o 35)]))] (Ql (fun r : Int64 => r = (-2))) := by
  refine RO.of (by decide) (Nat.le_of_ble_eq_true rfl) ?_
  intro p e s m below meth c ls A args Q S hr hlk hQ hK hP hDW hA hS hl
  have hx := S.1
  have hb := S.2.1
  have hl : lv_has ls 4 [(0, .ref (o 0)), (1, .int p0), (2, .int p1), (3, .int p2)] := hl
  refine lv_aload_n hx hb dX10_share_0 rfl (lv_at hl 0 rfl) ?_
  refine lv_iload_n hx hb dX10_share_1 rfl (lv_at hl 1 rfl) ?_
  refine x_roVi (As := [.int p0]) S hK hP hS hA hl mwX10_isHead lkX10_135 (ctX10_isHead l D k o p0 ) [0, 1] rfl (hDW.sub [0, 1] (by decide) rfl) rfl rfl rfl rfl rfl ⟨Nat.le_of_ble_eq_true rfl, Nat.le_of_ble_eq_true rfl, Nat.le_of_ble_eq_true rfl⟩ dX10_share_2 ⟨Nat.le_of_ble_eq_true rfl, Nat.le_of_ble_eq_true rfl⟩ (fun r_1 H locs hr_1 hP hS => ?_)
  subst hr_1
  refine lv_if_eq (tgt := 22) hx hb dX10_share_5 (by decide) (fun c_2 => ?_) (fun c_2 => absurd (by decide) c_2)
  refine lv_ldc2 hx hb S.2.2.2.1 (S.2.2.2.2 _ lkX10_294) dX10_share_22 ?_
  exact x_retl S hr hlk hQ hS () rfl x_T dX10_share_25

set_option maxHeartbeats 4000000 in
set_option maxRecDepth 100000 in
theorem ctX10_sample (l : Launch) (D : va_G) (k : Nat → ClassId) (o : Nat → Nat) (p0 : Int32) (p1 : Int32) (p2 : Int32)  : RO l yX10_sample cX10_sample 5 (some .long) 2 D k [.ref (o 0), .int p0, .int p1, .int p2] [((o 0), .inr (10, [.ref (o 1), .ref (o 2), .ref (o 3), .ref (o 4), .ref (o 5), .ref (o 6), .ref (o 7), .ref (o 8), .ref (o 9), .ref (o 10), .ref (o 11), .ref (o 12), .ref (o 13), .ref (o 14)])), ((o 3), .inr (2, [.int 0, .int 0, .int 0, .int 0, .int 0, .int 0, .int 0, .int 0, .int 0, .ref (o 26), .ref (o 27), .ref (o 28), .ref (o 29), .ref (o 30), .ref (o 31), .ref (o 32), .ref (o 33), .ref (o 34), .ref (o 35)]))] (Ql (fun r : Int64 => r = (-2))) := by
  refine RO.of (by decide) (Nat.le_of_ble_eq_true rfl) ?_
  intro p e s m below meth c ls A args Q S hr hlk hQ hK hP hDW hA hS hl
  have hx := S.1
  have hb := S.2.1
  have hl : lv_has ls 5 [(0, .ref (o 0)), (1, .int p0), (2, .int p1), (3, .int p2)] := hl
  refine lv_aload_n hx hb dX10_sample_0 rfl (lv_at hl 0 rfl) ?_
  refine lv_iload_n hx hb dX10_sample_1 rfl (lv_at hl 1 rfl) ?_
  refine x_roVi (As := [.int p0]) S hK hP hS hA hl mwX10_isHour lkX10_161 (ctX10_isHour l D k o p0 ) [0, 1] rfl (hDW.sub [0, 1] (by decide) rfl) rfl rfl rfl rfl rfl ⟨Nat.le_of_ble_eq_true rfl, Nat.le_of_ble_eq_true rfl, Nat.le_of_ble_eq_true rfl⟩ dX10_sample_2 ⟨Nat.le_of_ble_eq_true rfl, Nat.le_of_ble_eq_true rfl⟩ (fun r_1 H locs hr_1 hP hS => ?_)
  subst hr_1
  refine lv_if_eq (tgt := 36) hx hb dX10_sample_5 (by decide) (fun c_2 => ?_) (fun c_2 => absurd (by decide) c_2)
  refine lv_iconst (v := 0) hx hb dX10_sample_36 (by decide) ?_
  refine lv_istore (lv' := [(4, .int 0), (0, .ref (o 0)), (1, .int p0), (2, .int p1), (3, .int p2)]) hx hb dX10_sample_37 hl (by decide) rfl (fun ls hl => ?_)
  refine lv_iload hx hb dX10_sample_39 (lv_at hl 0 rfl) ?_
  refine lv_if_eq (tgt := 72) hx hb dX10_sample_41 (by decide) (fun c_3 => ?_) (fun c_3 => absurd (by decide) c_3)
  refine lv_ldc2 hx hb S.2.2.2.1 (S.2.2.2.2 _ lkX10_294) dX10_sample_72 ?_
  exact x_retl S hr hlk hQ hS () rfl x_T dX10_sample_75

set_option maxHeartbeats 4000000 in
set_option maxRecDepth 100000 in
theorem ctX10_sure (l : Launch) (D : va_G) (k : Nat → ClassId) (o : Nat → Nat) (p0 : Int32)  : RO l yX10_sure cX10_sure 2 (some .int) 2 D k [.ref (o 0), .int p0] [((o 0), .inr (10, [.ref (o 1), .ref (o 2), .ref (o 3), .ref (o 4), .ref (o 5), .ref (o 6), .ref (o 7), .ref (o 8), .ref (o 9), .ref (o 10), .ref (o 11), .ref (o 12), .ref (o 13), .ref (o 14)])), ((o 3), .inr (2, [.int 0, .int 0, .int 0, .int 0, .int 0, .int 0, .int 0, .int 0, .int 0, .ref (o 26), .ref (o 27), .ref (o 28), .ref (o 29), .ref (o 30), .ref (o 31), .ref (o 32), .ref (o 33), .ref (o 34), .ref (o 35)]))] (Qi (fun r : Int32 => r = (-2))) := by
  refine RO.of (by decide) (Nat.le_of_ble_eq_true rfl) ?_
  intro p e s m below meth c ls A args Q S hr hlk hQ hK hP hDW hA hS hl
  have hx := S.1
  have hb := S.2.1
  have hl : lv_has ls 2 [(0, .ref (o 0)), (1, .int p0)] := hl
  refine lv_aload_n hx hb dX10_sure_0 rfl (lv_at hl 0 rfl) ?_
  refine lv_iload_n hx hb dX10_sure_1 rfl (lv_at hl 1 rfl) ?_
  refine x_roVi (As := [.int p0]) S hK hP hS hA hl mwX10_isHour lkX10_161 (ctX10_isHour l D k o p0 ) [0, 1] rfl (hDW.sub [0, 1] (by decide) rfl) rfl rfl rfl rfl rfl ⟨Nat.le_of_ble_eq_true rfl, Nat.le_of_ble_eq_true rfl, Nat.le_of_ble_eq_true rfl⟩ dX10_sure_2 ⟨Nat.le_of_ble_eq_true rfl, Nat.le_of_ble_eq_true rfl⟩ (fun r_1 H locs hr_1 hP hS => ?_)
  subst hr_1
  refine lv_if_eq (tgt := 19) hx hb dX10_sure_5 (by decide) (fun c_2 => ?_) (fun c_2 => absurd (by decide) c_2)
  refine lv_bipush (v := (-2)) hx hb dX10_sure_19 (by decide) ?_
  exact x_reti S hr hlk hQ hS () rfl x_T dX10_sure_21

set_option maxHeartbeats 4000000 in
set_option maxRecDepth 100000 in
theorem ctX10_worth (l : Launch) (D : va_G) (k : Nat → ClassId) (o : Nat → Nat)  : RO l yX10_worth cX10_worth 1 (some .int) 0 D k [.ref (o 0)] [((o 0), .inr (10, [.ref (o 1), .ref (o 2), .ref (o 3), .ref (o 4), .ref (o 5), .ref (o 6), .ref (o 7), .ref (o 8), .ref (o 9), .ref (o 10), .ref (o 11), .ref (o 12), .ref (o 13), .ref (o 14)])), ((o 3), .inr (2, [.int 0, .int 0, .int 0, .int 0, .int 0, .int 0, .int 0, .int 0, .int 0, .ref (o 26), .ref (o 27), .ref (o 28), .ref (o 29), .ref (o 30), .ref (o 31), .ref (o 32), .ref (o 33), .ref (o 34), .ref (o 35)]))] (Qi (fun r : Int32 => r = (-1000))) := by
  refine RO.of (by decide) (Nat.le_of_ble_eq_true rfl) ?_
  intro p e s m below meth c ls A args Q S hr hlk hQ hK hP hDW hA hS hl
  have hx := S.1
  have hb := S.2.1
  have hl : lv_has ls 1 [(0, .ref (o 0))] := hl
  refine lv_aload_n hx hb dX10_worth_0 rfl (lv_at hl 0 rfl) ?_
  refine x_get S hK hP 0 rfl cfX10 2 lkX10_23 (by decide) rfl dX10_worth_1 ?_
  refine x_get S hK hP 1 rfl cfX2 5 lkX10_296 (by decide) rfl dX10_worth_4 ?_
  refine lv_if_ne (tgt := 14) hx hb dX10_worth_7 (by decide) (fun c_1 => absurd (by decide) c_1) (fun c_1 => ?_)
  refine lv_sipush (v := (-1000)) hx hb dX10_worth_10 (by decide) ?_
  exact x_reti S hr hlk hQ hS () rfl x_T dX10_worth_13

set_option maxHeartbeats 4000000 in
set_option maxRecDepth 100000 in
theorem ctX10_opens (l : Launch) (D : va_G) (k : Nat → ClassId) (o : Nat → Nat)  : RO l yX10_opens cX10_opens 1 (some .int) 1 D k [.ref (o 0)] [((o 0), .inr (10, [.ref (o 1), .ref (o 2), .ref (o 3), .ref (o 4), .ref (o 5), .ref (o 6), .ref (o 7), .ref (o 8), .ref (o 9), .ref (o 10), .ref (o 11), .ref (o 12), .ref (o 13), .ref (o 14)])), ((o 3), .inr (2, [.int 0, .int 0, .int 0, .int 0, .int 0, .int 0, .int 0, .int 0, .int 0, .ref (o 26), .ref (o 27), .ref (o 28), .ref (o 29), .ref (o 30), .ref (o 31), .ref (o 32), .ref (o 33), .ref (o 34), .ref (o 35)]))] (Qi (fun r : Int32 => r = (-2))) := by
  refine RO.of (by decide) (Nat.le_of_ble_eq_true rfl) ?_
  intro p e s m below meth c ls A args Q S hr hlk hQ hK hP hDW hA hS hl
  have hx := S.1
  have hb := S.2.1
  have hl : lv_has ls 1 [(0, .ref (o 0))] := hl
  refine lv_aload_n hx hb dX10_opens_0 rfl (lv_at hl 0 rfl) ?_
  refine x_roVi (As := []) S hK hP hS hA hl mwX10_isGarden lkX10_196 (ctX10_isGarden l D k o ) [0, 1] rfl (hDW.sub [0, 1] (by decide) rfl) rfl rfl rfl rfl rfl ⟨Nat.le_of_ble_eq_true rfl, Nat.le_of_ble_eq_true rfl, Nat.le_of_ble_eq_true rfl⟩ dX10_opens_1 ⟨Nat.le_of_ble_eq_true rfl, Nat.le_of_ble_eq_true rfl⟩ (fun r_1 H locs hr_1 hP hS => ?_)
  subst hr_1
  refine lv_if_ne (tgt := 10) hx hb dX10_opens_4 (by decide) (fun c_2 => absurd (by decide) c_2) (fun c_2 => ?_)
  refine lv_bipush (v := (-2)) hx hb dX10_opens_7 (by decide) ?_
  exact x_reti S hr hlk hQ hS () rfl x_T dX10_opens_9

set_option maxHeartbeats 4000000 in
set_option maxRecDepth 100000 in
theorem ctX10_replies (l : Launch) (D : va_G) (k : Nat → ClassId) (o : Nat → Nat) (p0 : Int32)  : RO l yX10_replies cX10_replies 2 (some .int) 1 D k [.ref (o 0), .int p0] [((o 0), .inr (10, [.ref (o 1), .ref (o 2), .ref (o 3), .ref (o 4), .ref (o 5), .ref (o 6), .ref (o 7), .ref (o 8), .ref (o 9), .ref (o 10), .ref (o 11), .ref (o 12), .ref (o 13), .ref (o 14)])), ((o 3), .inr (2, [.int 0, .int 0, .int 0, .int 0, .int 0, .int 0, .int 0, .int 0, .int 0, .ref (o 26), .ref (o 27), .ref (o 28), .ref (o 29), .ref (o 30), .ref (o 31), .ref (o 32), .ref (o 33), .ref (o 34), .ref (o 35)]))] (Qi (fun r : Int32 => r = (-2))) := by
  refine RO.of (by decide) (Nat.le_of_ble_eq_true rfl) ?_
  intro p e s m below meth c ls A args Q S hr hlk hQ hK hP hDW hA hS hl
  have hx := S.1
  have hb := S.2.1
  have hl : lv_has ls 2 [(0, .ref (o 0)), (1, .int p0)] := hl
  refine lv_aload_n hx hb dX10_replies_0 rfl (lv_at hl 0 rfl) ?_
  refine lv_iload_n hx hb dX10_replies_1 rfl (lv_at hl 1 rfl) ?_
  refine x_roVi (As := [.int p0]) S hK hP hS hA hl mwX10_isHead lkX10_135 (ctX10_isHead l D k o p0 ) [0, 1] rfl (hDW.sub [0, 1] (by decide) rfl) rfl rfl rfl rfl rfl ⟨Nat.le_of_ble_eq_true rfl, Nat.le_of_ble_eq_true rfl, Nat.le_of_ble_eq_true rfl⟩ dX10_replies_2 ⟨Nat.le_of_ble_eq_true rfl, Nat.le_of_ble_eq_true rfl⟩ (fun r_1 H locs hr_1 hP hS => ?_)
  subst hr_1
  refine lv_if_eq (tgt := 19) hx hb dX10_replies_5 (by decide) (fun c_2 => ?_) (fun c_2 => absurd (by decide) c_2)
  refine lv_bipush (v := (-2)) hx hb dX10_replies_19 (by decide) ?_
  exact x_reti S hr hlk hQ hS () rfl x_T dX10_replies_21

set_option maxHeartbeats 4000000 in
set_option maxRecDepth 100000 in
theorem ctX10_whom (l : Launch) (D : va_G) (k : Nat → ClassId) (o : Nat → Nat) (p0 : Int32) (p1 : Int32)  : RO l yX10_whom cX10_whom 4 (some .int) 2 D k [.ref (o 0), .int p0, .int p1] [((o 0), .inr (10, [.ref (o 1), .ref (o 2), .ref (o 3), .ref (o 4), .ref (o 5), .ref (o 6), .ref (o 7), .ref (o 8), .ref (o 9), .ref (o 10), .ref (o 11), .ref (o 12), .ref (o 13), .ref (o 14)])), ((o 3), .inr (2, [.int 0, .int 0, .int 0, .int 0, .int 0, .int 0, .int 0, .int 0, .int 0, .ref (o 26), .ref (o 27), .ref (o 28), .ref (o 29), .ref (o 30), .ref (o 31), .ref (o 32), .ref (o 33), .ref (o 34), .ref (o 35)]))] (Qi (fun r : Int32 => r = (-2))) := by
  refine RO.of (by decide) (Nat.le_of_ble_eq_true rfl) ?_
  intro p e s m below meth c ls A args Q S hr hlk hQ hK hP hDW hA hS hl
  have hx := S.1
  have hb := S.2.1
  have hl : lv_has ls 4 [(0, .ref (o 0)), (1, .int p0), (2, .int p1)] := hl
  refine lv_iload_n hx hb dX10_whom_0 rfl (lv_at hl 2 rfl) ?_
  refine x_roSi (As := [.int p1]) S hK hP hS hA hl mwX10_isView lkX10_184 (ctX10_isView l D k p1 ) [] rfl D_nil rfl rfl ⟨Nat.le_of_ble_eq_true rfl, Nat.le_of_ble_eq_true rfl, Nat.le_of_ble_eq_true rfl⟩ dX10_whom_1 ⟨Nat.le_of_ble_eq_true rfl, Nat.le_of_ble_eq_true rfl⟩ (fun r_1 H locs hr_1 hP hS => ?_)
  refine lv_if_eq (tgt := 15) hx hb dX10_whom_4 (by decide) (fun c_2 => ?_) (fun c_2 => ?_)
  · skip
    refine lv_bipush (v := (-2)) hx hb dX10_whom_15 (by decide) ?_
    refine lv_istore_n (lv' := [(3, .int (-2)), (0, .ref (o 0)), (1, .int p0), (2, .int p1)]) hx hb dX10_whom_17 rfl hl (by decide) rfl (fun ls hl => ?_)
    refine lv_iload_n hx hb dX10_whom_18 rfl (lv_at hl 0 rfl) ?_
    refine lv_if_ne (tgt := 34) hx hb dX10_whom_19 (by decide) (fun c_3 => ?_) (fun c_3 => absurd c_3 (by decide))
    refine lv_iload_n hx hb dX10_whom_34 rfl (lv_at hl 0 rfl) ?_
    exact x_reti S hr hlk hQ hS () rfl x_T dX10_whom_35
  · skip
    refine lv_aload_n hx hb dX10_whom_7 rfl (lv_at hl 0 rfl) ?_
    refine lv_iload_n hx hb dX10_whom_8 rfl (lv_at hl 1 rfl) ?_
    refine x_roVi (As := [.int p0]) S hK hP hS hA hl mwX10_refusalOfSeen lkX10_337 (ctX10_refusalOfSeen l D k o p0 ) [0, 1] rfl (hDW.sub [0, 1] (by decide) rfl) rfl rfl rfl rfl rfl ⟨Nat.le_of_ble_eq_true rfl, Nat.le_of_ble_eq_true rfl, Nat.le_of_ble_eq_true rfl⟩ dX10_whom_9 ⟨Nat.le_of_ble_eq_true rfl, Nat.le_of_ble_eq_true rfl⟩ (fun r_4 H locs hr_4 hP hS => ?_)
    subst hr_4
    refine lv_goto (tgt := 17) hx hb dX10_whom_12 (by decide) ?_
    refine lv_istore_n (lv' := [(3, .int (-2)), (0, .ref (o 0)), (1, .int p0), (2, .int p1)]) hx hb dX10_whom_17 rfl hl (by decide) rfl (fun ls hl => ?_)
    refine lv_iload_n hx hb dX10_whom_18 rfl (lv_at hl 0 rfl) ?_
    refine lv_if_ne (tgt := 34) hx hb dX10_whom_19 (by decide) (fun c_5 => ?_) (fun c_5 => absurd c_5 (by decide))
    refine lv_iload_n hx hb dX10_whom_34 rfl (lv_at hl 0 rfl) ?_
    exact x_reti S hr hlk hQ hS () rfl x_T dX10_whom_35

set_option maxHeartbeats 4000000 in
set_option maxRecDepth 100000 in
theorem ctX10_ask (l : Launch) (D : va_G) (k : Nat → ClassId) (o : Nat → Nat) (p0 : Int32) (p1 : Int32)  : RO l yX10_ask cX10_ask 4 (some .int) 2 D k [.ref (o 0), .int p0, .int p1] [((o 0), .inr (10, [.ref (o 1), .ref (o 2), .ref (o 3), .ref (o 4), .ref (o 5), .ref (o 6), .ref (o 7), .ref (o 8), .ref (o 9), .ref (o 10), .ref (o 11), .ref (o 12), .ref (o 13), .ref (o 14)])), ((o 3), .inr (2, [.int 0, .int 0, .int 0, .int 0, .int 0, .int 0, .int 0, .int 0, .int 0, .ref (o 26), .ref (o 27), .ref (o 28), .ref (o 29), .ref (o 30), .ref (o 31), .ref (o 32), .ref (o 33), .ref (o 34), .ref (o 35)]))] (Qi (fun r : Int32 => r = (-2))) := by
  refine RO.of (by decide) (Nat.le_of_ble_eq_true rfl) ?_
  intro p e s m below meth c ls A args Q S hr hlk hQ hK hP hDW hA hS hl
  have hx := S.1
  have hb := S.2.1
  have hl : lv_has ls 4 [(0, .ref (o 0)), (1, .int p0), (2, .int p1)] := hl
  refine lv_iload_n hx hb dX10_ask_0 rfl (lv_at hl 2 rfl) ?_
  refine x_roSi (As := [.int p1]) S hK hP hS hA hl mwX10_isView lkX10_184 (ctX10_isView l D k p1 ) [] rfl D_nil rfl rfl ⟨Nat.le_of_ble_eq_true rfl, Nat.le_of_ble_eq_true rfl, Nat.le_of_ble_eq_true rfl⟩ dX10_ask_1 ⟨Nat.le_of_ble_eq_true rfl, Nat.le_of_ble_eq_true rfl⟩ (fun r_1 H locs hr_1 hP hS => ?_)
  refine lv_if_eq (tgt := 15) hx hb dX10_ask_4 (by decide) (fun c_2 => ?_) (fun c_2 => ?_)
  · skip
    refine lv_bipush (v := (-2)) hx hb dX10_ask_15 (by decide) ?_
    refine lv_istore_n (lv' := [(3, .int (-2)), (0, .ref (o 0)), (1, .int p0), (2, .int p1)]) hx hb dX10_ask_17 rfl hl (by decide) rfl (fun ls hl => ?_)
    refine lv_iload_n hx hb dX10_ask_18 rfl (lv_at hl 0 rfl) ?_
    refine lv_if_eq (tgt := 24) hx hb dX10_ask_19 (by decide) (fun c_3 => absurd c_3 (by decide)) (fun c_3 => ?_)
    refine lv_iload_n hx hb dX10_ask_22 rfl (lv_at hl 0 rfl) ?_
    exact x_reti S hr hlk hQ hS () rfl x_T dX10_ask_23
  · skip
    refine lv_aload_n hx hb dX10_ask_7 rfl (lv_at hl 0 rfl) ?_
    refine lv_iload_n hx hb dX10_ask_8 rfl (lv_at hl 1 rfl) ?_
    refine x_roVi (As := [.int p0]) S hK hP hS hA hl mwX10_refusalOfSeen lkX10_337 (ctX10_refusalOfSeen l D k o p0 ) [0, 1] rfl (hDW.sub [0, 1] (by decide) rfl) rfl rfl rfl rfl rfl ⟨Nat.le_of_ble_eq_true rfl, Nat.le_of_ble_eq_true rfl, Nat.le_of_ble_eq_true rfl⟩ dX10_ask_9 ⟨Nat.le_of_ble_eq_true rfl, Nat.le_of_ble_eq_true rfl⟩ (fun r_4 H locs hr_4 hP hS => ?_)
    subst hr_4
    refine lv_goto (tgt := 17) hx hb dX10_ask_12 (by decide) ?_
    refine lv_istore_n (lv' := [(3, .int (-2)), (0, .ref (o 0)), (1, .int p0), (2, .int p1)]) hx hb dX10_ask_17 rfl hl (by decide) rfl (fun ls hl => ?_)
    refine lv_iload_n hx hb dX10_ask_18 rfl (lv_at hl 0 rfl) ?_
    refine lv_if_eq (tgt := 24) hx hb dX10_ask_19 (by decide) (fun c_5 => absurd c_5 (by decide)) (fun c_5 => ?_)
    refine lv_iload_n hx hb dX10_ask_22 rfl (lv_at hl 0 rfl) ?_
    exact x_reti S hr hlk hQ hS () rfl x_T dX10_ask_23

set_option maxHeartbeats 4000000 in
set_option maxRecDepth 100000 in
theorem ctX10_leaves (l : Launch) (D : va_G) (k : Nat → ClassId) (o : Nat → Nat) (p0 : Int32) (p1 : Int32)  : RO l yX10_leaves cX10_leaves 4 (some .int) 2 D k [.ref (o 0), .int p0, .int p1] [((o 0), .inr (10, [.ref (o 1), .ref (o 2), .ref (o 3), .ref (o 4), .ref (o 5), .ref (o 6), .ref (o 7), .ref (o 8), .ref (o 9), .ref (o 10), .ref (o 11), .ref (o 12), .ref (o 13), .ref (o 14)])), ((o 3), .inr (2, [.int 0, .int 0, .int 0, .int 0, .int 0, .int 0, .int 0, .int 0, .int 0, .ref (o 26), .ref (o 27), .ref (o 28), .ref (o 29), .ref (o 30), .ref (o 31), .ref (o 32), .ref (o 33), .ref (o 34), .ref (o 35)]))] (Qi (fun r : Int32 => r = (-2))) := by
  refine RO.of (by decide) (Nat.le_of_ble_eq_true rfl) ?_
  intro p e s m below meth c ls A args Q S hr hlk hQ hK hP hDW hA hS hl
  have hx := S.1
  have hb := S.2.1
  have hl : lv_has ls 4 [(0, .ref (o 0)), (1, .int p0), (2, .int p1)] := hl
  refine lv_iload_n hx hb dX10_leaves_0 rfl (lv_at hl 2 rfl) ?_
  refine x_roSi (As := [.int p1]) S hK hP hS hA hl mwX10_isView lkX10_184 (ctX10_isView l D k p1 ) [] rfl D_nil rfl rfl ⟨Nat.le_of_ble_eq_true rfl, Nat.le_of_ble_eq_true rfl, Nat.le_of_ble_eq_true rfl⟩ dX10_leaves_1 ⟨Nat.le_of_ble_eq_true rfl, Nat.le_of_ble_eq_true rfl⟩ (fun r_1 H locs hr_1 hP hS => ?_)
  refine lv_if_eq (tgt := 15) hx hb dX10_leaves_4 (by decide) (fun c_2 => ?_) (fun c_2 => ?_)
  · skip
    refine lv_bipush (v := (-2)) hx hb dX10_leaves_15 (by decide) ?_
    refine lv_istore_n (lv' := [(3, .int (-2)), (0, .ref (o 0)), (1, .int p0), (2, .int p1)]) hx hb dX10_leaves_17 rfl hl (by decide) rfl (fun ls hl => ?_)
    refine lv_iload_n hx hb dX10_leaves_18 rfl (lv_at hl 0 rfl) ?_
    refine lv_if_eq (tgt := 24) hx hb dX10_leaves_19 (by decide) (fun c_3 => absurd c_3 (by decide)) (fun c_3 => ?_)
    refine lv_iload_n hx hb dX10_leaves_22 rfl (lv_at hl 0 rfl) ?_
    exact x_reti S hr hlk hQ hS () rfl x_T dX10_leaves_23
  · skip
    refine lv_aload_n hx hb dX10_leaves_7 rfl (lv_at hl 0 rfl) ?_
    refine lv_iload_n hx hb dX10_leaves_8 rfl (lv_at hl 1 rfl) ?_
    refine x_roVi (As := [.int p0]) S hK hP hS hA hl mwX10_refusalOfSeen lkX10_337 (ctX10_refusalOfSeen l D k o p0 ) [0, 1] rfl (hDW.sub [0, 1] (by decide) rfl) rfl rfl rfl rfl rfl ⟨Nat.le_of_ble_eq_true rfl, Nat.le_of_ble_eq_true rfl, Nat.le_of_ble_eq_true rfl⟩ dX10_leaves_9 ⟨Nat.le_of_ble_eq_true rfl, Nat.le_of_ble_eq_true rfl⟩ (fun r_4 H locs hr_4 hP hS => ?_)
    subst hr_4
    refine lv_goto (tgt := 17) hx hb dX10_leaves_12 (by decide) ?_
    refine lv_istore_n (lv' := [(3, .int (-2)), (0, .ref (o 0)), (1, .int p0), (2, .int p1)]) hx hb dX10_leaves_17 rfl hl (by decide) rfl (fun ls hl => ?_)
    refine lv_iload_n hx hb dX10_leaves_18 rfl (lv_at hl 0 rfl) ?_
    refine lv_if_eq (tgt := 24) hx hb dX10_leaves_19 (by decide) (fun c_5 => absurd c_5 (by decide)) (fun c_5 => ?_)
    refine lv_iload_n hx hb dX10_leaves_22 rfl (lv_at hl 0 rfl) ?_
    exact x_reti S hr hlk hQ hS () rfl x_T dX10_leaves_23

set_option maxHeartbeats 4000000 in
set_option maxRecDepth 100000 in
theorem ctX10_laws (l : Launch) (D : va_G) (k : Nat → ClassId) (o : Nat → Nat) (p0 : Int32)  : RO l yX10_laws cX10_laws 3 (some .int) 2 D k [.ref (o 0), .int p0] [((o 0), .inr (10, [.ref (o 1), .ref (o 2), .ref (o 3), .ref (o 4), .ref (o 5), .ref (o 6), .ref (o 7), .ref (o 8), .ref (o 9), .ref (o 10), .ref (o 11), .ref (o 12), .ref (o 13), .ref (o 14)])), ((o 3), .inr (2, [.int 0, .int 0, .int 0, .int 0, .int 0, .int 0, .int 0, .int 0, .int 0, .ref (o 26), .ref (o 27), .ref (o 28), .ref (o 29), .ref (o 30), .ref (o 31), .ref (o 32), .ref (o 33), .ref (o 34), .ref (o 35)]))] (Qi (fun r : Int32 => r = (-2))) := by
  refine RO.of (by decide) (Nat.le_of_ble_eq_true rfl) ?_
  intro p e s m below meth c ls A args Q S hr hlk hQ hK hP hDW hA hS hl
  have hx := S.1
  have hb := S.2.1
  have hl : lv_has ls 3 [(0, .ref (o 0)), (1, .int p0)] := hl
  refine lv_aload_n hx hb dX10_laws_0 rfl (lv_at hl 0 rfl) ?_
  refine lv_iload_n hx hb dX10_laws_1 rfl (lv_at hl 1 rfl) ?_
  refine x_roVi (As := [.int p0]) S hK hP hS hA hl mwX10_refusalOfSeen lkX10_337 (ctX10_refusalOfSeen l D k o p0 ) [0, 1] rfl (hDW.sub [0, 1] (by decide) rfl) rfl rfl rfl rfl rfl ⟨Nat.le_of_ble_eq_true rfl, Nat.le_of_ble_eq_true rfl, Nat.le_of_ble_eq_true rfl⟩ dX10_laws_2 ⟨Nat.le_of_ble_eq_true rfl, Nat.le_of_ble_eq_true rfl⟩ (fun r_1 H locs hr_1 hP hS => ?_)
  subst hr_1
  refine lv_istore_n (lv' := [(2, .int (-2)), (0, .ref (o 0)), (1, .int p0)]) hx hb dX10_laws_5 rfl hl (by decide) rfl (fun ls hl => ?_)
  refine lv_iload_n hx hb dX10_laws_6 rfl (lv_at hl 0 rfl) ?_
  refine lv_if_ne (tgt := 21) hx hb dX10_laws_7 (by decide) (fun c_2 => ?_) (fun c_2 => absurd c_2 (by decide))
  refine lv_iload_n hx hb dX10_laws_21 rfl (lv_at hl 0 rfl) ?_
  exact x_reti S hr hlk hQ hS () rfl x_T dX10_laws_22

set_option maxHeartbeats 4000000 in
set_option maxRecDepth 100000 in
theorem ctX10_by (l : Launch) (D : va_G) (k : Nat → ClassId) (o : Nat → Nat) (p0 : Int32)  : RO l yX10_by cX10_by 2 (some .int) 1 D k [.ref (o 0), .int p0] [((o 0), .inr (10, [.ref (o 1), .ref (o 2), .ref (o 3), .ref (o 4), .ref (o 5), .ref (o 6), .ref (o 7), .ref (o 8), .ref (o 9), .ref (o 10), .ref (o 11), .ref (o 12), .ref (o 13), .ref (o 14)])), ((o 3), .inr (2, [.int 0, .int 0, .int 0, .int 0, .int 0, .int 0, .int 0, .int 0, .int 0, .ref (o 26), .ref (o 27), .ref (o 28), .ref (o 29), .ref (o 30), .ref (o 31), .ref (o 32), .ref (o 33), .ref (o 34), .ref (o 35)]))] (Qi (fun r : Int32 => r = (-2))) := by
  refine RO.of (by decide) (Nat.le_of_ble_eq_true rfl) ?_
  intro p e s m below meth c ls A args Q S hr hlk hQ hK hP hDW hA hS hl
  have hx := S.1
  have hb := S.2.1
  have hl : lv_has ls 2 [(0, .ref (o 0)), (1, .int p0)] := hl
  refine lv_aload_n hx hb dX10_by_0 rfl (lv_at hl 0 rfl) ?_
  refine x_roVi (As := []) S hK hP hS hA hl mwX10_isGarden lkX10_196 (ctX10_isGarden l D k o ) [0, 1] rfl (hDW.sub [0, 1] (by decide) rfl) rfl rfl rfl rfl rfl ⟨Nat.le_of_ble_eq_true rfl, Nat.le_of_ble_eq_true rfl, Nat.le_of_ble_eq_true rfl⟩ dX10_by_1 ⟨Nat.le_of_ble_eq_true rfl, Nat.le_of_ble_eq_true rfl⟩ (fun r_1 H locs hr_1 hP hS => ?_)
  subst hr_1
  refine lv_if_eq (tgt := 16) hx hb dX10_by_4 (by decide) (fun c_2 => ?_) (fun c_2 => absurd (by decide) c_2)
  refine lv_bipush (v := (-2)) hx hb dX10_by_16 (by decide) ?_
  exact x_reti S hr hlk hQ hS () rfl x_T dX10_by_18

set_option maxHeartbeats 4000000 in
set_option maxRecDepth 100000 in
theorem ctX10_law (l : Launch) (D : va_G) (k : Nat → ClassId) (o : Nat → Nat)  : RO l yX10_law cX10_law 1 (some .int) 1 D k [.ref (o 0)] [((o 0), .inr (10, [.ref (o 1), .ref (o 2), .ref (o 3), .ref (o 4), .ref (o 5), .ref (o 6), .ref (o 7), .ref (o 8), .ref (o 9), .ref (o 10), .ref (o 11), .ref (o 12), .ref (o 13), .ref (o 14)])), ((o 3), .inr (2, [.int 0, .int 0, .int 0, .int 0, .int 0, .int 0, .int 0, .int 0, .int 0, .ref (o 26), .ref (o 27), .ref (o 28), .ref (o 29), .ref (o 30), .ref (o 31), .ref (o 32), .ref (o 33), .ref (o 34), .ref (o 35)]))] (Qi (fun r : Int32 => r = (-2))) := by
  refine RO.of (by decide) (Nat.le_of_ble_eq_true rfl) ?_
  intro p e s m below meth c ls A args Q S hr hlk hQ hK hP hDW hA hS hl
  have hx := S.1
  have hb := S.2.1
  have hl : lv_has ls 1 [(0, .ref (o 0))] := hl
  refine lv_aload_n hx hb dX10_law_0 rfl (lv_at hl 0 rfl) ?_
  refine x_roVi (As := []) S hK hP hS hA hl mwX10_isGarden lkX10_196 (ctX10_isGarden l D k o ) [0, 1] rfl (hDW.sub [0, 1] (by decide) rfl) rfl rfl rfl rfl rfl ⟨Nat.le_of_ble_eq_true rfl, Nat.le_of_ble_eq_true rfl, Nat.le_of_ble_eq_true rfl⟩ dX10_law_1 ⟨Nat.le_of_ble_eq_true rfl, Nat.le_of_ble_eq_true rfl⟩ (fun r_1 H locs hr_1 hP hS => ?_)
  subst hr_1
  refine lv_if_eq (tgt := 17) hx hb dX10_law_4 (by decide) (fun c_2 => ?_) (fun c_2 => absurd (by decide) c_2)
  refine lv_bipush (v := (-2)) hx hb dX10_law_17 (by decide) ?_
  exact x_reti S hr hlk hQ hS () rfl x_T dX10_law_19

set_option maxHeartbeats 4000000 in
set_option maxRecDepth 100000 in
theorem ctX10_rests (l : Launch) (D : va_G) (k : Nat → ClassId) (o : Nat → Nat) (p0 : Int32) (p1 : Int32)  : RO l yX10_rests cX10_rests 3 (some .int) 2 D k [.ref (o 0), .int p0, .int p1] [((o 0), .inr (10, [.ref (o 1), .ref (o 2), .ref (o 3), .ref (o 4), .ref (o 5), .ref (o 6), .ref (o 7), .ref (o 8), .ref (o 9), .ref (o 10), .ref (o 11), .ref (o 12), .ref (o 13), .ref (o 14)])), ((o 3), .inr (2, [.int 0, .int 0, .int 0, .int 0, .int 0, .int 0, .int 0, .int 0, .int 0, .ref (o 26), .ref (o 27), .ref (o 28), .ref (o 29), .ref (o 30), .ref (o 31), .ref (o 32), .ref (o 33), .ref (o 34), .ref (o 35)]))] (Qi (fun r : Int32 => r = (-2))) := by
  refine RO.of (by decide) (Nat.le_of_ble_eq_true rfl) ?_
  intro p e s m below meth c ls A args Q S hr hlk hQ hK hP hDW hA hS hl
  have hx := S.1
  have hb := S.2.1
  have hl : lv_has ls 3 [(0, .ref (o 0)), (1, .int p0), (2, .int p1)] := hl
  refine lv_aload_n hx hb dX10_rests_0 rfl (lv_at hl 0 rfl) ?_
  refine lv_iload_n hx hb dX10_rests_1 rfl (lv_at hl 1 rfl) ?_
  refine lv_iload_n hx hb dX10_rests_2 rfl (lv_at hl 2 rfl) ?_
  refine x_roVi (As := [.int p0, .int p1]) S hK hP hS hA hl mwX10_isPair lkX10_371 (ctX10_isPair l D k o p0 p1 ) [0, 1] rfl (hDW.sub [0, 1] (by decide) rfl) rfl rfl rfl rfl rfl ⟨Nat.le_of_ble_eq_true rfl, Nat.le_of_ble_eq_true rfl, Nat.le_of_ble_eq_true rfl⟩ dX10_rests_3 ⟨Nat.le_of_ble_eq_true rfl, Nat.le_of_ble_eq_true rfl⟩ (fun r_1 H locs hr_1 hP hS => ?_)
  subst hr_1
  refine lv_if_eq (tgt := 21) hx hb dX10_rests_6 (by decide) (fun c_2 => ?_) (fun c_2 => absurd (by decide) c_2)
  refine lv_bipush (v := (-2)) hx hb dX10_rests_21 (by decide) ?_
  exact x_reti S hr hlk hQ hS () rfl x_T dX10_rests_23

set_option maxHeartbeats 4000000 in
set_option maxRecDepth 100000 in
theorem ctX10_gets (l : Launch) (D : va_G) (k : Nat → ClassId) (o : Nat → Nat) (p0 : Int32) (p1 : Int32) (p2 : Int32) (p3 : Int32)  : RO l yX10_gets cX10_gets 6 (some .int) 2 D k [.ref (o 0), .int p0, .int p1, .int p2, .int p3] [((o 0), .inr (10, [.ref (o 1), .ref (o 2), .ref (o 3), .ref (o 4), .ref (o 5), .ref (o 6), .ref (o 7), .ref (o 8), .ref (o 9), .ref (o 10), .ref (o 11), .ref (o 12), .ref (o 13), .ref (o 14)])), ((o 3), .inr (2, [.int 0, .int 0, .int 0, .int 0, .int 0, .int 0, .int 0, .int 0, .int 0, .ref (o 26), .ref (o 27), .ref (o 28), .ref (o 29), .ref (o 30), .ref (o 31), .ref (o 32), .ref (o 33), .ref (o 34), .ref (o 35)]))] (Qi (fun r : Int32 => r = (-1000))) := by
  refine RO.of (by decide) (Nat.le_of_ble_eq_true rfl) ?_
  intro p e s m below meth c ls A args Q S hr hlk hQ hK hP hDW hA hS hl
  have hx := S.1
  have hb := S.2.1
  have hl : lv_has ls 6 [(0, .ref (o 0)), (1, .int p0), (2, .int p1), (3, .int p2), (4, .int p3)] := hl
  refine lv_aload_n hx hb dX10_gets_0 rfl (lv_at hl 0 rfl) ?_
  refine lv_iload_n hx hb dX10_gets_1 rfl (lv_at hl 1 rfl) ?_
  refine lv_iload_n hx hb dX10_gets_2 rfl (lv_at hl 2 rfl) ?_
  refine x_roVi (As := [.int p0, .int p1]) S hK hP hS hA hl mwX10_isPair lkX10_371 (ctX10_isPair l D k o p0 p1 ) [0, 1] rfl (hDW.sub [0, 1] (by decide) rfl) rfl rfl rfl rfl rfl ⟨Nat.le_of_ble_eq_true rfl, Nat.le_of_ble_eq_true rfl, Nat.le_of_ble_eq_true rfl⟩ dX10_gets_3 ⟨Nat.le_of_ble_eq_true rfl, Nat.le_of_ble_eq_true rfl⟩ (fun r_1 H locs hr_1 hP hS => ?_)
  subst hr_1
  refine lv_if_eq (tgt := 28) hx hb dX10_gets_6 (by decide) (fun c_2 => ?_) (fun c_2 => absurd (by decide) c_2)
  refine lv_iconst (v := 0) hx hb dX10_gets_28 (by decide) ?_
  refine lv_istore (lv' := [(5, .int 0), (0, .ref (o 0)), (1, .int p0), (2, .int p1), (3, .int p2), (4, .int p3)]) hx hb dX10_gets_29 hl (by decide) rfl (fun ls hl => ?_)
  refine lv_iload hx hb dX10_gets_31 (lv_at hl 0 rfl) ?_
  refine lv_if_eq (tgt := 55) hx hb dX10_gets_33 (by decide) (fun c_3 => ?_) (fun c_3 => absurd (by decide) c_3)
  refine lv_sipush (v := (-1000)) hx hb dX10_gets_55 (by decide) ?_
  exact x_reti S hr hlk hQ hS () rfl x_T dX10_gets_58

set_option maxHeartbeats 4000000 in
set_option maxRecDepth 100000 in
theorem ctX10_chance (l : Launch) (D : va_G) (k : Nat → ClassId) (o : Nat → Nat) (p0 : Int32) (p1 : Int32) (p2 : Int32) (p3 : Int32)  : RO l yX10_chance cX10_chance 5 (some .long) 1 D k [.ref (o 0), .int p0, .int p1, .int p2, .int p3] [((o 0), .inr (10, [.ref (o 1), .ref (o 2), .ref (o 3), .ref (o 4), .ref (o 5), .ref (o 6), .ref (o 7), .ref (o 8), .ref (o 9), .ref (o 10), .ref (o 11), .ref (o 12), .ref (o 13), .ref (o 14)])), ((o 3), .inr (2, [.int 0, .int 0, .int 0, .int 0, .int 0, .int 0, .int 0, .int 0, .int 0, .ref (o 26), .ref (o 27), .ref (o 28), .ref (o 29), .ref (o 30), .ref (o 31), .ref (o 32), .ref (o 33), .ref (o 34), .ref (o 35)]))] (Ql (fun r : Int64 => r = (-2))) := by
  refine RO.of (by decide) (Nat.le_of_ble_eq_true rfl) ?_
  intro p e s m below meth c ls A args Q S hr hlk hQ hK hP hDW hA hS hl
  have hx := S.1
  have hb := S.2.1
  have hl : lv_has ls 5 [(0, .ref (o 0)), (1, .int p0), (2, .int p1), (3, .int p2), (4, .int p3)] := hl
  refine lv_aload_n hx hb dX10_chance_0 rfl (lv_at hl 0 rfl) ?_
  refine lv_iload_n hx hb dX10_chance_1 rfl (lv_at hl 1 rfl) ?_
  refine x_roVi (As := [.int p0]) S hK hP hS hA hl mwX10_isHead lkX10_135 (ctX10_isHead l D k o p0 ) [0, 1] rfl (hDW.sub [0, 1] (by decide) rfl) rfl rfl rfl rfl rfl ⟨Nat.le_of_ble_eq_true rfl, Nat.le_of_ble_eq_true rfl, Nat.le_of_ble_eq_true rfl⟩ dX10_chance_2 ⟨Nat.le_of_ble_eq_true rfl, Nat.le_of_ble_eq_true rfl⟩ (fun r_1 H locs hr_1 hP hS => ?_)
  subst hr_1
  refine lv_if_eq (tgt := 31) hx hb dX10_chance_5 (by decide) (fun c_2 => ?_) (fun c_2 => absurd (by decide) c_2)
  refine lv_ldc2 hx hb S.2.2.2.1 (S.2.2.2.2 _ lkX10_294) dX10_chance_31 ?_
  exact x_retl S hr hlk hQ hS () rfl x_T dX10_chance_34

set_option maxHeartbeats 4000000 in
set_option maxRecDepth 100000 in
theorem ctX10_mean (l : Launch) (D : va_G) (k : Nat → ClassId) (o : Nat → Nat) (p0 : Int32) (p1 : Int32)  : RO l yX10_mean cX10_mean 3 (some .long) 3 D k [.ref (o 0), .int p0, .int p1] [((o 0), .inr (10, [.ref (o 1), .ref (o 2), .ref (o 3), .ref (o 4), .ref (o 5), .ref (o 6), .ref (o 7), .ref (o 8), .ref (o 9), .ref (o 10), .ref (o 11), .ref (o 12), .ref (o 13), .ref (o 14)])), ((o 3), .inr (2, [.int 0, .int 0, .int 0, .int 0, .int 0, .int 0, .int 0, .int 0, .int 0, .ref (o 26), .ref (o 27), .ref (o 28), .ref (o 29), .ref (o 30), .ref (o 31), .ref (o 32), .ref (o 33), .ref (o 34), .ref (o 35)]))] (Ql (fun r : Int64 => r = (-2))) := by
  refine RO.of (by decide) (Nat.le_of_ble_eq_true rfl) ?_
  intro p e s m below meth c ls A args Q S hr hlk hQ hK hP hDW hA hS hl
  have hx := S.1
  have hb := S.2.1
  have hl : lv_has ls 3 [(0, .ref (o 0)), (1, .int p0), (2, .int p1)] := hl
  refine lv_aload_n hx hb dX10_mean_0 rfl (lv_at hl 0 rfl) ?_
  refine lv_iload_n hx hb dX10_mean_1 rfl (lv_at hl 1 rfl) ?_
  refine x_roVi (As := [.int p0]) S hK hP hS hA hl mwX10_isWetHour lkX10_381 (ctX10_isWetHour l D k o p0 ) [0, 1] rfl (hDW.sub [0, 1] (by decide) rfl) rfl rfl rfl rfl rfl ⟨Nat.le_of_ble_eq_true rfl, Nat.le_of_ble_eq_true rfl, Nat.le_of_ble_eq_true rfl⟩ dX10_mean_2 ⟨Nat.le_of_ble_eq_true rfl, Nat.le_of_ble_eq_true rfl⟩ (fun r_1 H locs hr_1 hP hS => ?_)
  subst hr_1
  refine lv_if_eq (tgt := 15) hx hb dX10_mean_5 (by decide) (fun c_2 => ?_) (fun c_2 => absurd (by decide) c_2)
  refine lv_ldc2 hx hb S.2.2.2.1 (S.2.2.2.2 _ lkX10_294) dX10_mean_15 ?_
  exact x_retl S hr hlk hQ hS () rfl x_T dX10_mean_18

set_option maxHeartbeats 4000000 in
set_option maxRecDepth 100000 in
theorem ctX10_say (l : Launch) (D : va_G) (k : Nat → ClassId) (o : Nat → Nat) (p0 : Int32) (p1 : Int32) (p2 : Int32)  : RO l yX10_say cX10_say 4 (some .int) 1 D k [.ref (o 0), .int p0, .int p1, .int p2] [((o 0), .inr (10, [.ref (o 1), .ref (o 2), .ref (o 3), .ref (o 4), .ref (o 5), .ref (o 6), .ref (o 7), .ref (o 8), .ref (o 9), .ref (o 10), .ref (o 11), .ref (o 12), .ref (o 13), .ref (o 14)])), ((o 3), .inr (2, [.int 0, .int 0, .int 0, .int 0, .int 0, .int 0, .int 0, .int 0, .int 0, .ref (o 26), .ref (o 27), .ref (o 28), .ref (o 29), .ref (o 30), .ref (o 31), .ref (o 32), .ref (o 33), .ref (o 34), .ref (o 35)]))] (Qi (fun r : Int32 => r = (-2))) := by
  refine RO.of (by decide) (Nat.le_of_ble_eq_true rfl) ?_
  intro p e s m below meth c ls A args Q S hr hlk hQ hK hP hDW hA hS hl
  have hx := S.1
  have hb := S.2.1
  have hl : lv_has ls 4 [(0, .ref (o 0)), (1, .int p0), (2, .int p1), (3, .int p2)] := hl
  refine lv_iload_n hx hb dX10_say_0 rfl (lv_at hl 1 rfl) ?_
  refine x_roSi (As := [.int p0]) S hK hP hS hA hl mwX10_isView lkX10_184 (ctX10_isView l D k p0 ) [] rfl D_nil rfl rfl ⟨Nat.le_of_ble_eq_true rfl, Nat.le_of_ble_eq_true rfl, Nat.le_of_ble_eq_true rfl⟩ dX10_say_1 ⟨Nat.le_of_ble_eq_true rfl, Nat.le_of_ble_eq_true rfl⟩ (fun r_1 H locs hr_1 hP hS => ?_)
  refine lv_if_eq (tgt := 23) hx hb dX10_say_4 (by decide) (fun c_2 => ?_) (fun c_2 => ?_)
  · skip
    refine lv_bipush (v := (-2)) hx hb dX10_say_23 (by decide) ?_
    exact x_reti S hr hlk hQ hS () rfl x_T dX10_say_25
  · skip
    refine lv_aload_n hx hb dX10_say_7 rfl (lv_at hl 0 rfl) ?_
    refine lv_iload_n hx hb dX10_say_8 rfl (lv_at hl 2 rfl) ?_
    refine x_roVi (As := [.int p1]) S hK hP hS hA hl mwX10_isHead lkX10_135 (ctX10_isHead l D k o p1 ) [0, 1] rfl (hDW.sub [0, 1] (by decide) rfl) rfl rfl rfl rfl rfl ⟨Nat.le_of_ble_eq_true rfl, Nat.le_of_ble_eq_true rfl, Nat.le_of_ble_eq_true rfl⟩ dX10_say_9 ⟨Nat.le_of_ble_eq_true rfl, Nat.le_of_ble_eq_true rfl⟩ (fun r_3 H locs hr_3 hP hS => ?_)
    subst hr_3
    refine lv_if_eq (tgt := 23) hx hb dX10_say_12 (by decide) (fun c_4 => ?_) (fun c_4 => absurd (by decide) c_4)
    refine lv_bipush (v := (-2)) hx hb dX10_say_23 (by decide) ?_
    exact x_reti S hr hlk hQ hS () rfl x_T dX10_say_25

set_option maxHeartbeats 4000000 in
set_option maxRecDepth 100000 in
theorem ctX10_slug (l : Launch) (D : va_G) (k : Nat → ClassId) (o : Nat → Nat) (p0 : Int32) (p1 : Int32)  : RO l yX10_slug cX10_slug 3 (some .int) 1 D k [.ref (o 0), .int p0, .int p1] [((o 0), .inr (10, [.ref (o 1), .ref (o 2), .ref (o 3), .ref (o 4), .ref (o 5), .ref (o 6), .ref (o 7), .ref (o 8), .ref (o 9), .ref (o 10), .ref (o 11), .ref (o 12), .ref (o 13), .ref (o 14)])), ((o 3), .inr (2, [.int 0, .int 0, .int 0, .int 0, .int 0, .int 0, .int 0, .int 0, .int 0, .ref (o 26), .ref (o 27), .ref (o 28), .ref (o 29), .ref (o 30), .ref (o 31), .ref (o 32), .ref (o 33), .ref (o 34), .ref (o 35)]))] (Qi (fun r : Int32 => r = (-2))) := by
  refine RO.of (by decide) (Nat.le_of_ble_eq_true rfl) ?_
  intro p e s m below meth c ls A args Q S hr hlk hQ hK hP hDW hA hS hl
  have hx := S.1
  have hb := S.2.1
  have hl : lv_has ls 3 [(0, .ref (o 0)), (1, .int p0), (2, .int p1)] := hl
  refine lv_aload_n hx hb dX10_slug_0 rfl (lv_at hl 0 rfl) ?_
  refine lv_iload_n hx hb dX10_slug_1 rfl (lv_at hl 1 rfl) ?_
  refine x_roVi (As := [.int p0]) S hK hP hS hA hl mwX10_isHead lkX10_135 (ctX10_isHead l D k o p0 ) [0, 1] rfl (hDW.sub [0, 1] (by decide) rfl) rfl rfl rfl rfl rfl ⟨Nat.le_of_ble_eq_true rfl, Nat.le_of_ble_eq_true rfl, Nat.le_of_ble_eq_true rfl⟩ dX10_slug_2 ⟨Nat.le_of_ble_eq_true rfl, Nat.le_of_ble_eq_true rfl⟩ (fun r_1 H locs hr_1 hP hS => ?_)
  subst hr_1
  refine lv_if_eq (tgt := 16) hx hb dX10_slug_5 (by decide) (fun c_2 => ?_) (fun c_2 => absurd (by decide) c_2)
  refine lv_bipush (v := (-2)) hx hb dX10_slug_16 (by decide) ?_
  exact x_reti S hr hlk hQ hS () rfl x_T dX10_slug_18

set_option maxHeartbeats 4000000 in
set_option maxRecDepth 100000 in
theorem ctX10_undo (l : Launch) (D : va_G) (k : Nat → ClassId) (o : Nat → Nat)  : RO l yX10_undo cX10_undo 1 (some .int) 1 D k [.ref (o 0)] [((o 0), .inr (10, [.ref (o 1), .ref (o 2), .ref (o 3), .ref (o 4), .ref (o 5), .ref (o 6), .ref (o 7), .ref (o 8), .ref (o 9), .ref (o 10), .ref (o 11), .ref (o 12), .ref (o 13), .ref (o 14)])), ((o 3), .inr (2, [.int 0, .int 0, .int 0, .int 0, .int 0, .int 0, .int 0, .int 0, .int 0, .ref (o 26), .ref (o 27), .ref (o 28), .ref (o 29), .ref (o 30), .ref (o 31), .ref (o 32), .ref (o 33), .ref (o 34), .ref (o 35)]))] (Qi (fun r : Int32 => r = (-2))) := by
  refine RO.of (by decide) (Nat.le_of_ble_eq_true rfl) ?_
  intro p e s m below meth c ls A args Q S hr hlk hQ hK hP hDW hA hS hl
  have hx := S.1
  have hb := S.2.1
  have hl : lv_has ls 1 [(0, .ref (o 0))] := hl
  refine lv_aload_n hx hb dX10_undo_0 rfl (lv_at hl 0 rfl) ?_
  refine x_roVi (As := []) S hK hP hS hA hl mwX10_isGarden lkX10_196 (ctX10_isGarden l D k o ) [0, 1] rfl (hDW.sub [0, 1] (by decide) rfl) rfl rfl rfl rfl rfl ⟨Nat.le_of_ble_eq_true rfl, Nat.le_of_ble_eq_true rfl, Nat.le_of_ble_eq_true rfl⟩ dX10_undo_1 ⟨Nat.le_of_ble_eq_true rfl, Nat.le_of_ble_eq_true rfl⟩ (fun r_1 H locs hr_1 hP hS => ?_)
  subst hr_1
  refine lv_if_ne (tgt := 10) hx hb dX10_undo_4 (by decide) (fun c_2 => absurd (by decide) c_2) (fun c_2 => ?_)
  refine lv_bipush (v := (-2)) hx hb dX10_undo_7 (by decide) ?_
  exact x_reti S hr hlk hQ hS () rfl x_T dX10_undo_9

set_option maxHeartbeats 4000000 in
set_option maxRecDepth 100000 in
theorem ctX10_anew (l : Launch) (D : va_G) (k : Nat → ClassId) (o : Nat → Nat)  : RO l yX10_anew cX10_anew 2 (some .int) 1 D k [.ref (o 0)] [((o 0), .inr (10, [.ref (o 1), .ref (o 2), .ref (o 3), .ref (o 4), .ref (o 5), .ref (o 6), .ref (o 7), .ref (o 8), .ref (o 9), .ref (o 10), .ref (o 11), .ref (o 12), .ref (o 13), .ref (o 14)])), ((o 3), .inr (2, [.int 0, .int 0, .int 0, .int 0, .int 0, .int 0, .int 0, .int 0, .int 0, .ref (o 26), .ref (o 27), .ref (o 28), .ref (o 29), .ref (o 30), .ref (o 31), .ref (o 32), .ref (o 33), .ref (o 34), .ref (o 35)]))] (Qi (fun r : Int32 => r = (-2))) := by
  refine RO.of (by decide) (Nat.le_of_ble_eq_true rfl) ?_
  intro p e s m below meth c ls A args Q S hr hlk hQ hK hP hDW hA hS hl
  have hx := S.1
  have hb := S.2.1
  have hl : lv_has ls 2 [(0, .ref (o 0))] := hl
  refine lv_aload_n hx hb dX10_anew_0 rfl (lv_at hl 0 rfl) ?_
  refine x_roVi (As := []) S hK hP hS hA hl mwX10_isGarden lkX10_196 (ctX10_isGarden l D k o ) [0, 1] rfl (hDW.sub [0, 1] (by decide) rfl) rfl rfl rfl rfl rfl ⟨Nat.le_of_ble_eq_true rfl, Nat.le_of_ble_eq_true rfl, Nat.le_of_ble_eq_true rfl⟩ dX10_anew_1 ⟨Nat.le_of_ble_eq_true rfl, Nat.le_of_ble_eq_true rfl⟩ (fun r_1 H locs hr_1 hP hS => ?_)
  subst hr_1
  refine lv_if_ne (tgt := 10) hx hb dX10_anew_4 (by decide) (fun c_2 => absurd (by decide) c_2) (fun c_2 => ?_)
  refine lv_bipush (v := (-2)) hx hb dX10_anew_7 (by decide) ?_
  exact x_reti S hr hlk hQ hS () rfl x_T dX10_anew_9

set_option maxHeartbeats 4000000 in
set_option maxRecDepth 100000 in
theorem ctX10_drawn (l : Launch) (D : va_G) (k : Nat → ClassId) (o : Nat → Nat) (p0 : Int32) (p1 : Int32)  : RO l yX10_drawn cX10_drawn 4 (some .int) 1 D k [.ref (o 0), .int p0, .int p1] [((o 0), .inr (10, [.ref (o 1), .ref (o 2), .ref (o 3), .ref (o 4), .ref (o 5), .ref (o 6), .ref (o 7), .ref (o 8), .ref (o 9), .ref (o 10), .ref (o 11), .ref (o 12), .ref (o 13), .ref (o 14)])), ((o 3), .inr (2, [.int 0, .int 0, .int 0, .int 0, .int 0, .int 0, .int 0, .int 0, .int 0, .ref (o 26), .ref (o 27), .ref (o 28), .ref (o 29), .ref (o 30), .ref (o 31), .ref (o 32), .ref (o 33), .ref (o 34), .ref (o 35)]))] (Qi (fun r : Int32 => r = (-2))) := by
  refine RO.of (by decide) (Nat.le_of_ble_eq_true rfl) ?_
  intro p e s m below meth c ls A args Q S hr hlk hQ hK hP hDW hA hS hl
  have hx := S.1
  have hb := S.2.1
  have hl : lv_has ls 4 [(0, .ref (o 0)), (1, .int p0), (2, .int p1)] := hl
  refine lv_aload_n hx hb dX10_drawn_0 rfl (lv_at hl 0 rfl) ?_
  refine x_roVi (As := []) S hK hP hS hA hl mwX10_isGarden lkX10_196 (ctX10_isGarden l D k o ) [0, 1] rfl (hDW.sub [0, 1] (by decide) rfl) rfl rfl rfl rfl rfl ⟨Nat.le_of_ble_eq_true rfl, Nat.le_of_ble_eq_true rfl, Nat.le_of_ble_eq_true rfl⟩ dX10_drawn_1 ⟨Nat.le_of_ble_eq_true rfl, Nat.le_of_ble_eq_true rfl⟩ (fun r_1 H locs hr_1 hP hS => ?_)
  subst hr_1
  refine lv_if_eq (tgt := 21) hx hb dX10_drawn_4 (by decide) (fun c_2 => ?_) (fun c_2 => absurd (by decide) c_2)
  refine lv_bipush (v := (-2)) hx hb dX10_drawn_21 (by decide) ?_
  exact x_reti S hr hlk hQ hS () rfl x_T dX10_drawn_23

set_option maxHeartbeats 4000000 in
set_option maxRecDepth 100000 in
theorem ctX10_luck (l : Launch) (D : va_G) (k : Nat → ClassId) (o : Nat → Nat) (p0 : Int32) (p1 : Int32) (p2 : Int32) (p3 : Int32)  : RO l yX10_luck cX10_luck 6 (some .int) 1 D k [.ref (o 0), .int p0, .int p1, .int p2, .int p3] [((o 0), .inr (10, [.ref (o 1), .ref (o 2), .ref (o 3), .ref (o 4), .ref (o 5), .ref (o 6), .ref (o 7), .ref (o 8), .ref (o 9), .ref (o 10), .ref (o 11), .ref (o 12), .ref (o 13), .ref (o 14)])), ((o 3), .inr (2, [.int 0, .int 0, .int 0, .int 0, .int 0, .int 0, .int 0, .int 0, .int 0, .ref (o 26), .ref (o 27), .ref (o 28), .ref (o 29), .ref (o 30), .ref (o 31), .ref (o 32), .ref (o 33), .ref (o 34), .ref (o 35)]))] (Qi (fun r : Int32 => r = (-2))) := by
  refine RO.of (by decide) (Nat.le_of_ble_eq_true rfl) ?_
  intro p e s m below meth c ls A args Q S hr hlk hQ hK hP hDW hA hS hl
  have hx := S.1
  have hb := S.2.1
  have hl : lv_has ls 6 [(0, .ref (o 0)), (1, .int p0), (2, .int p1), (3, .int p2), (4, .int p3)] := hl
  refine lv_iload_n hx hb dX10_luck_0 rfl (lv_at hl 1 rfl) ?_
  refine x_roSi (As := [.int p0]) S hK hP hS hA hl mwX10_isSeed lkX10_404 (ctX10_isSeed l D k p0 ) [] rfl D_nil rfl rfl ⟨Nat.le_of_ble_eq_true rfl, Nat.le_of_ble_eq_true rfl, Nat.le_of_ble_eq_true rfl⟩ dX10_luck_1 ⟨Nat.le_of_ble_eq_true rfl, Nat.le_of_ble_eq_true rfl⟩ (fun r_1 H locs hr_1 hP hS => ?_)
  refine lv_if_eq (tgt := 38) hx hb dX10_luck_4 (by decide) (fun c_2 => ?_) (fun c_2 => ?_)
  · skip
    refine lv_iconst (v := 0) hx hb dX10_luck_38 (by decide) ?_
    refine lv_istore (lv' := [(5, .int 0), (0, .ref (o 0)), (1, .int p0), (2, .int p1), (3, .int p2), (4, .int p3)]) hx hb dX10_luck_39 hl (by decide) rfl (fun ls hl => ?_)
    refine lv_iload hx hb dX10_luck_41 (lv_at hl 0 rfl) ?_
    refine lv_if_eq (tgt := 61) hx hb dX10_luck_43 (by decide) (fun c_3 => ?_) (fun c_3 => absurd (by decide) c_3)
    refine lv_bipush (v := (-2)) hx hb dX10_luck_61 (by decide) ?_
    exact x_reti S hr hlk hQ hS () rfl x_T dX10_luck_63
  · skip
    refine lv_iload_n hx hb dX10_luck_7 rfl (lv_at hl 2 rfl) ?_
    refine lv_iconst (v := 1) hx hb dX10_luck_8 (by decide) ?_
    refine lv_icmp_lt (tgt := 38) hx hb dX10_luck_9 (by decide) (fun c_4 => ?_) (fun c_4 => ?_)
    · skip
      refine lv_iconst (v := 0) hx hb dX10_luck_38 (by decide) ?_
      refine lv_istore (lv' := [(5, .int 0), (0, .ref (o 0)), (1, .int p0), (2, .int p1), (3, .int p2), (4, .int p3)]) hx hb dX10_luck_39 hl (by decide) rfl (fun ls hl => ?_)
      refine lv_iload hx hb dX10_luck_41 (lv_at hl 0 rfl) ?_
      refine lv_if_eq (tgt := 61) hx hb dX10_luck_43 (by decide) (fun c_5 => ?_) (fun c_5 => absurd (by decide) c_5)
      refine lv_bipush (v := (-2)) hx hb dX10_luck_61 (by decide) ?_
      exact x_reti S hr hlk hQ hS () rfl x_T dX10_luck_63
    · skip
      refine lv_iload_n hx hb dX10_luck_12 rfl (lv_at hl 2 rfl) ?_
      refine lv_bipush (v := 20) hx hb dX10_luck_13 (by decide) ?_
      refine lv_icmp_gt (tgt := 38) hx hb dX10_luck_15 (by decide) (fun c_6 => ?_) (fun c_6 => ?_)
      · skip
        refine lv_iconst (v := 0) hx hb dX10_luck_38 (by decide) ?_
        refine lv_istore (lv' := [(5, .int 0), (0, .ref (o 0)), (1, .int p0), (2, .int p1), (3, .int p2), (4, .int p3)]) hx hb dX10_luck_39 hl (by decide) rfl (fun ls hl => ?_)
        refine lv_iload hx hb dX10_luck_41 (lv_at hl 0 rfl) ?_
        refine lv_if_eq (tgt := 61) hx hb dX10_luck_43 (by decide) (fun c_7 => ?_) (fun c_7 => absurd (by decide) c_7)
        refine lv_bipush (v := (-2)) hx hb dX10_luck_61 (by decide) ?_
        exact x_reti S hr hlk hQ hS () rfl x_T dX10_luck_63
      · skip
        refine lv_aload_n hx hb dX10_luck_18 rfl (lv_at hl 0 rfl) ?_
        refine lv_iload_n hx hb dX10_luck_19 rfl (lv_at hl 3 rfl) ?_
        refine x_roVi (As := [.int p2]) S hK hP hS hA hl mwX10_isHead lkX10_135 (ctX10_isHead l D k o p2 ) [0, 1] rfl (hDW.sub [0, 1] (by decide) rfl) rfl rfl rfl rfl rfl ⟨Nat.le_of_ble_eq_true rfl, Nat.le_of_ble_eq_true rfl, Nat.le_of_ble_eq_true rfl⟩ dX10_luck_20 ⟨Nat.le_of_ble_eq_true rfl, Nat.le_of_ble_eq_true rfl⟩ (fun r_8 H locs hr_8 hP hS => ?_)
        subst hr_8
        refine lv_if_eq (tgt := 38) hx hb dX10_luck_23 (by decide) (fun c_9 => ?_) (fun c_9 => absurd (by decide) c_9)
        refine lv_iconst (v := 0) hx hb dX10_luck_38 (by decide) ?_
        refine lv_istore (lv' := [(5, .int 0), (0, .ref (o 0)), (1, .int p0), (2, .int p1), (3, .int p2), (4, .int p3)]) hx hb dX10_luck_39 hl (by decide) rfl (fun ls hl => ?_)
        refine lv_iload hx hb dX10_luck_41 (lv_at hl 0 rfl) ?_
        refine lv_if_eq (tgt := 61) hx hb dX10_luck_43 (by decide) (fun c_10 => ?_) (fun c_10 => absurd (by decide) c_10)
        refine lv_bipush (v := (-2)) hx hb dX10_luck_61 (by decide) ?_
        exact x_reti S hr hlk hQ hS () rfl x_T dX10_luck_63

set_option maxHeartbeats 4000000 in
set_option maxRecDepth 100000 in
theorem ctX10_rate (l : Launch) (D : va_G) (k : Nat → ClassId) (o : Nat → Nat) (p0 : Int32) (p1 : Int32)  : RO l yX10_rate cX10_rate 4 (some .int) 1 D k [.ref (o 0), .int p0, .int p1] [((o 0), .inr (10, [.ref (o 1), .ref (o 2), .ref (o 3), .ref (o 4), .ref (o 5), .ref (o 6), .ref (o 7), .ref (o 8), .ref (o 9), .ref (o 10), .ref (o 11), .ref (o 12), .ref (o 13), .ref (o 14)])), ((o 3), .inr (2, [.int 0, .int 0, .int 0, .int 0, .int 0, .int 0, .int 0, .int 0, .int 0, .ref (o 26), .ref (o 27), .ref (o 28), .ref (o 29), .ref (o 30), .ref (o 31), .ref (o 32), .ref (o 33), .ref (o 34), .ref (o 35)]))] (Qi (fun r : Int32 => r = (-2))) := by
  refine RO.of (by decide) (Nat.le_of_ble_eq_true rfl) ?_
  intro p e s m below meth c ls A args Q S hr hlk hQ hK hP hDW hA hS hl
  have hx := S.1
  have hb := S.2.1
  have hl : lv_has ls 4 [(0, .ref (o 0)), (1, .int p0), (2, .int p1)] := hl
  refine lv_aload_n hx hb dX10_rate_0 rfl (lv_at hl 0 rfl) ?_
  refine lv_iload_n hx hb dX10_rate_1 rfl (lv_at hl 1 rfl) ?_
  refine x_roVi (As := [.int p0]) S hK hP hS hA hl mwX10_isHead lkX10_135 (ctX10_isHead l D k o p0 ) [0, 1] rfl (hDW.sub [0, 1] (by decide) rfl) rfl rfl rfl rfl rfl ⟨Nat.le_of_ble_eq_true rfl, Nat.le_of_ble_eq_true rfl, Nat.le_of_ble_eq_true rfl⟩ dX10_rate_2 ⟨Nat.le_of_ble_eq_true rfl, Nat.le_of_ble_eq_true rfl⟩ (fun r_1 H locs hr_1 hP hS => ?_)
  subst hr_1
  refine lv_if_eq (tgt := 18) hx hb dX10_rate_5 (by decide) (fun c_2 => ?_) (fun c_2 => absurd (by decide) c_2)
  refine lv_bipush (v := (-2)) hx hb dX10_rate_18 (by decide) ?_
  exact x_reti S hr hlk hQ hS () rfl x_T dX10_rate_20
