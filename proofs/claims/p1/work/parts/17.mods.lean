theorem dX11_head_0 : decode cX11_head 0 = .ok (.aload_n 0, 1) := by decide +kernel
theorem dX11_head_1 : decode cX11_head 1 = .ok (.iload_n 1, 1) := by decide +kernel
theorem dX11_head_2 : decode cX11_head 2 = .ok (.i2l, 1) := by decide +kernel
theorem dX11_head_3 : decode cX11_head 3 = .ok (.invokevirtual 237, 3) := by decide +kernel
theorem dX11_head_6 : decode cX11_head 6 = .ok (.ifCond .eq 15, 3) := by decide +kernel
theorem dX11_head_9 : decode cX11_head 9 = .ok (.iload_n 2, 1) := by decide +kernel
theorem dX11_head_10 : decode cX11_head 10 = .ok (.i2l, 1) := by decide +kernel
theorem dX11_head_11 : decode cX11_head 11 = .ok (.lconst 0, 1) := by decide +kernel
theorem dX11_head_12 : decode cX11_head 12 = .ok (.ldc2_w 241, 3) := by decide +kernel
theorem dX11_head_15 : decode cX11_head 15 = .ok (.invokestatic 91, 3) := by decide +kernel
theorem dX11_head_18 : decode cX11_head 18 = .ok (.ifCond .ne 6, 3) := by decide +kernel
theorem dX11_head_21 : decode cX11_head 21 = .ok (.bipush (-2), 2) := by decide +kernel
theorem dX11_head_23 : decode cX11_head 23 = .ok (.ireturn, 1) := by decide +kernel
theorem dX11_head_24 : decode cX11_head 24 = .ok (.aload_n 0, 1) := by decide +kernel
theorem dX11_head_25 : decode cX11_head 25 = .ok (.invokevirtual 243, 3) := by decide +kernel
theorem dX11_head_28 : decode cX11_head 28 = .ok (.iload_n 2, 1) := by decide +kernel
theorem dX11_head_29 : decode cX11_head 29 = .ok (.ifCond .ne 11, 3) := by decide +kernel
theorem dX11_head_32 : decode cX11_head 32 = .ok (.aload_n 0, 1) := by decide +kernel
theorem dX11_head_33 : decode cX11_head 33 = .ok (.iload_n 1, 1) := by decide +kernel
theorem dX11_head_34 : decode cX11_head 34 = .ok (.invokevirtual 246, 3) := by decide +kernel
theorem dX11_head_37 : decode cX11_head 37 = .ok (.goto 36, 3) := by decide +kernel
theorem dX11_head_40 : decode cX11_head 40 = .ok (.iload_n 2, 1) := by decide +kernel
theorem dX11_head_41 : decode cX11_head 41 = .ok (.iconst 1, 1) := by decide +kernel
theorem dX11_head_42 : decode cX11_head 42 = .ok (.if_icmp .ne 11, 3) := by decide +kernel
theorem dX11_head_45 : decode cX11_head 45 = .ok (.aload_n 0, 1) := by decide +kernel
theorem dX11_head_46 : decode cX11_head 46 = .ok (.iload_n 1, 1) := by decide +kernel
theorem dX11_head_47 : decode cX11_head 47 = .ok (.invokevirtual 249, 3) := by decide +kernel
theorem dX11_head_50 : decode cX11_head 50 = .ok (.goto 23, 3) := by decide +kernel
theorem dX11_head_53 : decode cX11_head 53 = .ok (.iload_n 2, 1) := by decide +kernel
theorem dX11_head_54 : decode cX11_head 54 = .ok (.iconst 2, 1) := by decide +kernel
theorem dX11_head_55 : decode cX11_head 55 = .ok (.if_icmp .ne 12, 3) := by decide +kernel
theorem dX11_head_58 : decode cX11_head 58 = .ok (.aload_n 0, 1) := by decide +kernel
theorem dX11_head_59 : decode cX11_head 59 = .ok (.getfield 34, 3) := by decide +kernel
theorem dX11_head_62 : decode cX11_head 62 = .ok (.iload_n 1, 1) := by decide +kernel
theorem dX11_head_63 : decode cX11_head 63 = .ok (.iaload, 1) := by decide +kernel
theorem dX11_head_64 : decode cX11_head 64 = .ok (.goto 9, 3) := by decide +kernel
theorem dX11_head_67 : decode cX11_head 67 = .ok (.aload_n 0, 1) := by decide +kernel
theorem dX11_head_68 : decode cX11_head 68 = .ok (.getfield 37, 3) := by decide +kernel
theorem dX11_head_71 : decode cX11_head 71 = .ok (.iload_n 1, 1) := by decide +kernel
theorem dX11_head_72 : decode cX11_head 72 = .ok (.iaload, 1) := by decide +kernel
theorem dX11_head_73 : decode cX11_head 73 = .ok (.ireturn, 1) := by decide +kernel
theorem dX11_near_0 : decode cX11_near 0 = .ok (.aload_n 0, 1) := by decide +kernel
theorem dX11_near_1 : decode cX11_near 1 = .ok (.iload_n 1, 1) := by decide +kernel
theorem dX11_near_2 : decode cX11_near 2 = .ok (.i2l, 1) := by decide +kernel
theorem dX11_near_3 : decode cX11_near 3 = .ok (.invokevirtual 237, 3) := by decide +kernel
theorem dX11_near_6 : decode cX11_near 6 = .ok (.ifCond .ne 6, 3) := by decide +kernel
theorem dX11_near_9 : decode cX11_near 9 = .ok (.bipush (-2), 2) := by decide +kernel
theorem dX11_near_11 : decode cX11_near 11 = .ok (.ireturn, 1) := by decide +kernel
theorem dX11_near_12 : decode cX11_near 12 = .ok (.aload_n 0, 1) := by decide +kernel
theorem dX11_near_13 : decode cX11_near 13 = .ok (.invokevirtual 243, 3) := by decide +kernel
theorem dX11_near_16 : decode cX11_near 16 = .ok (.aload_n 0, 1) := by decide +kernel
theorem dX11_near_17 : decode cX11_near 17 = .ok (.iload_n 1, 1) := by decide +kernel
theorem dX11_near_18 : decode cX11_near 18 = .ok (.invokevirtual 252, 3) := by decide +kernel
theorem dX11_near_21 : decode cX11_near 21 = .ok (.aload_n 0, 1) := by decide +kernel
theorem dX11_near_22 : decode cX11_near 22 = .ok (.iload_n 1, 1) := by decide +kernel
theorem dX11_near_23 : decode cX11_near 23 = .ok (.invokevirtual 255, 3) := by decide +kernel
theorem dX11_near_26 : decode cX11_near 26 = .ok (.ior, 1) := by decide +kernel
theorem dX11_near_27 : decode cX11_near 27 = .ok (.ireturn, 1) := by decide +kernel
theorem dX11_heads_0 : decode cX11_heads 0 = .ok (.aload_n 0, 1) := by decide +kernel
theorem dX11_heads_1 : decode cX11_heads 1 = .ok (.invokevirtual 243, 3) := by decide +kernel
theorem dX11_heads_4 : decode cX11_heads 4 = .ok (.aload_n 0, 1) := by decide +kernel
theorem dX11_heads_5 : decode cX11_heads 5 = .ok (.iload_n 1, 1) := by decide +kernel
theorem dX11_heads_6 : decode cX11_heads 6 = .ok (.invokevirtual 227, 3) := by decide +kernel
theorem dX11_heads_9 : decode cX11_heads 9 = .ok (.ifCond .eq 11, 3) := by decide +kernel
theorem dX11_heads_12 : decode cX11_heads 12 = .ok (.aload_n 0, 1) := by decide +kernel
theorem dX11_heads_13 : decode cX11_heads 13 = .ok (.iload_n 1, 1) := by decide +kernel
theorem dX11_heads_14 : decode cX11_heads 14 = .ok (.invokevirtual 258, 3) := by decide +kernel
theorem dX11_heads_17 : decode cX11_heads 17 = .ok (.goto 5, 3) := by decide +kernel
theorem dX11_heads_20 : decode cX11_heads 20 = .ok (.bipush (-2), 2) := by decide +kernel
theorem dX11_heads_22 : decode cX11_heads 22 = .ok (.ireturn, 1) := by decide +kernel
theorem dX11_view_0 : decode cX11_view 0 = .ok (.aload_n 0, 1) := by decide +kernel
theorem dX11_view_1 : decode cX11_view 1 = .ok (.iload_n 2, 1) := by decide +kernel
theorem dX11_view_2 : decode cX11_view 2 = .ok (.invokevirtual 330, 3) := by decide +kernel
theorem dX11_view_5 : decode cX11_view 5 = .ok (.ifCond .eq 21, 3) := by decide +kernel
theorem dX11_view_8 : decode cX11_view 8 = .ok (.aload_n 0, 1) := by decide +kernel
theorem dX11_view_9 : decode cX11_view 9 = .ok (.iload_n 1, 1) := by decide +kernel
theorem dX11_view_10 : decode cX11_view 10 = .ok (.i2l, 1) := by decide +kernel
theorem dX11_view_11 : decode cX11_view 11 = .ok (.invokevirtual 237, 3) := by decide +kernel
theorem dX11_view_14 : decode cX11_view 14 = .ok (.ifCond .eq 12, 3) := by decide +kernel
theorem dX11_view_17 : decode cX11_view 17 = .ok (.aload_n 0, 1) := by decide +kernel
theorem dX11_view_18 : decode cX11_view 18 = .ok (.iload_n 1, 1) := by decide +kernel
theorem dX11_view_19 : decode cX11_view 19 = .ok (.iload_n 2, 1) := by decide +kernel
theorem dX11_view_20 : decode cX11_view 20 = .ok (.invokevirtual 333, 3) := by decide +kernel
theorem dX11_view_23 : decode cX11_view 23 = .ok (.goto 5, 3) := by decide +kernel
theorem dX11_view_26 : decode cX11_view 26 = .ok (.bipush (-2), 2) := by decide +kernel
theorem dX11_view_28 : decode cX11_view 28 = .ok (.ireturn, 1) := by decide +kernel
theorem dX11_holding_0 : decode cX11_holding 0 = .ok (.aload_n 0, 1) := by decide +kernel
theorem dX11_holding_1 : decode cX11_holding 1 = .ok (.iload_n 2, 1) := by decide +kernel
theorem dX11_holding_2 : decode cX11_holding 2 = .ok (.invokevirtual 330, 3) := by decide +kernel
theorem dX11_holding_5 : decode cX11_holding 5 = .ok (.ifCond .eq 20, 3) := by decide +kernel
theorem dX11_holding_8 : decode cX11_holding 8 = .ok (.iload_n 1, 1) := by decide +kernel
theorem dX11_holding_9 : decode cX11_holding 9 = .ok (.i2l, 1) := by decide +kernel
theorem dX11_holding_10 : decode cX11_holding 10 = .ok (.invokestatic 336, 3) := by decide +kernel
theorem dX11_holding_13 : decode cX11_holding 13 = .ok (.ifCond .eq 12, 3) := by decide +kernel
theorem dX11_holding_16 : decode cX11_holding 16 = .ok (.aload_n 0, 1) := by decide +kernel
theorem dX11_holding_17 : decode cX11_holding 17 = .ok (.iload_n 1, 1) := by decide +kernel
theorem dX11_holding_18 : decode cX11_holding 18 = .ok (.iload_n 2, 1) := by decide +kernel
theorem dX11_holding_19 : decode cX11_holding 19 = .ok (.invokevirtual 327, 3) := by decide +kernel
theorem dX11_holding_22 : decode cX11_holding 22 = .ok (.goto 5, 3) := by decide +kernel
theorem dX11_holding_25 : decode cX11_holding 25 = .ok (.bipush (-2), 2) := by decide +kernel
theorem dX11_holding_27 : decode cX11_holding 27 = .ok (.ireturn, 1) := by decide +kernel
theorem dX11_eaten_0 : decode cX11_eaten 0 = .ok (.aload_n 0, 1) := by decide +kernel
theorem dX11_eaten_1 : decode cX11_eaten 1 = .ok (.iload_n 1, 1) := by decide +kernel
theorem dX11_eaten_2 : decode cX11_eaten 2 = .ok (.invokevirtual 330, 3) := by decide +kernel
theorem dX11_eaten_5 : decode cX11_eaten 5 = .ok (.ifCond .eq 12, 3) := by decide +kernel
theorem dX11_eaten_8 : decode cX11_eaten 8 = .ok (.aload_n 0, 1) := by decide +kernel
theorem dX11_eaten_9 : decode cX11_eaten 9 = .ok (.getfield 58, 3) := by decide +kernel
theorem dX11_eaten_12 : decode cX11_eaten 12 = .ok (.iload_n 1, 1) := by decide +kernel
theorem dX11_eaten_13 : decode cX11_eaten 13 = .ok (.iaload, 1) := by decide +kernel
theorem dX11_eaten_14 : decode cX11_eaten 14 = .ok (.goto 5, 3) := by decide +kernel
theorem dX11_eaten_17 : decode cX11_eaten 17 = .ok (.bipush (-2), 2) := by decide +kernel
theorem dX11_eaten_19 : decode cX11_eaten 19 = .ok (.ireturn, 1) := by decide +kernel
theorem dX11_turned_0 : decode cX11_turned 0 = .ok (.aload_n 0, 1) := by decide +kernel
theorem dX11_turned_1 : decode cX11_turned 1 = .ok (.iload_n 1, 1) := by decide +kernel
theorem dX11_turned_2 : decode cX11_turned 2 = .ok (.invokevirtual 330, 3) := by decide +kernel
theorem dX11_turned_5 : decode cX11_turned 5 = .ok (.ifCond .eq 11, 3) := by decide +kernel
theorem dX11_turned_8 : decode cX11_turned 8 = .ok (.aload_n 0, 1) := by decide +kernel
theorem dX11_turned_9 : decode cX11_turned 9 = .ok (.iload_n 1, 1) := by decide +kernel
theorem dX11_turned_10 : decode cX11_turned 10 = .ok (.invokevirtual 339, 3) := by decide +kernel
theorem dX11_turned_13 : decode cX11_turned 13 = .ok (.goto 5, 3) := by decide +kernel
theorem dX11_turned_16 : decode cX11_turned 16 = .ok (.bipush (-2), 2) := by decide +kernel
theorem dX11_turned_18 : decode cX11_turned 18 = .ok (.ireturn, 1) := by decide +kernel
theorem dX11_sways_0 : decode cX11_sways 0 = .ok (.aload_n 0, 1) := by decide +kernel
theorem dX11_sways_1 : decode cX11_sways 1 = .ok (.iload_n 1, 1) := by decide +kernel
theorem dX11_sways_2 : decode cX11_sways 2 = .ok (.invokevirtual 342, 3) := by decide +kernel
theorem dX11_sways_5 : decode cX11_sways 5 = .ok (.ifCond .eq 11, 3) := by decide +kernel
theorem dX11_sways_8 : decode cX11_sways 8 = .ok (.aload_n 0, 1) := by decide +kernel
theorem dX11_sways_9 : decode cX11_sways 9 = .ok (.iload_n 1, 1) := by decide +kernel
theorem dX11_sways_10 : decode cX11_sways 10 = .ok (.invokevirtual 345, 3) := by decide +kernel
theorem dX11_sways_13 : decode cX11_sways 13 = .ok (.goto 5, 3) := by decide +kernel
theorem dX11_sways_16 : decode cX11_sways 16 = .ok (.bipush (-2), 2) := by decide +kernel
theorem dX11_sways_18 : decode cX11_sways 18 = .ok (.ireturn, 1) := by decide +kernel
theorem dX11_when_0 : decode cX11_when 0 = .ok (.aload_n 0, 1) := by decide +kernel
theorem dX11_when_1 : decode cX11_when 1 = .ok (.iload_n 1, 1) := by decide +kernel
theorem dX11_when_2 : decode cX11_when 2 = .ok (.invokevirtual 342, 3) := by decide +kernel
theorem dX11_when_5 : decode cX11_when 5 = .ok (.ifCond .eq 11, 3) := by decide +kernel
theorem dX11_when_8 : decode cX11_when 8 = .ok (.iload_n 2, 1) := by decide +kernel
theorem dX11_when_9 : decode cX11_when 9 = .ok (.i2l, 1) := by decide +kernel
theorem dX11_when_10 : decode cX11_when 10 = .ok (.invokestatic 348, 3) := by decide +kernel
theorem dX11_when_13 : decode cX11_when 13 = .ok (.ifCond .ne 6, 3) := by decide +kernel
theorem dX11_when_16 : decode cX11_when 16 = .ok (.bipush (-2), 2) := by decide +kernel
theorem dX11_when_18 : decode cX11_when 18 = .ok (.ireturn, 1) := by decide +kernel
theorem dX11_when_19 : decode cX11_when 19 = .ok (.iconst 0, 1) := by decide +kernel
theorem dX11_when_20 : decode cX11_when 20 = .ok (.istore_n 3, 1) := by decide +kernel
theorem dX11_when_21 : decode cX11_when 21 = .ok (.iload_n 3, 1) := by decide +kernel
theorem dX11_when_22 : decode cX11_when 22 = .ok (.aload_n 0, 1) := by decide +kernel
theorem dX11_when_23 : decode cX11_when 23 = .ok (.invokevirtual 103, 3) := by decide +kernel
theorem dX11_when_26 : decode cX11_when 26 = .ok (.if_icmp .gt 21, 3) := by decide +kernel
theorem dX11_when_29 : decode cX11_when 29 = .ok (.aload_n 0, 1) := by decide +kernel
theorem dX11_when_30 : decode cX11_when 30 = .ok (.iload_n 1, 1) := by decide +kernel
theorem dX11_when_31 : decode cX11_when 31 = .ok (.iload_n 3, 1) := by decide +kernel
theorem dX11_when_32 : decode cX11_when 32 = .ok (.invokevirtual 333, 3) := by decide +kernel
theorem dX11_when_35 : decode cX11_when 35 = .ok (.iload_n 2, 1) := by decide +kernel
theorem dX11_when_36 : decode cX11_when 36 = .ok (.if_icmp .ne 5, 3) := by decide +kernel
theorem dX11_when_39 : decode cX11_when 39 = .ok (.iload_n 3, 1) := by decide +kernel
theorem dX11_when_40 : decode cX11_when 40 = .ok (.ireturn, 1) := by decide +kernel
theorem dX11_when_41 : decode cX11_when 41 = .ok (.iinc 3 1, 3) := by decide +kernel
theorem dX11_when_44 : decode cX11_when 44 = .ok (.goto (-23), 3) := by decide +kernel
theorem dX11_when_47 : decode cX11_when 47 = .ok (.iconst (-1), 1) := by decide +kernel
theorem dX11_when_48 : decode cX11_when 48 = .ok (.ireturn, 1) := by decide +kernel
theorem dX11_often_0 : decode cX11_often 0 = .ok (.aload_n 0, 1) := by decide +kernel
theorem dX11_often_1 : decode cX11_often 1 = .ok (.iload_n 1, 1) := by decide +kernel
theorem dX11_often_2 : decode cX11_often 2 = .ok (.invokevirtual 342, 3) := by decide +kernel
theorem dX11_often_5 : decode cX11_often 5 = .ok (.ifCond .eq 11, 3) := by decide +kernel
theorem dX11_often_8 : decode cX11_often 8 = .ok (.iload_n 2, 1) := by decide +kernel
theorem dX11_often_9 : decode cX11_often 9 = .ok (.i2l, 1) := by decide +kernel
theorem dX11_often_10 : decode cX11_often 10 = .ok (.invokestatic 348, 3) := by decide +kernel
theorem dX11_often_13 : decode cX11_often 13 = .ok (.ifCond .ne 6, 3) := by decide +kernel
theorem dX11_often_16 : decode cX11_often 16 = .ok (.bipush (-2), 2) := by decide +kernel
theorem dX11_often_18 : decode cX11_often 18 = .ok (.ireturn, 1) := by decide +kernel
theorem dX11_often_19 : decode cX11_often 19 = .ok (.iconst 0, 1) := by decide +kernel
theorem dX11_often_20 : decode cX11_often 20 = .ok (.istore_n 3, 1) := by decide +kernel
theorem dX11_often_21 : decode cX11_often 21 = .ok (.iconst 0, 1) := by decide +kernel
theorem dX11_often_22 : decode cX11_often 22 = .ok (.istore 4, 2) := by decide +kernel
theorem dX11_often_24 : decode cX11_often 24 = .ok (.iload 4, 2) := by decide +kernel
theorem dX11_often_26 : decode cX11_often 26 = .ok (.aload_n 0, 1) := by decide +kernel
theorem dX11_often_27 : decode cX11_often 27 = .ok (.invokevirtual 103, 3) := by decide +kernel
theorem dX11_often_30 : decode cX11_often 30 = .ok (.if_icmp .gt 28, 3) := by decide +kernel
theorem dX11_often_33 : decode cX11_often 33 = .ok (.iload_n 3, 1) := by decide +kernel
theorem dX11_often_34 : decode cX11_often 34 = .ok (.aload_n 0, 1) := by decide +kernel
theorem dX11_often_35 : decode cX11_often 35 = .ok (.iload_n 1, 1) := by decide +kernel
theorem dX11_often_36 : decode cX11_often 36 = .ok (.iload 4, 2) := by decide +kernel
theorem dX11_often_38 : decode cX11_often 38 = .ok (.invokevirtual 333, 3) := by decide +kernel
theorem dX11_often_41 : decode cX11_often 41 = .ok (.iload_n 2, 1) := by decide +kernel
theorem dX11_often_42 : decode cX11_often 42 = .ok (.if_icmp .ne 7, 3) := by decide +kernel
theorem dX11_often_45 : decode cX11_often 45 = .ok (.iconst 1, 1) := by decide +kernel
theorem dX11_often_46 : decode cX11_often 46 = .ok (.goto 4, 3) := by decide +kernel
theorem dX11_often_49 : decode cX11_often 49 = .ok (.iconst 0, 1) := by decide +kernel
theorem dX11_often_50 : decode cX11_often 50 = .ok (.iadd, 1) := by decide +kernel
theorem dX11_often_51 : decode cX11_often 51 = .ok (.istore_n 3, 1) := by decide +kernel
theorem dX11_often_52 : decode cX11_often 52 = .ok (.iinc 4 1, 3) := by decide +kernel
theorem dX11_often_55 : decode cX11_often 55 = .ok (.goto (-31), 3) := by decide +kernel
theorem dX11_often_58 : decode cX11_often 58 = .ok (.iload_n 3, 1) := by decide +kernel
theorem dX11_often_59 : decode cX11_often 59 = .ok (.ireturn, 1) := by decide +kernel
theorem dX11_heart_0 : decode cX11_heart 0 = .ok (.aload_n 0, 1) := by decide +kernel
theorem dX11_heart_1 : decode cX11_heart 1 = .ok (.iload_n 1, 1) := by decide +kernel
theorem dX11_heart_2 : decode cX11_heart 2 = .ok (.invokevirtual 342, 3) := by decide +kernel
theorem dX11_heart_5 : decode cX11_heart 5 = .ok (.ifCond .ne 6, 3) := by decide +kernel
theorem dX11_heart_8 : decode cX11_heart 8 = .ok (.bipush (-2), 2) := by decide +kernel
theorem dX11_heart_10 : decode cX11_heart 10 = .ok (.ireturn, 1) := by decide +kernel
theorem dX11_heart_11 : decode cX11_heart 11 = .ok (.iconst 0, 1) := by decide +kernel
theorem dX11_heart_12 : decode cX11_heart 12 = .ok (.istore_n 2, 1) := by decide +kernel
theorem dX11_heart_13 : decode cX11_heart 13 = .ok (.iload_n 2, 1) := by decide +kernel
theorem dX11_heart_14 : decode cX11_heart 14 = .ok (.aload_n 0, 1) := by decide +kernel
theorem dX11_heart_15 : decode cX11_heart 15 = .ok (.invokevirtual 103, 3) := by decide +kernel
theorem dX11_heart_18 : decode cX11_heart 18 = .ok (.if_icmp .gt 25, 3) := by decide +kernel
theorem dX11_heart_21 : decode cX11_heart 21 = .ok (.aload_n 0, 1) := by decide +kernel
theorem dX11_heart_22 : decode cX11_heart 22 = .ok (.iload_n 1, 1) := by decide +kernel
theorem dX11_heart_23 : decode cX11_heart 23 = .ok (.iload_n 2, 1) := by decide +kernel
theorem dX11_heart_24 : decode cX11_heart 24 = .ok (.invokevirtual 333, 3) := by decide +kernel
theorem dX11_heart_27 : decode cX11_heart 27 = .ok (.ifCond .le 10, 3) := by decide +kernel
theorem dX11_heart_30 : decode cX11_heart 30 = .ok (.aload_n 0, 1) := by decide +kernel
theorem dX11_heart_31 : decode cX11_heart 31 = .ok (.iload_n 1, 1) := by decide +kernel
theorem dX11_heart_32 : decode cX11_heart 32 = .ok (.iload_n 2, 1) := by decide +kernel
theorem dX11_heart_33 : decode cX11_heart 33 = .ok (.invokevirtual 333, 3) := by decide +kernel
theorem dX11_heart_36 : decode cX11_heart 36 = .ok (.ireturn, 1) := by decide +kernel
theorem dX11_heart_37 : decode cX11_heart 37 = .ok (.iinc 2 1, 3) := by decide +kernel
theorem dX11_heart_40 : decode cX11_heart 40 = .ok (.goto (-27), 3) := by decide +kernel
theorem dX11_heart_43 : decode cX11_heart 43 = .ok (.iconst 0, 1) := by decide +kernel
theorem dX11_heart_44 : decode cX11_heart 44 = .ok (.ireturn, 1) := by decide +kernel
theorem dX11_fickle_0 : decode cX11_fickle 0 = .ok (.aload_n 0, 1) := by decide +kernel
theorem dX11_fickle_1 : decode cX11_fickle 1 = .ok (.invokevirtual 315, 3) := by decide +kernel
theorem dX11_fickle_4 : decode cX11_fickle 4 = .ok (.ifCond .ne 6, 3) := by decide +kernel
theorem dX11_fickle_7 : decode cX11_fickle 7 = .ok (.bipush (-2), 2) := by decide +kernel
theorem dX11_fickle_9 : decode cX11_fickle 9 = .ok (.ireturn, 1) := by decide +kernel
theorem dX11_fickle_10 : decode cX11_fickle 10 = .ok (.iconst (-1), 1) := by decide +kernel
theorem dX11_fickle_11 : decode cX11_fickle 11 = .ok (.istore_n 1, 1) := by decide +kernel
theorem dX11_fickle_12 : decode cX11_fickle 12 = .ok (.iconst 0, 1) := by decide +kernel
theorem dX11_fickle_13 : decode cX11_fickle 13 = .ok (.istore_n 2, 1) := by decide +kernel
theorem dX11_fickle_14 : decode cX11_fickle 14 = .ok (.iload_n 2, 1) := by decide +kernel
theorem dX11_fickle_15 : decode cX11_fickle 15 = .ok (.aload_n 0, 1) := by decide +kernel
theorem dX11_fickle_16 : decode cX11_fickle 16 = .ok (.invokevirtual 95, 3) := by decide +kernel
theorem dX11_fickle_19 : decode cX11_fickle 19 = .ok (.if_icmp .ge 33, 3) := by decide +kernel
theorem dX11_fickle_22 : decode cX11_fickle 22 = .ok (.aload_n 0, 1) := by decide +kernel
theorem dX11_fickle_23 : decode cX11_fickle 23 = .ok (.iload_n 2, 1) := by decide +kernel
theorem dX11_fickle_24 : decode cX11_fickle 24 = .ok (.invokevirtual 345, 3) := by decide +kernel
theorem dX11_fickle_27 : decode cX11_fickle 27 = .ok (.iload_n 1, 1) := by decide +kernel
theorem dX11_fickle_28 : decode cX11_fickle 28 = .ok (.iconst (-1), 1) := by decide +kernel
theorem dX11_fickle_29 : decode cX11_fickle 29 = .ok (.if_icmp .ne 7, 3) := by decide +kernel
theorem dX11_fickle_32 : decode cX11_fickle 32 = .ok (.iconst 0, 1) := by decide +kernel
theorem dX11_fickle_33 : decode cX11_fickle 33 = .ok (.goto 8, 3) := by decide +kernel
theorem dX11_fickle_36 : decode cX11_fickle 36 = .ok (.aload_n 0, 1) := by decide +kernel
theorem dX11_fickle_37 : decode cX11_fickle 37 = .ok (.iload_n 1, 1) := by decide +kernel
theorem dX11_fickle_38 : decode cX11_fickle 38 = .ok (.invokevirtual 345, 3) := by decide +kernel
theorem dX11_fickle_41 : decode cX11_fickle 41 = .ok (.if_icmp .le 5, 3) := by decide +kernel
theorem dX11_fickle_44 : decode cX11_fickle 44 = .ok (.iload_n 2, 1) := by decide +kernel
theorem dX11_fickle_45 : decode cX11_fickle 45 = .ok (.istore_n 1, 1) := by decide +kernel
theorem dX11_fickle_46 : decode cX11_fickle 46 = .ok (.iinc 2 1, 3) := by decide +kernel
theorem dX11_fickle_49 : decode cX11_fickle 49 = .ok (.goto (-35), 3) := by decide +kernel
theorem dX11_fickle_52 : decode cX11_fickle 52 = .ok (.iload_n 1, 1) := by decide +kernel
theorem dX11_fickle_53 : decode cX11_fickle 53 = .ok (.ireturn, 1) := by decide +kernel
theorem dX11_agree_0 : decode cX11_agree 0 = .ok (.aload_n 0, 1) := by decide +kernel
theorem dX11_agree_1 : decode cX11_agree 1 = .ok (.invokevirtual 315, 3) := by decide +kernel
theorem dX11_agree_4 : decode cX11_agree 4 = .ok (.ifCond .ne 6, 3) := by decide +kernel
theorem dX11_agree_7 : decode cX11_agree 7 = .ok (.bipush (-2), 2) := by decide +kernel
theorem dX11_agree_9 : decode cX11_agree 9 = .ok (.ireturn, 1) := by decide +kernel
theorem dX11_agree_10 : decode cX11_agree 10 = .ok (.iconst 0, 1) := by decide +kernel
theorem dX11_agree_11 : decode cX11_agree 11 = .ok (.istore_n 1, 1) := by decide +kernel
theorem dX11_agree_12 : decode cX11_agree 12 = .ok (.iload_n 1, 1) := by decide +kernel
theorem dX11_agree_13 : decode cX11_agree 13 = .ok (.aload_n 0, 1) := by decide +kernel
theorem dX11_agree_14 : decode cX11_agree 14 = .ok (.invokevirtual 103, 3) := by decide +kernel
theorem dX11_agree_17 : decode cX11_agree 17 = .ok (.if_icmp .gt 45, 3) := by decide +kernel
theorem dX11_agree_20 : decode cX11_agree 20 = .ok (.aload_n 0, 1) := by decide +kernel
theorem dX11_agree_21 : decode cX11_agree 21 = .ok (.iload_n 1, 1) := by decide +kernel
theorem dX11_agree_22 : decode cX11_agree 22 = .ok (.invokevirtual 324, 3) := by decide +kernel
theorem dX11_agree_25 : decode cX11_agree 25 = .ok (.aload_n 0, 1) := by decide +kernel
theorem dX11_agree_26 : decode cX11_agree 26 = .ok (.getfield 52, 3) := by decide +kernel
theorem dX11_agree_29 : decode cX11_agree 29 = .ok (.iload_n 1, 1) := by decide +kernel
theorem dX11_agree_30 : decode cX11_agree 30 = .ok (.iaload, 1) := by decide +kernel
theorem dX11_agree_31 : decode cX11_agree 31 = .ok (.invokestatic 351, 3) := by decide +kernel
theorem dX11_agree_34 : decode cX11_agree 34 = .ok (.ifCond .ne 20, 3) := by decide +kernel
theorem dX11_agree_37 : decode cX11_agree 37 = .ok (.aload_n 0, 1) := by decide +kernel
theorem dX11_agree_38 : decode cX11_agree 38 = .ok (.iload_n 1, 1) := by decide +kernel
theorem dX11_agree_39 : decode cX11_agree 39 = .ok (.invokevirtual 324, 3) := by decide +kernel
theorem dX11_agree_42 : decode cX11_agree 42 = .ok (.aload_n 0, 1) := by decide +kernel
theorem dX11_agree_43 : decode cX11_agree 43 = .ok (.getfield 55, 3) := by decide +kernel
theorem dX11_agree_46 : decode cX11_agree 46 = .ok (.iload_n 1, 1) := by decide +kernel
theorem dX11_agree_47 : decode cX11_agree 47 = .ok (.iaload, 1) := by decide +kernel
theorem dX11_agree_48 : decode cX11_agree 48 = .ok (.invokestatic 351, 3) := by decide +kernel
theorem dX11_agree_51 : decode cX11_agree 51 = .ok (.ifCond .eq 5, 3) := by decide +kernel
theorem dX11_agree_54 : decode cX11_agree 54 = .ok (.iload_n 1, 1) := by decide +kernel
theorem dX11_agree_55 : decode cX11_agree 55 = .ok (.ireturn, 1) := by decide +kernel
theorem dX11_agree_56 : decode cX11_agree 56 = .ok (.iinc 1 1, 3) := by decide +kernel
theorem dX11_agree_59 : decode cX11_agree 59 = .ok (.goto (-47), 3) := by decide +kernel
theorem dX11_agree_62 : decode cX11_agree 62 = .ok (.iconst (-1), 1) := by decide +kernel
theorem dX11_agree_63 : decode cX11_agree 63 = .ok (.ireturn, 1) := by decide +kernel
theorem dX11_still_0 : decode cX11_still 0 = .ok (.aload_n 0, 1) := by decide +kernel
theorem dX11_still_1 : decode cX11_still 1 = .ok (.invokevirtual 315, 3) := by decide +kernel
theorem dX11_still_4 : decode cX11_still 4 = .ok (.ifCond .ne 6, 3) := by decide +kernel
theorem dX11_still_7 : decode cX11_still 7 = .ok (.bipush (-2), 2) := by decide +kernel
theorem dX11_still_9 : decode cX11_still 9 = .ok (.ireturn, 1) := by decide +kernel
theorem dX11_still_10 : decode cX11_still 10 = .ok (.aload_n 0, 1) := by decide +kernel
theorem dX11_still_11 : decode cX11_still 11 = .ok (.invokevirtual 103, 3) := by decide +kernel
theorem dX11_still_14 : decode cX11_still 14 = .ok (.istore_n 1, 1) := by decide +kernel
theorem dX11_still_15 : decode cX11_still 15 = .ok (.iload_n 1, 1) := by decide +kernel
theorem dX11_still_16 : decode cX11_still 16 = .ok (.ifCond .le 17, 3) := by decide +kernel
theorem dX11_still_19 : decode cX11_still 19 = .ok (.aload_n 0, 1) := by decide +kernel
theorem dX11_still_20 : decode cX11_still 20 = .ok (.iload_n 1, 1) := by decide +kernel
theorem dX11_still_21 : decode cX11_still 21 = .ok (.invokevirtual 339, 3) := by decide +kernel
theorem dX11_still_24 : decode cX11_still 24 = .ok (.ifCond .ne 9, 3) := by decide +kernel
theorem dX11_still_27 : decode cX11_still 27 = .ok (.iinc 1 (-1), 3) := by decide +kernel
theorem dX11_still_30 : decode cX11_still 30 = .ok (.goto (-15), 3) := by decide +kernel
theorem dX11_still_33 : decode cX11_still 33 = .ok (.iload_n 1, 1) := by decide +kernel
theorem dX11_still_34 : decode cX11_still 34 = .ok (.ireturn, 1) := by decide +kernel
theorem dX11_quiet_0 : decode cX11_quiet 0 = .ok (.aload_n 0, 1) := by decide +kernel
theorem dX11_quiet_1 : decode cX11_quiet 1 = .ok (.invokevirtual 315, 3) := by decide +kernel
theorem dX11_quiet_4 : decode cX11_quiet 4 = .ok (.ifCond .ne 6, 3) := by decide +kernel
theorem dX11_quiet_7 : decode cX11_quiet 7 = .ok (.bipush (-2), 2) := by decide +kernel
theorem dX11_quiet_9 : decode cX11_quiet 9 = .ok (.ireturn, 1) := by decide +kernel
theorem dX11_quiet_10 : decode cX11_quiet 10 = .ok (.iconst 0, 1) := by decide +kernel
theorem dX11_quiet_11 : decode cX11_quiet 11 = .ok (.istore_n 1, 1) := by decide +kernel
theorem dX11_quiet_12 : decode cX11_quiet 12 = .ok (.iconst 0, 1) := by decide +kernel
theorem dX11_quiet_13 : decode cX11_quiet 13 = .ok (.istore_n 2, 1) := by decide +kernel
theorem dX11_quiet_14 : decode cX11_quiet 14 = .ok (.iconst 1, 1) := by decide +kernel
theorem dX11_quiet_15 : decode cX11_quiet 15 = .ok (.istore_n 3, 1) := by decide +kernel
theorem dX11_quiet_16 : decode cX11_quiet 16 = .ok (.iload_n 3, 1) := by decide +kernel
theorem dX11_quiet_17 : decode cX11_quiet 17 = .ok (.aload_n 0, 1) := by decide +kernel
theorem dX11_quiet_18 : decode cX11_quiet 18 = .ok (.invokevirtual 103, 3) := by decide +kernel
theorem dX11_quiet_21 : decode cX11_quiet 21 = .ok (.if_icmp .gt 31, 3) := by decide +kernel
theorem dX11_quiet_24 : decode cX11_quiet 24 = .ok (.aload_n 0, 1) := by decide +kernel
theorem dX11_quiet_25 : decode cX11_quiet 25 = .ok (.iload_n 3, 1) := by decide +kernel
theorem dX11_quiet_26 : decode cX11_quiet 26 = .ok (.invokevirtual 339, 3) := by decide +kernel
theorem dX11_quiet_29 : decode cX11_quiet 29 = .ok (.ifCond .ne 9, 3) := by decide +kernel
theorem dX11_quiet_32 : decode cX11_quiet 32 = .ok (.iload_n 2, 1) := by decide +kernel
theorem dX11_quiet_33 : decode cX11_quiet 33 = .ok (.iconst 1, 1) := by decide +kernel
theorem dX11_quiet_34 : decode cX11_quiet 34 = .ok (.iadd, 1) := by decide +kernel
theorem dX11_quiet_35 : decode cX11_quiet 35 = .ok (.goto 4, 3) := by decide +kernel
theorem dX11_quiet_38 : decode cX11_quiet 38 = .ok (.iconst 0, 1) := by decide +kernel
theorem dX11_quiet_39 : decode cX11_quiet 39 = .ok (.istore_n 2, 1) := by decide +kernel
theorem dX11_quiet_40 : decode cX11_quiet 40 = .ok (.iload_n 1, 1) := by decide +kernel
theorem dX11_quiet_41 : decode cX11_quiet 41 = .ok (.iload_n 2, 1) := by decide +kernel
theorem dX11_quiet_42 : decode cX11_quiet 42 = .ok (.invokestatic 355, 3) := by decide +kernel
theorem dX11_quiet_45 : decode cX11_quiet 45 = .ok (.istore_n 1, 1) := by decide +kernel
theorem dX11_quiet_46 : decode cX11_quiet 46 = .ok (.iinc 3 1, 3) := by decide +kernel
theorem dX11_quiet_49 : decode cX11_quiet 49 = .ok (.goto (-33), 3) := by decide +kernel
theorem dX11_quiet_52 : decode cX11_quiet 52 = .ok (.iload_n 1, 1) := by decide +kernel
theorem dX11_quiet_53 : decode cX11_quiet 53 = .ok (.ireturn, 1) := by decide +kernel
theorem dX11_settles_0 : decode cX11_settles 0 = .ok (.aload_n 0, 1) := by decide +kernel
theorem dX11_settles_1 : decode cX11_settles 1 = .ok (.invokevirtual 315, 3) := by decide +kernel
theorem dX11_settles_4 : decode cX11_settles 4 = .ok (.ifCond .eq 10, 3) := by decide +kernel
theorem dX11_settles_7 : decode cX11_settles 7 = .ok (.aload_n 0, 1) := by decide +kernel
theorem dX11_settles_8 : decode cX11_settles 8 = .ok (.invokevirtual 361, 3) := by decide +kernel
theorem dX11_settles_11 : decode cX11_settles 11 = .ok (.goto 5, 3) := by decide +kernel
theorem dX11_settles_14 : decode cX11_settles 14 = .ok (.bipush (-2), 2) := by decide +kernel
theorem dX11_settles_16 : decode cX11_settles 16 = .ok (.ireturn, 1) := by decide +kernel
theorem dX11_round_0 : decode cX11_round 0 = .ok (.aload_n 0, 1) := by decide +kernel
theorem dX11_round_1 : decode cX11_round 1 = .ok (.invokevirtual 315, 3) := by decide +kernel
theorem dX11_round_4 : decode cX11_round 4 = .ok (.ifCond .ne 6, 3) := by decide +kernel
theorem dX11_round_7 : decode cX11_round 7 = .ok (.bipush (-2), 2) := by decide +kernel
theorem dX11_round_9 : decode cX11_round 9 = .ok (.ireturn, 1) := by decide +kernel
theorem dX11_round_10 : decode cX11_round 10 = .ok (.aload_n 0, 1) := by decide +kernel
theorem dX11_round_11 : decode cX11_round 11 = .ok (.invokevirtual 361, 3) := by decide +kernel
theorem dX11_round_14 : decode cX11_round 14 = .ok (.pop, 1) := by decide +kernel
theorem dX11_round_15 : decode cX11_round 15 = .ok (.aload_n 0, 1) := by decide +kernel
theorem dX11_round_16 : decode cX11_round 16 = .ok (.getfield 358, 3) := by decide +kernel
theorem dX11_round_19 : decode cX11_round 19 = .ok (.ireturn, 1) := by decide +kernel
theorem dX11_mind_0 : decode cX11_mind 0 = .ok (.aload_n 0, 1) := by decide +kernel
theorem dX11_mind_1 : decode cX11_mind 1 = .ok (.iload_n 2, 1) := by decide +kernel
theorem dX11_mind_2 : decode cX11_mind 2 = .ok (.invokevirtual 330, 3) := by decide +kernel
theorem dX11_mind_5 : decode cX11_mind 5 = .ok (.ifCond .eq 20, 3) := by decide +kernel
theorem dX11_mind_8 : decode cX11_mind 8 = .ok (.aload_n 0, 1) := by decide +kernel
theorem dX11_mind_9 : decode cX11_mind 9 = .ok (.iload_n 1, 1) := by decide +kernel
theorem dX11_mind_10 : decode cX11_mind 10 = .ok (.invokevirtual 227, 3) := by decide +kernel
theorem dX11_mind_13 : decode cX11_mind 13 = .ok (.ifCond .eq 12, 3) := by decide +kernel
theorem dX11_mind_16 : decode cX11_mind 16 = .ok (.aload_n 0, 1) := by decide +kernel
theorem dX11_mind_17 : decode cX11_mind 17 = .ok (.iload_n 1, 1) := by decide +kernel
theorem dX11_mind_18 : decode cX11_mind 18 = .ok (.iload_n 2, 1) := by decide +kernel
theorem dX11_mind_19 : decode cX11_mind 19 = .ok (.invokevirtual 364, 3) := by decide +kernel
theorem dX11_mind_22 : decode cX11_mind 22 = .ok (.goto 5, 3) := by decide +kernel
theorem dX11_mind_25 : decode cX11_mind 25 = .ok (.bipush (-2), 2) := by decide +kernel
theorem dX11_mind_27 : decode cX11_mind 27 = .ok (.ireturn, 1) := by decide +kernel
theorem dX11_rows_0 : decode cX11_rows 0 = .ok (.aload_n 0, 1) := by decide +kernel
theorem dX11_rows_1 : decode cX11_rows 1 = .ok (.iload_n 2, 1) := by decide +kernel
theorem dX11_rows_2 : decode cX11_rows 2 = .ok (.invokevirtual 330, 3) := by decide +kernel
theorem dX11_rows_5 : decode cX11_rows 5 = .ok (.ifCond .eq 11, 3) := by decide +kernel
theorem dX11_rows_8 : decode cX11_rows 8 = .ok (.iload_n 1, 1) := by decide +kernel
theorem dX11_rows_9 : decode cX11_rows 9 = .ok (.i2l, 1) := by decide +kernel
theorem dX11_rows_10 : decode cX11_rows 10 = .ok (.invokestatic 348, 3) := by decide +kernel
theorem dX11_rows_13 : decode cX11_rows 13 = .ok (.ifCond .ne 6, 3) := by decide +kernel
theorem dX11_rows_16 : decode cX11_rows 16 = .ok (.bipush (-2), 2) := by decide +kernel
theorem dX11_rows_18 : decode cX11_rows 18 = .ok (.ireturn, 1) := by decide +kernel
theorem dX11_rows_19 : decode cX11_rows 19 = .ok (.iconst 0, 1) := by decide +kernel
theorem dX11_rows_20 : decode cX11_rows 20 = .ok (.istore_n 3, 1) := by decide +kernel
theorem dX11_rows_21 : decode cX11_rows 21 = .ok (.iconst 0, 1) := by decide +kernel
theorem dX11_rows_22 : decode cX11_rows 22 = .ok (.istore 4, 2) := by decide +kernel
theorem dX11_rows_24 : decode cX11_rows 24 = .ok (.iload 4, 2) := by decide +kernel
theorem dX11_rows_26 : decode cX11_rows 26 = .ok (.aload_n 0, 1) := by decide +kernel
theorem dX11_rows_27 : decode cX11_rows 27 = .ok (.getfield 9, 3) := by decide +kernel
theorem dX11_rows_30 : decode cX11_rows 30 = .ok (.iconst 3, 1) := by decide +kernel
theorem dX11_rows_31 : decode cX11_rows 31 = .ok (.iaload, 1) := by decide +kernel
theorem dX11_rows_32 : decode cX11_rows 32 = .ok (.if_icmp .ge 31, 3) := by decide +kernel
theorem dX11_rows_35 : decode cX11_rows 35 = .ok (.iload_n 3, 1) := by decide +kernel
theorem dX11_rows_36 : decode cX11_rows 36 = .ok (.aload_n 0, 1) := by decide +kernel
theorem dX11_rows_37 : decode cX11_rows 37 = .ok (.iload 4, 2) := by decide +kernel
theorem dX11_rows_39 : decode cX11_rows 39 = .ok (.iload_n 2, 1) := by decide +kernel
theorem dX11_rows_40 : decode cX11_rows 40 = .ok (.invokevirtual 364, 3) := by decide +kernel
theorem dX11_rows_43 : decode cX11_rows 43 = .ok (.iload_n 1, 1) := by decide +kernel
theorem dX11_rows_44 : decode cX11_rows 44 = .ok (.if_icmp .ne 10, 3) := by decide +kernel
theorem dX11_rows_47 : decode cX11_rows 47 = .ok (.iconst 1, 1) := by decide +kernel
theorem dX11_rows_48 : decode cX11_rows 48 = .ok (.iload 4, 2) := by decide +kernel
theorem dX11_rows_50 : decode cX11_rows 50 = .ok (.ishl, 1) := by decide +kernel
theorem dX11_rows_51 : decode cX11_rows 51 = .ok (.goto 4, 3) := by decide +kernel
theorem dX11_rows_54 : decode cX11_rows 54 = .ok (.iconst 0, 1) := by decide +kernel
theorem dX11_rows_55 : decode cX11_rows 55 = .ok (.ior, 1) := by decide +kernel
theorem dX11_rows_56 : decode cX11_rows 56 = .ok (.istore_n 3, 1) := by decide +kernel
theorem dX11_rows_57 : decode cX11_rows 57 = .ok (.iinc 4 1, 3) := by decide +kernel
theorem dX11_rows_60 : decode cX11_rows 60 = .ok (.goto (-36), 3) := by decide +kernel
theorem dX11_rows_63 : decode cX11_rows 63 = .ok (.iload_n 3, 1) := by decide +kernel
theorem dX11_rows_64 : decode cX11_rows 64 = .ok (.ireturn, 1) := by decide +kernel
theorem dX11_split_0 : decode cX11_split 0 = .ok (.aload_n 0, 1) := by decide +kernel
theorem dX11_split_1 : decode cX11_split 1 = .ok (.iload_n 1, 1) := by decide +kernel
theorem dX11_split_2 : decode cX11_split 2 = .ok (.invokevirtual 330, 3) := by decide +kernel
theorem dX11_split_5 : decode cX11_split 5 = .ok (.ifCond .eq 28, 3) := by decide +kernel
theorem dX11_split_8 : decode cX11_split 8 = .ok (.aload_n 0, 1) := by decide +kernel
theorem dX11_split_9 : decode cX11_split 9 = .ok (.getfield 52, 3) := by decide +kernel
theorem dX11_split_12 : decode cX11_split 12 = .ok (.iload_n 1, 1) := by decide +kernel
theorem dX11_split_13 : decode cX11_split 13 = .ok (.iaload, 1) := by decide +kernel
theorem dX11_split_14 : decode cX11_split 14 = .ok (.invokestatic 296, 3) := by decide +kernel
theorem dX11_split_17 : decode cX11_split 17 = .ok (.aload_n 0, 1) := by decide +kernel
theorem dX11_split_18 : decode cX11_split 18 = .ok (.getfield 55, 3) := by decide +kernel
theorem dX11_split_21 : decode cX11_split 21 = .ok (.iload_n 1, 1) := by decide +kernel
theorem dX11_split_22 : decode cX11_split 22 = .ok (.iaload, 1) := by decide +kernel
theorem dX11_split_23 : decode cX11_split 23 = .ok (.invokestatic 296, 3) := by decide +kernel
theorem dX11_split_26 : decode cX11_split 26 = .ok (.isub, 1) := by decide +kernel
theorem dX11_split_27 : decode cX11_split 27 = .ok (.invokestatic 367, 3) := by decide +kernel
theorem dX11_split_30 : decode cX11_split 30 = .ok (.goto 5, 3) := by decide +kernel
theorem dX11_split_33 : decode cX11_split 33 = .ok (.bipush (-2), 2) := by decide +kernel
theorem dX11_split_35 : decode cX11_split 35 = .ok (.ireturn, 1) := by decide +kernel
theorem dX11_main_0 : decode cX11_main 0 = .ok (.aload_n 0, 1) := by decide +kernel
theorem dX11_main_1 : decode cX11_main 1 = .ok (.iload_n 1, 1) := by decide +kernel
theorem dX11_main_2 : decode cX11_main 2 = .ok (.invokevirtual 330, 3) := by decide +kernel
theorem dX11_main_5 : decode cX11_main 5 = .ok (.ifCond .ne 6, 3) := by decide +kernel
theorem dX11_main_8 : decode cX11_main 8 = .ok (.bipush (-2), 2) := by decide +kernel
theorem dX11_main_10 : decode cX11_main 10 = .ok (.ireturn, 1) := by decide +kernel
theorem dX11_main_11 : decode cX11_main 11 = .ok (.aload_n 0, 1) := by decide +kernel
theorem dX11_main_12 : decode cX11_main 12 = .ok (.getfield 52, 3) := by decide +kernel
theorem dX11_main_15 : decode cX11_main 15 = .ok (.iload_n 1, 1) := by decide +kernel
theorem dX11_main_16 : decode cX11_main 16 = .ok (.iaload, 1) := by decide +kernel
theorem dX11_main_17 : decode cX11_main 17 = .ok (.invokestatic 296, 3) := by decide +kernel
theorem dX11_main_20 : decode cX11_main 20 = .ok (.aload_n 0, 1) := by decide +kernel
theorem dX11_main_21 : decode cX11_main 21 = .ok (.getfield 55, 3) := by decide +kernel
theorem dX11_main_24 : decode cX11_main 24 = .ok (.iload_n 1, 1) := by decide +kernel
theorem dX11_main_25 : decode cX11_main 25 = .ok (.iaload, 1) := by decide +kernel
theorem dX11_main_26 : decode cX11_main 26 = .ok (.invokestatic 296, 3) := by decide +kernel
theorem dX11_main_29 : decode cX11_main 29 = .ok (.isub, 1) := by decide +kernel
theorem dX11_main_30 : decode cX11_main 30 = .ok (.istore_n 2, 1) := by decide +kernel
theorem dX11_main_31 : decode cX11_main 31 = .ok (.iload_n 2, 1) := by decide +kernel
theorem dX11_main_32 : decode cX11_main 32 = .ok (.ifCond .le 7, 3) := by decide +kernel
theorem dX11_main_35 : decode cX11_main 35 = .ok (.iconst 1, 1) := by decide +kernel
theorem dX11_main_36 : decode cX11_main 36 = .ok (.goto 12, 3) := by decide +kernel
theorem dX11_main_39 : decode cX11_main 39 = .ok (.iload_n 2, 1) := by decide +kernel
theorem dX11_main_40 : decode cX11_main 40 = .ok (.ifCond .ge 7, 3) := by decide +kernel
theorem dX11_main_43 : decode cX11_main 43 = .ok (.iconst 2, 1) := by decide +kernel
theorem dX11_main_44 : decode cX11_main 44 = .ok (.goto 4, 3) := by decide +kernel
theorem dX11_main_47 : decode cX11_main 47 = .ok (.iconst 0, 1) := by decide +kernel
theorem dX11_main_48 : decode cX11_main 48 = .ok (.ireturn, 1) := by decide +kernel
theorem dX11_first_0 : decode cX11_first 0 = .ok (.aload_n 0, 1) := by decide +kernel
theorem dX11_first_1 : decode cX11_first 1 = .ok (.invokevirtual 315, 3) := by decide +kernel
theorem dX11_first_4 : decode cX11_first 4 = .ok (.ifCond .eq 11, 3) := by decide +kernel
theorem dX11_first_7 : decode cX11_first 7 = .ok (.iload_n 1, 1) := by decide +kernel
theorem dX11_first_8 : decode cX11_first 8 = .ok (.i2l, 1) := by decide +kernel
theorem dX11_first_9 : decode cX11_first 9 = .ok (.invokestatic 348, 3) := by decide +kernel
theorem dX11_first_12 : decode cX11_first 12 = .ok (.ifCond .ne 6, 3) := by decide +kernel
theorem dX11_first_15 : decode cX11_first 15 = .ok (.bipush (-2), 2) := by decide +kernel
theorem dX11_first_17 : decode cX11_first 17 = .ok (.ireturn, 1) := by decide +kernel
theorem dX11_first_18 : decode cX11_first 18 = .ok (.iconst 0, 1) := by decide +kernel
theorem dX11_first_19 : decode cX11_first 19 = .ok (.istore_n 2, 1) := by decide +kernel
theorem dX11_first_20 : decode cX11_first 20 = .ok (.iload_n 2, 1) := by decide +kernel
theorem dX11_first_21 : decode cX11_first 21 = .ok (.aload_n 0, 1) := by decide +kernel
theorem dX11_first_22 : decode cX11_first 22 = .ok (.invokevirtual 103, 3) := by decide +kernel
theorem dX11_first_25 : decode cX11_first 25 = .ok (.if_icmp .gt 20, 3) := by decide +kernel
theorem dX11_first_28 : decode cX11_first 28 = .ok (.aload_n 0, 1) := by decide +kernel
theorem dX11_first_29 : decode cX11_first 29 = .ok (.iload_n 1, 1) := by decide +kernel
theorem dX11_first_30 : decode cX11_first 30 = .ok (.iload_n 2, 1) := by decide +kernel
theorem dX11_first_31 : decode cX11_first 31 = .ok (.invokevirtual 327, 3) := by decide +kernel
theorem dX11_first_34 : decode cX11_first 34 = .ok (.ifCond .eq 5, 3) := by decide +kernel
theorem dX11_first_37 : decode cX11_first 37 = .ok (.iload_n 2, 1) := by decide +kernel
theorem dX11_first_38 : decode cX11_first 38 = .ok (.ireturn, 1) := by decide +kernel
theorem dX11_first_39 : decode cX11_first 39 = .ok (.iinc 2 1, 3) := by decide +kernel
theorem dX11_first_42 : decode cX11_first 42 = .ok (.goto (-22), 3) := by decide +kernel
theorem dX11_first_45 : decode cX11_first 45 = .ok (.iconst (-1), 1) := by decide +kernel
theorem dX11_first_46 : decode cX11_first 46 = .ok (.ireturn, 1) := by decide +kernel
theorem dX11_solid_0 : decode cX11_solid 0 = .ok (.aload_n 0, 1) := by decide +kernel
theorem dX11_solid_1 : decode cX11_solid 1 = .ok (.iload_n 1, 1) := by decide +kernel
theorem dX11_solid_2 : decode cX11_solid 2 = .ok (.invokevirtual 330, 3) := by decide +kernel
theorem dX11_solid_5 : decode cX11_solid 5 = .ok (.ifCond .ne 6, 3) := by decide +kernel
theorem dX11_solid_8 : decode cX11_solid 8 = .ok (.bipush (-2), 2) := by decide +kernel
theorem dX11_solid_10 : decode cX11_solid 10 = .ok (.ireturn, 1) := by decide +kernel
theorem dX11_solid_11 : decode cX11_solid 11 = .ok (.iconst 0, 1) := by decide +kernel
theorem dX11_solid_12 : decode cX11_solid 12 = .ok (.istore_n 2, 1) := by decide +kernel
theorem dX11_solid_13 : decode cX11_solid 13 = .ok (.iconst 0, 1) := by decide +kernel
theorem dX11_solid_14 : decode cX11_solid 14 = .ok (.istore_n 3, 1) := by decide +kernel
theorem dX11_solid_15 : decode cX11_solid 15 = .ok (.iload_n 3, 1) := by decide +kernel
theorem dX11_solid_16 : decode cX11_solid 16 = .ok (.aload_n 0, 1) := by decide +kernel
theorem dX11_solid_17 : decode cX11_solid 17 = .ok (.getfield 9, 3) := by decide +kernel
theorem dX11_solid_20 : decode cX11_solid 20 = .ok (.iconst 3, 1) := by decide +kernel
theorem dX11_solid_21 : decode cX11_solid 21 = .ok (.iaload, 1) := by decide +kernel
theorem dX11_solid_22 : decode cX11_solid 22 = .ok (.if_icmp .ge 65, 3) := by decide +kernel
theorem dX11_solid_25 : decode cX11_solid 25 = .ok (.iload_n 2, 1) := by decide +kernel
theorem dX11_solid_26 : decode cX11_solid 26 = .ok (.aload_n 0, 1) := by decide +kernel
theorem dX11_solid_27 : decode cX11_solid 27 = .ok (.iload_n 3, 1) := by decide +kernel
theorem dX11_solid_28 : decode cX11_solid 28 = .ok (.invokevirtual 258, 3) := by decide +kernel
theorem dX11_solid_31 : decode cX11_solid 31 = .ok (.aload_n 0, 1) := by decide +kernel
theorem dX11_solid_32 : decode cX11_solid 32 = .ok (.iload_n 1, 1) := by decide +kernel
theorem dX11_solid_33 : decode cX11_solid 33 = .ok (.invokevirtual 324, 3) := by decide +kernel
theorem dX11_solid_36 : decode cX11_solid 36 = .ok (.iand, 1) := by decide +kernel
theorem dX11_solid_37 : decode cX11_solid 37 = .ok (.aload_n 0, 1) := by decide +kernel
theorem dX11_solid_38 : decode cX11_solid 38 = .ok (.getfield 52, 3) := by decide +kernel
theorem dX11_solid_41 : decode cX11_solid 41 = .ok (.iload_n 1, 1) := by decide +kernel
theorem dX11_solid_42 : decode cX11_solid 42 = .ok (.iaload, 1) := by decide +kernel
theorem dX11_solid_43 : decode cX11_solid 43 = .ok (.invokestatic 351, 3) := by decide +kernel
theorem dX11_solid_46 : decode cX11_solid 46 = .ok (.ifCond .ne 26, 3) := by decide +kernel
theorem dX11_solid_49 : decode cX11_solid 49 = .ok (.aload_n 0, 1) := by decide +kernel
theorem dX11_solid_50 : decode cX11_solid 50 = .ok (.iload_n 3, 1) := by decide +kernel
theorem dX11_solid_51 : decode cX11_solid 51 = .ok (.invokevirtual 258, 3) := by decide +kernel
theorem dX11_solid_54 : decode cX11_solid 54 = .ok (.aload_n 0, 1) := by decide +kernel
theorem dX11_solid_55 : decode cX11_solid 55 = .ok (.iload_n 1, 1) := by decide +kernel
theorem dX11_solid_56 : decode cX11_solid 56 = .ok (.invokevirtual 324, 3) := by decide +kernel
theorem dX11_solid_59 : decode cX11_solid 59 = .ok (.iand, 1) := by decide +kernel
theorem dX11_solid_60 : decode cX11_solid 60 = .ok (.aload_n 0, 1) := by decide +kernel
theorem dX11_solid_61 : decode cX11_solid 61 = .ok (.getfield 55, 3) := by decide +kernel
theorem dX11_solid_64 : decode cX11_solid 64 = .ok (.iload_n 1, 1) := by decide +kernel
theorem dX11_solid_65 : decode cX11_solid 65 = .ok (.iaload, 1) := by decide +kernel
theorem dX11_solid_66 : decode cX11_solid 66 = .ok (.invokestatic 351, 3) := by decide +kernel
theorem dX11_solid_69 : decode cX11_solid 69 = .ok (.ifCond .eq 9, 3) := by decide +kernel
theorem dX11_solid_72 : decode cX11_solid 72 = .ok (.iconst 1, 1) := by decide +kernel
theorem dX11_solid_73 : decode cX11_solid 73 = .ok (.iload_n 3, 1) := by decide +kernel
theorem dX11_solid_74 : decode cX11_solid 74 = .ok (.ishl, 1) := by decide +kernel
theorem dX11_solid_75 : decode cX11_solid 75 = .ok (.goto 4, 3) := by decide +kernel
theorem dX11_solid_78 : decode cX11_solid 78 = .ok (.iconst 0, 1) := by decide +kernel
theorem dX11_solid_79 : decode cX11_solid 79 = .ok (.ior, 1) := by decide +kernel
theorem dX11_solid_80 : decode cX11_solid 80 = .ok (.istore_n 2, 1) := by decide +kernel
theorem dX11_solid_81 : decode cX11_solid 81 = .ok (.iinc 3 1, 3) := by decide +kernel
theorem dX11_solid_84 : decode cX11_solid 84 = .ok (.goto (-69), 3) := by decide +kernel
theorem dX11_solid_87 : decode cX11_solid 87 = .ok (.iload_n 2, 1) := by decide +kernel
theorem dX11_solid_88 : decode cX11_solid 88 = .ok (.ireturn, 1) := by decide +kernel
theorem dX11_longest_0 : decode cX11_longest 0 = .ok (.aload_n 0, 1) := by decide +kernel
theorem dX11_longest_1 : decode cX11_longest 1 = .ok (.iload_n 2, 1) := by decide +kernel
theorem dX11_longest_2 : decode cX11_longest 2 = .ok (.invokevirtual 330, 3) := by decide +kernel
theorem dX11_longest_5 : decode cX11_longest 5 = .ok (.ifCond .eq 11, 3) := by decide +kernel
theorem dX11_longest_8 : decode cX11_longest 8 = .ok (.iload_n 1, 1) := by decide +kernel
theorem dX11_longest_9 : decode cX11_longest 9 = .ok (.i2l, 1) := by decide +kernel
theorem dX11_longest_10 : decode cX11_longest 10 = .ok (.invokestatic 336, 3) := by decide +kernel
theorem dX11_longest_13 : decode cX11_longest 13 = .ok (.ifCond .ne 6, 3) := by decide +kernel
theorem dX11_longest_16 : decode cX11_longest 16 = .ok (.bipush (-2), 2) := by decide +kernel
theorem dX11_longest_18 : decode cX11_longest 18 = .ok (.ireturn, 1) := by decide +kernel
theorem dX11_longest_19 : decode cX11_longest 19 = .ok (.iconst 0, 1) := by decide +kernel
theorem dX11_longest_20 : decode cX11_longest 20 = .ok (.istore_n 3, 1) := by decide +kernel
theorem dX11_longest_21 : decode cX11_longest 21 = .ok (.iconst 0, 1) := by decide +kernel
theorem dX11_longest_22 : decode cX11_longest 22 = .ok (.istore 4, 2) := by decide +kernel
theorem dX11_longest_24 : decode cX11_longest 24 = .ok (.iconst 0, 1) := by decide +kernel
theorem dX11_longest_25 : decode cX11_longest 25 = .ok (.istore 5, 2) := by decide +kernel
theorem dX11_longest_27 : decode cX11_longest 27 = .ok (.iload 5, 2) := by decide +kernel
theorem dX11_longest_29 : decode cX11_longest 29 = .ok (.aload_n 0, 1) := by decide +kernel
theorem dX11_longest_30 : decode cX11_longest 30 = .ok (.invokevirtual 95, 3) := by decide +kernel
theorem dX11_longest_33 : decode cX11_longest 33 = .ok (.if_icmp .ge 67, 3) := by decide +kernel
theorem dX11_longest_36 : decode cX11_longest 36 = .ok (.aload_n 0, 1) := by decide +kernel
theorem dX11_longest_37 : decode cX11_longest 37 = .ok (.iload_n 1, 1) := by decide +kernel
theorem dX11_longest_38 : decode cX11_longest 38 = .ok (.iload_n 2, 1) := by decide +kernel
theorem dX11_longest_39 : decode cX11_longest 39 = .ok (.invokevirtual 327, 3) := by decide +kernel
theorem dX11_longest_42 : decode cX11_longest 42 = .ok (.iload 5, 2) := by decide +kernel
theorem dX11_longest_44 : decode cX11_longest 44 = .ok (.invokestatic 274, 3) := by decide +kernel
theorem dX11_longest_47 : decode cX11_longest 47 = .ok (.iconst 1, 1) := by decide +kernel
theorem dX11_longest_48 : decode cX11_longest 48 = .ok (.if_icmp .ne 7, 3) := by decide +kernel
theorem dX11_longest_51 : decode cX11_longest 51 = .ok (.iconst 1, 1) := by decide +kernel
theorem dX11_longest_52 : decode cX11_longest 52 = .ok (.goto 4, 3) := by decide +kernel
theorem dX11_longest_55 : decode cX11_longest 55 = .ok (.iconst 0, 1) := by decide +kernel
theorem dX11_longest_56 : decode cX11_longest 56 = .ok (.istore 6, 2) := by decide +kernel
theorem dX11_longest_58 : decode cX11_longest 58 = .ok (.iload 6, 2) := by decide +kernel
theorem dX11_longest_60 : decode cX11_longest 60 = .ok (.ifCond .ne 7, 3) := by decide +kernel
theorem dX11_longest_63 : decode cX11_longest 63 = .ok (.iconst 0, 1) := by decide +kernel
theorem dX11_longest_64 : decode cX11_longest 64 = .ok (.goto 21, 3) := by decide +kernel
theorem dX11_longest_67 : decode cX11_longest 67 = .ok (.aload_n 0, 1) := by decide +kernel
theorem dX11_longest_68 : decode cX11_longest 68 = .ok (.getfield 37, 3) := by decide +kernel
theorem dX11_longest_71 : decode cX11_longest 71 = .ok (.iload 5, 2) := by decide +kernel
theorem dX11_longest_73 : decode cX11_longest 73 = .ok (.iaload, 1) := by decide +kernel
theorem dX11_longest_74 : decode cX11_longest 74 = .ok (.ifCond .ne 7, 3) := by decide +kernel
theorem dX11_longest_77 : decode cX11_longest 77 = .ok (.iconst 1, 1) := by decide +kernel
theorem dX11_longest_78 : decode cX11_longest 78 = .ok (.goto 7, 3) := by decide +kernel
theorem dX11_longest_81 : decode cX11_longest 81 = .ok (.iload 4, 2) := by decide +kernel
theorem dX11_longest_83 : decode cX11_longest 83 = .ok (.iconst 1, 1) := by decide +kernel
theorem dX11_longest_84 : decode cX11_longest 84 = .ok (.iadd, 1) := by decide +kernel
theorem dX11_longest_85 : decode cX11_longest 85 = .ok (.istore 4, 2) := by decide +kernel
theorem dX11_longest_87 : decode cX11_longest 87 = .ok (.iload_n 3, 1) := by decide +kernel
theorem dX11_longest_88 : decode cX11_longest 88 = .ok (.iload 4, 2) := by decide +kernel
theorem dX11_longest_90 : decode cX11_longest 90 = .ok (.invokestatic 355, 3) := by decide +kernel
theorem dX11_longest_93 : decode cX11_longest 93 = .ok (.istore_n 3, 1) := by decide +kernel
theorem dX11_longest_94 : decode cX11_longest 94 = .ok (.iinc 5 1, 3) := by decide +kernel
theorem dX11_longest_97 : decode cX11_longest 97 = .ok (.goto (-70), 3) := by decide +kernel
theorem dX11_longest_100 : decode cX11_longest 100 = .ok (.iload_n 3, 1) := by decide +kernel
theorem dX11_longest_101 : decode cX11_longest 101 = .ok (.ireturn, 1) := by decide +kernel
theorem dX11_pull_0 : decode cX11_pull 0 = .ok (.aload_n 0, 1) := by decide +kernel
theorem dX11_pull_1 : decode cX11_pull 1 = .ok (.iload_n 2, 1) := by decide +kernel
theorem dX11_pull_2 : decode cX11_pull 2 = .ok (.invokevirtual 330, 3) := by decide +kernel
theorem dX11_pull_5 : decode cX11_pull 5 = .ok (.ifCond .eq 32, 3) := by decide +kernel
theorem dX11_pull_8 : decode cX11_pull 8 = .ok (.aload_n 0, 1) := by decide +kernel
theorem dX11_pull_9 : decode cX11_pull 9 = .ok (.iload_n 1, 1) := by decide +kernel
theorem dX11_pull_10 : decode cX11_pull 10 = .ok (.i2l, 1) := by decide +kernel
theorem dX11_pull_11 : decode cX11_pull 11 = .ok (.invokevirtual 237, 3) := by decide +kernel
theorem dX11_pull_14 : decode cX11_pull 14 = .ok (.ifCond .eq 23, 3) := by decide +kernel
theorem dX11_pull_17 : decode cX11_pull 17 = .ok (.aload_n 0, 1) := by decide +kernel
theorem dX11_pull_18 : decode cX11_pull 18 = .ok (.iload_n 1, 1) := by decide +kernel
theorem dX11_pull_19 : decode cX11_pull 19 = .ok (.aload_n 0, 1) := by decide +kernel
theorem dX11_pull_20 : decode cX11_pull 20 = .ok (.getfield 52, 3) := by decide +kernel
theorem dX11_pull_23 : decode cX11_pull 23 = .ok (.iload_n 2, 1) := by decide +kernel
theorem dX11_pull_24 : decode cX11_pull 24 = .ok (.iaload, 1) := by decide +kernel
theorem dX11_pull_25 : decode cX11_pull 25 = .ok (.aload_n 0, 1) := by decide +kernel
theorem dX11_pull_26 : decode cX11_pull 26 = .ok (.getfield 55, 3) := by decide +kernel
theorem dX11_pull_29 : decode cX11_pull 29 = .ok (.iload_n 2, 1) := by decide +kernel
theorem dX11_pull_30 : decode cX11_pull 30 = .ok (.iaload, 1) := by decide +kernel
theorem dX11_pull_31 : decode cX11_pull 31 = .ok (.invokevirtual 299, 3) := by decide +kernel
theorem dX11_pull_34 : decode cX11_pull 34 = .ok (.goto 6, 3) := by decide +kernel
theorem dX11_pull_37 : decode cX11_pull 37 = .ok (.sipush (-1000), 3) := by decide +kernel
theorem dX11_pull_40 : decode cX11_pull 40 = .ok (.ireturn, 1) := by decide +kernel
theorem dX11_tied_0 : decode cX11_tied 0 = .ok (.aload_n 0, 1) := by decide +kernel
theorem dX11_tied_1 : decode cX11_tied 1 = .ok (.iload_n 1, 1) := by decide +kernel
theorem dX11_tied_2 : decode cX11_tied 2 = .ok (.invokevirtual 330, 3) := by decide +kernel
theorem dX11_tied_5 : decode cX11_tied 5 = .ok (.ifCond .ne 6, 3) := by decide +kernel
theorem dX11_tied_8 : decode cX11_tied 8 = .ok (.bipush (-2), 2) := by decide +kernel
theorem dX11_tied_10 : decode cX11_tied 10 = .ok (.ireturn, 1) := by decide +kernel
theorem dX11_tied_11 : decode cX11_tied 11 = .ok (.iconst 0, 1) := by decide +kernel
theorem dX11_tied_12 : decode cX11_tied 12 = .ok (.istore_n 2, 1) := by decide +kernel
theorem dX11_tied_13 : decode cX11_tied 13 = .ok (.iconst 0, 1) := by decide +kernel
theorem dX11_tied_14 : decode cX11_tied 14 = .ok (.istore_n 3, 1) := by decide +kernel
theorem dX11_tied_15 : decode cX11_tied 15 = .ok (.iload_n 3, 1) := by decide +kernel
theorem dX11_tied_16 : decode cX11_tied 16 = .ok (.aload_n 0, 1) := by decide +kernel
theorem dX11_tied_17 : decode cX11_tied 17 = .ok (.invokevirtual 95, 3) := by decide +kernel
theorem dX11_tied_20 : decode cX11_tied 20 = .ok (.if_icmp .ge 39, 3) := by decide +kernel
theorem dX11_tied_23 : decode cX11_tied 23 = .ok (.iload_n 2, 1) := by decide +kernel
theorem dX11_tied_24 : decode cX11_tied 24 = .ok (.aload_n 0, 1) := by decide +kernel
theorem dX11_tied_25 : decode cX11_tied 25 = .ok (.iload_n 3, 1) := by decide +kernel
theorem dX11_tied_26 : decode cX11_tied 26 = .ok (.aload_n 0, 1) := by decide +kernel
theorem dX11_tied_27 : decode cX11_tied 27 = .ok (.getfield 52, 3) := by decide +kernel
theorem dX11_tied_30 : decode cX11_tied 30 = .ok (.iload_n 1, 1) := by decide +kernel
theorem dX11_tied_31 : decode cX11_tied 31 = .ok (.iaload, 1) := by decide +kernel
theorem dX11_tied_32 : decode cX11_tied 32 = .ok (.aload_n 0, 1) := by decide +kernel
theorem dX11_tied_33 : decode cX11_tied 33 = .ok (.getfield 55, 3) := by decide +kernel
theorem dX11_tied_36 : decode cX11_tied 36 = .ok (.iload_n 1, 1) := by decide +kernel
theorem dX11_tied_37 : decode cX11_tied 37 = .ok (.iaload, 1) := by decide +kernel
theorem dX11_tied_38 : decode cX11_tied 38 = .ok (.invokevirtual 299, 3) := by decide +kernel
theorem dX11_tied_41 : decode cX11_tied 41 = .ok (.ifCond .ne 9, 3) := by decide +kernel
theorem dX11_tied_44 : decode cX11_tied 44 = .ok (.iconst 1, 1) := by decide +kernel
theorem dX11_tied_45 : decode cX11_tied 45 = .ok (.iload_n 3, 1) := by decide +kernel
theorem dX11_tied_46 : decode cX11_tied 46 = .ok (.ishl, 1) := by decide +kernel
theorem dX11_tied_47 : decode cX11_tied 47 = .ok (.goto 4, 3) := by decide +kernel
theorem dX11_tied_50 : decode cX11_tied 50 = .ok (.iconst 0, 1) := by decide +kernel
theorem dX11_tied_51 : decode cX11_tied 51 = .ok (.ior, 1) := by decide +kernel
theorem dX11_tied_52 : decode cX11_tied 52 = .ok (.istore_n 2, 1) := by decide +kernel
theorem dX11_tied_53 : decode cX11_tied 53 = .ok (.iinc 3 1, 3) := by decide +kernel
theorem dX11_tied_56 : decode cX11_tied 56 = .ok (.goto (-41), 3) := by decide +kernel
theorem dX11_tied_59 : decode cX11_tied 59 = .ok (.iload_n 2, 1) := by decide +kernel
theorem dX11_tied_60 : decode cX11_tied 60 = .ok (.aload_n 0, 1) := by decide +kernel
theorem dX11_tied_61 : decode cX11_tied 61 = .ok (.iload_n 1, 1) := by decide +kernel
theorem dX11_tied_62 : decode cX11_tied 62 = .ok (.invokevirtual 324, 3) := by decide +kernel
theorem dX11_tied_65 : decode cX11_tied 65 = .ok (.iand, 1) := by decide +kernel
theorem dX11_tied_66 : decode cX11_tied 66 = .ok (.ireturn, 1) := by decide +kernel
theorem dX11_since_0 : decode cX11_since 0 = .ok (.aload_n 0, 1) := by decide +kernel
theorem dX11_since_1 : decode cX11_since 1 = .ok (.iload_n 1, 1) := by decide +kernel
theorem dX11_since_2 : decode cX11_since 2 = .ok (.invokevirtual 342, 3) := by decide +kernel
theorem dX11_since_5 : decode cX11_since 5 = .ok (.ifCond .ne 6, 3) := by decide +kernel
theorem dX11_since_8 : decode cX11_since 8 = .ok (.bipush (-2), 2) := by decide +kernel
theorem dX11_since_10 : decode cX11_since 10 = .ok (.ireturn, 1) := by decide +kernel
theorem dX11_since_11 : decode cX11_since 11 = .ok (.aload_n 0, 1) := by decide +kernel
theorem dX11_since_12 : decode cX11_since 12 = .ok (.invokevirtual 103, 3) := by decide +kernel
theorem dX11_since_15 : decode cX11_since 15 = .ok (.istore_n 2, 1) := by decide +kernel
theorem dX11_since_16 : decode cX11_since 16 = .ok (.iload_n 2, 1) := by decide +kernel
theorem dX11_since_17 : decode cX11_since 17 = .ok (.ifCond .le 29, 3) := by decide +kernel
theorem dX11_since_20 : decode cX11_since 20 = .ok (.aload_n 0, 1) := by decide +kernel
theorem dX11_since_21 : decode cX11_since 21 = .ok (.iload_n 1, 1) := by decide +kernel
theorem dX11_since_22 : decode cX11_since 22 = .ok (.iload_n 2, 1) := by decide +kernel
theorem dX11_since_23 : decode cX11_since 23 = .ok (.iconst 1, 1) := by decide +kernel
theorem dX11_since_24 : decode cX11_since 24 = .ok (.isub, 1) := by decide +kernel
theorem dX11_since_25 : decode cX11_since 25 = .ok (.invokevirtual 333, 3) := by decide +kernel
theorem dX11_since_28 : decode cX11_since 28 = .ok (.aload_n 0, 1) := by decide +kernel
theorem dX11_since_29 : decode cX11_since 29 = .ok (.iload_n 1, 1) := by decide +kernel
theorem dX11_since_30 : decode cX11_since 30 = .ok (.aload_n 0, 1) := by decide +kernel
theorem dX11_since_31 : decode cX11_since 31 = .ok (.invokevirtual 103, 3) := by decide +kernel
theorem dX11_since_34 : decode cX11_since 34 = .ok (.invokevirtual 333, 3) := by decide +kernel
theorem dX11_since_37 : decode cX11_since 37 = .ok (.if_icmp .ne 9, 3) := by decide +kernel
theorem dX11_since_40 : decode cX11_since 40 = .ok (.iinc 2 (-1), 3) := by decide +kernel
theorem dX11_since_43 : decode cX11_since 43 = .ok (.goto (-27), 3) := by decide +kernel
theorem dX11_since_46 : decode cX11_since 46 = .ok (.iload_n 2, 1) := by decide +kernel
theorem dX11_since_47 : decode cX11_since 47 = .ok (.ireturn, 1) := by decide +kernel
theorem dX11_held_0 : decode cX11_held 0 = .ok (.aload_n 0, 1) := by decide +kernel
theorem dX11_held_1 : decode cX11_held 1 = .ok (.iload_n 1, 1) := by decide +kernel
theorem dX11_held_2 : decode cX11_held 2 = .ok (.invokevirtual 342, 3) := by decide +kernel
theorem dX11_held_5 : decode cX11_held 5 = .ok (.ifCond .ne 6, 3) := by decide +kernel
theorem dX11_held_8 : decode cX11_held 8 = .ok (.bipush (-2), 2) := by decide +kernel
theorem dX11_held_10 : decode cX11_held 10 = .ok (.ireturn, 1) := by decide +kernel
theorem dX11_held_11 : decode cX11_held 11 = .ok (.iconst 0, 1) := by decide +kernel
theorem dX11_held_12 : decode cX11_held 12 = .ok (.istore_n 2, 1) := by decide +kernel
theorem dX11_held_13 : decode cX11_held 13 = .ok (.iconst 0, 1) := by decide +kernel
theorem dX11_held_14 : decode cX11_held 14 = .ok (.istore_n 3, 1) := by decide +kernel
theorem dX11_held_15 : decode cX11_held 15 = .ok (.iconst 0, 1) := by decide +kernel
theorem dX11_held_16 : decode cX11_held 16 = .ok (.istore 4, 2) := by decide +kernel
theorem dX11_held_18 : decode cX11_held 18 = .ok (.iload 4, 2) := by decide +kernel
theorem dX11_held_20 : decode cX11_held 20 = .ok (.aload_n 0, 1) := by decide +kernel
theorem dX11_held_21 : decode cX11_held 21 = .ok (.invokevirtual 103, 3) := by decide +kernel
theorem dX11_held_24 : decode cX11_held 24 = .ok (.if_icmp .gt 73, 3) := by decide +kernel
theorem dX11_held_27 : decode cX11_held 27 = .ok (.iload 4, 2) := by decide +kernel
theorem dX11_held_29 : decode cX11_held 29 = .ok (.ifCond .le 26, 3) := by decide +kernel
theorem dX11_held_32 : decode cX11_held 32 = .ok (.aload_n 0, 1) := by decide +kernel
theorem dX11_held_33 : decode cX11_held 33 = .ok (.iload_n 1, 1) := by decide +kernel
theorem dX11_held_34 : decode cX11_held 34 = .ok (.iload 4, 2) := by decide +kernel
theorem dX11_held_36 : decode cX11_held 36 = .ok (.invokevirtual 333, 3) := by decide +kernel
theorem dX11_held_39 : decode cX11_held 39 = .ok (.aload_n 0, 1) := by decide +kernel
theorem dX11_held_40 : decode cX11_held 40 = .ok (.iload_n 1, 1) := by decide +kernel
theorem dX11_held_41 : decode cX11_held 41 = .ok (.iload 4, 2) := by decide +kernel
theorem dX11_held_43 : decode cX11_held 43 = .ok (.iconst 1, 1) := by decide +kernel
theorem dX11_held_44 : decode cX11_held 44 = .ok (.isub, 1) := by decide +kernel
theorem dX11_held_45 : decode cX11_held 45 = .ok (.invokevirtual 333, 3) := by decide +kernel
theorem dX11_held_48 : decode cX11_held 48 = .ok (.if_icmp .ne 7, 3) := by decide +kernel
theorem dX11_held_51 : decode cX11_held 51 = .ok (.iconst 1, 1) := by decide +kernel
theorem dX11_held_52 : decode cX11_held 52 = .ok (.goto 4, 3) := by decide +kernel
theorem dX11_held_55 : decode cX11_held 55 = .ok (.iconst 0, 1) := by decide +kernel
theorem dX11_held_56 : decode cX11_held 56 = .ok (.istore 5, 2) := by decide +kernel
theorem dX11_held_58 : decode cX11_held 58 = .ok (.aload_n 0, 1) := by decide +kernel
theorem dX11_held_59 : decode cX11_held 59 = .ok (.iload_n 1, 1) := by decide +kernel
theorem dX11_held_60 : decode cX11_held 60 = .ok (.iload 4, 2) := by decide +kernel
theorem dX11_held_62 : decode cX11_held 62 = .ok (.invokevirtual 333, 3) := by decide +kernel
theorem dX11_held_65 : decode cX11_held 65 = .ok (.ifCond .ne 7, 3) := by decide +kernel
theorem dX11_held_68 : decode cX11_held 68 = .ok (.iconst 0, 1) := by decide +kernel
theorem dX11_held_69 : decode cX11_held 69 = .ok (.goto 15, 3) := by decide +kernel
theorem dX11_held_72 : decode cX11_held 72 = .ok (.iload 5, 2) := by decide +kernel
theorem dX11_held_74 : decode cX11_held 74 = .ok (.ifCond .eq 9, 3) := by decide +kernel
theorem dX11_held_77 : decode cX11_held 77 = .ok (.iload_n 3, 1) := by decide +kernel
theorem dX11_held_78 : decode cX11_held 78 = .ok (.iconst 1, 1) := by decide +kernel
theorem dX11_held_79 : decode cX11_held 79 = .ok (.iadd, 1) := by decide +kernel
theorem dX11_held_80 : decode cX11_held 80 = .ok (.goto 4, 3) := by decide +kernel
theorem dX11_held_83 : decode cX11_held 83 = .ok (.iconst 1, 1) := by decide +kernel
theorem dX11_held_84 : decode cX11_held 84 = .ok (.istore_n 3, 1) := by decide +kernel
theorem dX11_held_85 : decode cX11_held 85 = .ok (.iload_n 2, 1) := by decide +kernel
theorem dX11_held_86 : decode cX11_held 86 = .ok (.iload_n 3, 1) := by decide +kernel
theorem dX11_held_87 : decode cX11_held 87 = .ok (.invokestatic 355, 3) := by decide +kernel
theorem dX11_held_90 : decode cX11_held 90 = .ok (.istore_n 2, 1) := by decide +kernel
theorem dX11_held_91 : decode cX11_held 91 = .ok (.iinc 4 1, 3) := by decide +kernel
theorem dX11_held_94 : decode cX11_held 94 = .ok (.goto (-76), 3) := by decide +kernel
theorem dX11_held_97 : decode cX11_held 97 = .ok (.iload_n 2, 1) := by decide +kernel
theorem dX11_held_98 : decode cX11_held 98 = .ok (.ireturn, 1) := by decide +kernel
theorem dX11_hush_0 : decode cX11_hush 0 = .ok (.aload_n 0, 1) := by decide +kernel
theorem dX11_hush_1 : decode cX11_hush 1 = .ok (.iload_n 1, 1) := by decide +kernel
theorem dX11_hush_2 : decode cX11_hush 2 = .ok (.invokevirtual 330, 3) := by decide +kernel
theorem dX11_hush_5 : decode cX11_hush 5 = .ok (.ifCond .ne 6, 3) := by decide +kernel
theorem dX11_hush_8 : decode cX11_hush 8 = .ok (.bipush (-2), 2) := by decide +kernel
theorem dX11_hush_10 : decode cX11_hush 10 = .ok (.ireturn, 1) := by decide +kernel
theorem dX11_hush_11 : decode cX11_hush 11 = .ok (.aload_n 0, 1) := by decide +kernel
theorem dX11_hush_12 : decode cX11_hush 12 = .ok (.getfield 52, 3) := by decide +kernel
theorem dX11_hush_15 : decode cX11_hush 15 = .ok (.iload_n 1, 1) := by decide +kernel
theorem dX11_hush_16 : decode cX11_hush 16 = .ok (.iaload, 1) := by decide +kernel
theorem dX11_hush_17 : decode cX11_hush 17 = .ok (.aload_n 0, 1) := by decide +kernel
theorem dX11_hush_18 : decode cX11_hush 18 = .ok (.getfield 55, 3) := by decide +kernel
theorem dX11_hush_21 : decode cX11_hush 21 = .ok (.iload_n 1, 1) := by decide +kernel
theorem dX11_hush_22 : decode cX11_hush 22 = .ok (.iaload, 1) := by decide +kernel
theorem dX11_hush_23 : decode cX11_hush 23 = .ok (.ior, 1) := by decide +kernel
theorem dX11_hush_24 : decode cX11_hush 24 = .ok (.istore_n 2, 1) := by decide +kernel
theorem dX11_hush_25 : decode cX11_hush 25 = .ok (.iconst 0, 1) := by decide +kernel
theorem dX11_hush_26 : decode cX11_hush 26 = .ok (.istore_n 3, 1) := by decide +kernel
theorem dX11_hush_27 : decode cX11_hush 27 = .ok (.iconst 0, 1) := by decide +kernel
theorem dX11_hush_28 : decode cX11_hush 28 = .ok (.istore 4, 2) := by decide +kernel
theorem dX11_hush_30 : decode cX11_hush 30 = .ok (.iload 4, 2) := by decide +kernel
theorem dX11_hush_32 : decode cX11_hush 32 = .ok (.aload_n 0, 1) := by decide +kernel
theorem dX11_hush_33 : decode cX11_hush 33 = .ok (.invokevirtual 95, 3) := by decide +kernel
theorem dX11_hush_36 : decode cX11_hush 36 = .ok (.if_icmp .ge 43, 3) := by decide +kernel
theorem dX11_hush_39 : decode cX11_hush 39 = .ok (.iload_n 3, 1) := by decide +kernel
theorem dX11_hush_40 : decode cX11_hush 40 = .ok (.iload_n 2, 1) := by decide +kernel
theorem dX11_hush_41 : decode cX11_hush 41 = .ok (.iconst 1, 1) := by decide +kernel
theorem dX11_hush_42 : decode cX11_hush 42 = .ok (.iload 4, 2) := by decide +kernel
theorem dX11_hush_44 : decode cX11_hush 44 = .ok (.ishl, 1) := by decide +kernel
theorem dX11_hush_45 : decode cX11_hush 45 = .ok (.aload_n 0, 1) := by decide +kernel
theorem dX11_hush_46 : decode cX11_hush 46 = .ok (.iload 4, 2) := by decide +kernel
theorem dX11_hush_48 : decode cX11_hush 48 = .ok (.invokevirtual 252, 3) := by decide +kernel
theorem dX11_hush_51 : decode cX11_hush 51 = .ok (.ior, 1) := by decide +kernel
theorem dX11_hush_52 : decode cX11_hush 52 = .ok (.aload_n 0, 1) := by decide +kernel
theorem dX11_hush_53 : decode cX11_hush 53 = .ok (.iload 4, 2) := by decide +kernel
theorem dX11_hush_55 : decode cX11_hush 55 = .ok (.invokevirtual 255, 3) := by decide +kernel
theorem dX11_hush_58 : decode cX11_hush 58 = .ok (.ior, 1) := by decide +kernel
theorem dX11_hush_59 : decode cX11_hush 59 = .ok (.iand, 1) := by decide +kernel
theorem dX11_hush_60 : decode cX11_hush 60 = .ok (.ifCond .ne 10, 3) := by decide +kernel
theorem dX11_hush_63 : decode cX11_hush 63 = .ok (.iconst 1, 1) := by decide +kernel
theorem dX11_hush_64 : decode cX11_hush 64 = .ok (.iload 4, 2) := by decide +kernel
theorem dX11_hush_66 : decode cX11_hush 66 = .ok (.ishl, 1) := by decide +kernel
theorem dX11_hush_67 : decode cX11_hush 67 = .ok (.goto 4, 3) := by decide +kernel
theorem dX11_hush_70 : decode cX11_hush 70 = .ok (.iconst 0, 1) := by decide +kernel
theorem dX11_hush_71 : decode cX11_hush 71 = .ok (.ior, 1) := by decide +kernel
theorem dX11_hush_72 : decode cX11_hush 72 = .ok (.istore_n 3, 1) := by decide +kernel
theorem dX11_hush_73 : decode cX11_hush 73 = .ok (.iinc 4 1, 3) := by decide +kernel
theorem dX11_hush_76 : decode cX11_hush 76 = .ok (.goto (-46), 3) := by decide +kernel
theorem dX11_hush_79 : decode cX11_hush 79 = .ok (.iload_n 3, 1) := by decide +kernel
theorem dX11_hush_80 : decode cX11_hush 80 = .ok (.aload_n 0, 1) := by decide +kernel
theorem dX11_hush_81 : decode cX11_hush 81 = .ok (.iload_n 1, 1) := by decide +kernel
theorem dX11_hush_82 : decode cX11_hush 82 = .ok (.invokevirtual 324, 3) := by decide +kernel
theorem dX11_hush_85 : decode cX11_hush 85 = .ok (.iand, 1) := by decide +kernel
theorem dX11_hush_86 : decode cX11_hush 86 = .ok (.ireturn, 1) := by decide +kernel
theorem dX11_lonely_0 : decode cX11_lonely 0 = .ok (.aload_n 0, 1) := by decide +kernel
theorem dX11_lonely_1 : decode cX11_lonely 1 = .ok (.iload_n 1, 1) := by decide +kernel
theorem dX11_lonely_2 : decode cX11_lonely 2 = .ok (.invokevirtual 330, 3) := by decide +kernel
theorem dX11_lonely_5 : decode cX11_lonely 5 = .ok (.ifCond .ne 6, 3) := by decide +kernel
theorem dX11_lonely_8 : decode cX11_lonely 8 = .ok (.bipush (-2), 2) := by decide +kernel
theorem dX11_lonely_10 : decode cX11_lonely 10 = .ok (.ireturn, 1) := by decide +kernel
theorem dX11_lonely_11 : decode cX11_lonely 11 = .ok (.iconst 0, 1) := by decide +kernel
theorem dX11_lonely_12 : decode cX11_lonely 12 = .ok (.istore_n 2, 1) := by decide +kernel
theorem dX11_lonely_13 : decode cX11_lonely 13 = .ok (.iconst 0, 1) := by decide +kernel
theorem dX11_lonely_14 : decode cX11_lonely 14 = .ok (.istore_n 3, 1) := by decide +kernel
theorem dX11_lonely_15 : decode cX11_lonely 15 = .ok (.iload_n 3, 1) := by decide +kernel
theorem dX11_lonely_16 : decode cX11_lonely 16 = .ok (.aload_n 0, 1) := by decide +kernel
theorem dX11_lonely_17 : decode cX11_lonely 17 = .ok (.invokevirtual 95, 3) := by decide +kernel
theorem dX11_lonely_20 : decode cX11_lonely 20 = .ok (.if_icmp .ge 72, 3) := by decide +kernel
theorem dX11_lonely_23 : decode cX11_lonely 23 = .ok (.aload_n 0, 1) := by decide +kernel
theorem dX11_lonely_24 : decode cX11_lonely 24 = .ok (.iload_n 3, 1) := by decide +kernel
theorem dX11_lonely_25 : decode cX11_lonely 25 = .ok (.iload_n 1, 1) := by decide +kernel
theorem dX11_lonely_26 : decode cX11_lonely 26 = .ok (.invokevirtual 333, 3) := by decide +kernel
theorem dX11_lonely_29 : decode cX11_lonely 29 = .ok (.iconst 1, 1) := by decide +kernel
theorem dX11_lonely_30 : decode cX11_lonely 30 = .ok (.if_icmp .ne 12, 3) := by decide +kernel
theorem dX11_lonely_33 : decode cX11_lonely 33 = .ok (.aload_n 0, 1) := by decide +kernel
theorem dX11_lonely_34 : decode cX11_lonely 34 = .ok (.getfield 52, 3) := by decide +kernel
theorem dX11_lonely_37 : decode cX11_lonely 37 = .ok (.iload_n 1, 1) := by decide +kernel
theorem dX11_lonely_38 : decode cX11_lonely 38 = .ok (.iaload, 1) := by decide +kernel
theorem dX11_lonely_39 : decode cX11_lonely 39 = .ok (.goto 9, 3) := by decide +kernel
theorem dX11_lonely_42 : decode cX11_lonely 42 = .ok (.aload_n 0, 1) := by decide +kernel
theorem dX11_lonely_43 : decode cX11_lonely 43 = .ok (.getfield 55, 3) := by decide +kernel
theorem dX11_lonely_46 : decode cX11_lonely 46 = .ok (.iload_n 1, 1) := by decide +kernel
theorem dX11_lonely_47 : decode cX11_lonely 47 = .ok (.iaload, 1) := by decide +kernel
theorem dX11_lonely_48 : decode cX11_lonely 48 = .ok (.istore 4, 2) := by decide +kernel
theorem dX11_lonely_50 : decode cX11_lonely 50 = .ok (.iload_n 2, 1) := by decide +kernel
theorem dX11_lonely_51 : decode cX11_lonely 51 = .ok (.aload_n 0, 1) := by decide +kernel
theorem dX11_lonely_52 : decode cX11_lonely 52 = .ok (.iload_n 3, 1) := by decide +kernel
theorem dX11_lonely_53 : decode cX11_lonely 53 = .ok (.iload_n 1, 1) := by decide +kernel
theorem dX11_lonely_54 : decode cX11_lonely 54 = .ok (.invokevirtual 333, 3) := by decide +kernel
theorem dX11_lonely_57 : decode cX11_lonely 57 = .ok (.ifCond .le 26, 3) := by decide +kernel
theorem dX11_lonely_60 : decode cX11_lonely 60 = .ok (.iload 4, 2) := by decide +kernel
theorem dX11_lonely_62 : decode cX11_lonely 62 = .ok (.aload_n 0, 1) := by decide +kernel
theorem dX11_lonely_63 : decode cX11_lonely 63 = .ok (.iload_n 3, 1) := by decide +kernel
theorem dX11_lonely_64 : decode cX11_lonely 64 = .ok (.invokevirtual 252, 3) := by decide +kernel
theorem dX11_lonely_67 : decode cX11_lonely 67 = .ok (.aload_n 0, 1) := by decide +kernel
theorem dX11_lonely_68 : decode cX11_lonely 68 = .ok (.iload_n 3, 1) := by decide +kernel
theorem dX11_lonely_69 : decode cX11_lonely 69 = .ok (.invokevirtual 255, 3) := by decide +kernel
theorem dX11_lonely_72 : decode cX11_lonely 72 = .ok (.ior, 1) := by decide +kernel
theorem dX11_lonely_73 : decode cX11_lonely 73 = .ok (.iand, 1) := by decide +kernel
theorem dX11_lonely_74 : decode cX11_lonely 74 = .ok (.ifCond .ne 9, 3) := by decide +kernel
theorem dX11_lonely_77 : decode cX11_lonely 77 = .ok (.iconst 1, 1) := by decide +kernel
theorem dX11_lonely_78 : decode cX11_lonely 78 = .ok (.iload_n 3, 1) := by decide +kernel
theorem dX11_lonely_79 : decode cX11_lonely 79 = .ok (.ishl, 1) := by decide +kernel
theorem dX11_lonely_80 : decode cX11_lonely 80 = .ok (.goto 4, 3) := by decide +kernel
theorem dX11_lonely_83 : decode cX11_lonely 83 = .ok (.iconst 0, 1) := by decide +kernel
theorem dX11_lonely_84 : decode cX11_lonely 84 = .ok (.ior, 1) := by decide +kernel
theorem dX11_lonely_85 : decode cX11_lonely 85 = .ok (.istore_n 2, 1) := by decide +kernel
theorem dX11_lonely_86 : decode cX11_lonely 86 = .ok (.iinc 3 1, 3) := by decide +kernel
theorem dX11_lonely_89 : decode cX11_lonely 89 = .ok (.goto (-74), 3) := by decide +kernel
theorem dX11_lonely_92 : decode cX11_lonely 92 = .ok (.iload_n 2, 1) := by decide +kernel
theorem dX11_lonely_93 : decode cX11_lonely 93 = .ok (.ireturn, 1) := by decide +kernel
theorem dX11_quarrels_0 : decode cX11_quarrels 0 = .ok (.aload_n 0, 1) := by decide +kernel
theorem dX11_quarrels_1 : decode cX11_quarrels 1 = .ok (.iload_n 1, 1) := by decide +kernel
theorem dX11_quarrels_2 : decode cX11_quarrels 2 = .ok (.invokevirtual 330, 3) := by decide +kernel
theorem dX11_quarrels_5 : decode cX11_quarrels 5 = .ok (.ifCond .ne 6, 3) := by decide +kernel
theorem dX11_quarrels_8 : decode cX11_quarrels 8 = .ok (.bipush (-2), 2) := by decide +kernel
theorem dX11_quarrels_10 : decode cX11_quarrels 10 = .ok (.ireturn, 1) := by decide +kernel
theorem dX11_quarrels_11 : decode cX11_quarrels 11 = .ok (.iconst 0, 1) := by decide +kernel
theorem dX11_quarrels_12 : decode cX11_quarrels 12 = .ok (.istore_n 2, 1) := by decide +kernel
theorem dX11_quarrels_13 : decode cX11_quarrels 13 = .ok (.iconst 0, 1) := by decide +kernel
theorem dX11_quarrels_14 : decode cX11_quarrels 14 = .ok (.istore_n 3, 1) := by decide +kernel
theorem dX11_quarrels_15 : decode cX11_quarrels 15 = .ok (.iload_n 3, 1) := by decide +kernel
theorem dX11_quarrels_16 : decode cX11_quarrels 16 = .ok (.aload_n 0, 1) := by decide +kernel
theorem dX11_quarrels_17 : decode cX11_quarrels 17 = .ok (.invokevirtual 95, 3) := by decide +kernel
theorem dX11_quarrels_20 : decode cX11_quarrels 20 = .ok (.if_icmp .ge 43, 3) := by decide +kernel
theorem dX11_quarrels_23 : decode cX11_quarrels 23 = .ok (.aload_n 0, 1) := by decide +kernel
theorem dX11_quarrels_24 : decode cX11_quarrels 24 = .ok (.iload_n 3, 1) := by decide +kernel
theorem dX11_quarrels_25 : decode cX11_quarrels 25 = .ok (.iload_n 1, 1) := by decide +kernel
theorem dX11_quarrels_26 : decode cX11_quarrels 26 = .ok (.invokevirtual 333, 3) := by decide +kernel
theorem dX11_quarrels_29 : decode cX11_quarrels 29 = .ok (.iconst 1, 1) := by decide +kernel
theorem dX11_quarrels_30 : decode cX11_quarrels 30 = .ok (.if_icmp .ne 27, 3) := by decide +kernel
theorem dX11_quarrels_33 : decode cX11_quarrels 33 = .ok (.iload_n 2, 1) := by decide +kernel
theorem dX11_quarrels_34 : decode cX11_quarrels 34 = .ok (.aload_n 0, 1) := by decide +kernel
theorem dX11_quarrels_35 : decode cX11_quarrels 35 = .ok (.getfield 55, 3) := by decide +kernel
theorem dX11_quarrels_38 : decode cX11_quarrels 38 = .ok (.iload_n 1, 1) := by decide +kernel
theorem dX11_quarrels_39 : decode cX11_quarrels 39 = .ok (.iaload, 1) := by decide +kernel
theorem dX11_quarrels_40 : decode cX11_quarrels 40 = .ok (.aload_n 0, 1) := by decide +kernel
theorem dX11_quarrels_41 : decode cX11_quarrels 41 = .ok (.iload_n 3, 1) := by decide +kernel
theorem dX11_quarrels_42 : decode cX11_quarrels 42 = .ok (.invokevirtual 252, 3) := by decide +kernel
theorem dX11_quarrels_45 : decode cX11_quarrels 45 = .ok (.aload_n 0, 1) := by decide +kernel
theorem dX11_quarrels_46 : decode cX11_quarrels 46 = .ok (.iload_n 3, 1) := by decide +kernel
theorem dX11_quarrels_47 : decode cX11_quarrels 47 = .ok (.invokevirtual 255, 3) := by decide +kernel
theorem dX11_quarrels_50 : decode cX11_quarrels 50 = .ok (.ior, 1) := by decide +kernel
theorem dX11_quarrels_51 : decode cX11_quarrels 51 = .ok (.iand, 1) := by decide +kernel
theorem dX11_quarrels_52 : decode cX11_quarrels 52 = .ok (.invokestatic 296, 3) := by decide +kernel
theorem dX11_quarrels_55 : decode cX11_quarrels 55 = .ok (.iadd, 1) := by decide +kernel
theorem dX11_quarrels_56 : decode cX11_quarrels 56 = .ok (.istore_n 2, 1) := by decide +kernel
theorem dX11_quarrels_57 : decode cX11_quarrels 57 = .ok (.iinc 3 1, 3) := by decide +kernel
theorem dX11_quarrels_60 : decode cX11_quarrels 60 = .ok (.goto (-45), 3) := by decide +kernel
theorem dX11_quarrels_63 : decode cX11_quarrels 63 = .ok (.iload_n 2, 1) := by decide +kernel
theorem dX11_quarrels_64 : decode cX11_quarrels 64 = .ok (.ireturn, 1) := by decide +kernel
theorem dX11_never_0 : decode cX11_never 0 = .ok (.aload_n 0, 1) := by decide +kernel
theorem dX11_never_1 : decode cX11_never 1 = .ok (.invokevirtual 315, 3) := by decide +kernel
theorem dX11_never_4 : decode cX11_never 4 = .ok (.ifCond .eq 11, 3) := by decide +kernel
theorem dX11_never_7 : decode cX11_never 7 = .ok (.iload_n 1, 1) := by decide +kernel
theorem dX11_never_8 : decode cX11_never 8 = .ok (.i2l, 1) := by decide +kernel
theorem dX11_never_9 : decode cX11_never 9 = .ok (.invokestatic 348, 3) := by decide +kernel
theorem dX11_never_12 : decode cX11_never 12 = .ok (.ifCond .ne 6, 3) := by decide +kernel
theorem dX11_never_15 : decode cX11_never 15 = .ok (.bipush (-2), 2) := by decide +kernel
theorem dX11_never_17 : decode cX11_never 17 = .ok (.ireturn, 1) := by decide +kernel
theorem dX11_never_18 : decode cX11_never 18 = .ok (.iconst 0, 1) := by decide +kernel
theorem dX11_never_19 : decode cX11_never 19 = .ok (.istore_n 2, 1) := by decide +kernel
theorem dX11_never_20 : decode cX11_never 20 = .ok (.iconst 0, 1) := by decide +kernel
theorem dX11_never_21 : decode cX11_never 21 = .ok (.istore_n 3, 1) := by decide +kernel
theorem dX11_never_22 : decode cX11_never 22 = .ok (.iload_n 3, 1) := by decide +kernel
theorem dX11_never_23 : decode cX11_never 23 = .ok (.aload_n 0, 1) := by decide +kernel
theorem dX11_never_24 : decode cX11_never 24 = .ok (.invokevirtual 103, 3) := by decide +kernel
theorem dX11_never_27 : decode cX11_never 27 = .ok (.if_icmp .gt 18, 3) := by decide +kernel
theorem dX11_never_30 : decode cX11_never 30 = .ok (.iload_n 2, 1) := by decide +kernel
theorem dX11_never_31 : decode cX11_never 31 = .ok (.aload_n 0, 1) := by decide +kernel
theorem dX11_never_32 : decode cX11_never 32 = .ok (.iload_n 1, 1) := by decide +kernel
theorem dX11_never_33 : decode cX11_never 33 = .ok (.iload_n 3, 1) := by decide +kernel
theorem dX11_never_34 : decode cX11_never 34 = .ok (.invokevirtual 327, 3) := by decide +kernel
theorem dX11_never_37 : decode cX11_never 37 = .ok (.ior, 1) := by decide +kernel
theorem dX11_never_38 : decode cX11_never 38 = .ok (.istore_n 2, 1) := by decide +kernel
theorem dX11_never_39 : decode cX11_never 39 = .ok (.iinc 3 1, 3) := by decide +kernel
theorem dX11_never_42 : decode cX11_never 42 = .ok (.goto (-20), 3) := by decide +kernel
theorem dX11_never_45 : decode cX11_never 45 = .ok (.aload_n 0, 1) := by decide +kernel
theorem dX11_never_46 : decode cX11_never 46 = .ok (.invokevirtual 321, 3) := by decide +kernel
theorem dX11_never_49 : decode cX11_never 49 = .ok (.iload_n 2, 1) := by decide +kernel
theorem dX11_never_50 : decode cX11_never 50 = .ok (.iconst (-1), 1) := by decide +kernel
theorem dX11_never_51 : decode cX11_never 51 = .ok (.ixor, 1) := by decide +kernel
theorem dX11_never_52 : decode cX11_never 52 = .ok (.iand, 1) := by decide +kernel
theorem dX11_never_53 : decode cX11_never 53 = .ok (.ireturn, 1) := by decide +kernel
theorem dX11_most_0 : decode cX11_most 0 = .ok (.aload_n 0, 1) := by decide +kernel
theorem dX11_most_1 : decode cX11_most 1 = .ok (.invokevirtual 315, 3) := by decide +kernel
theorem dX11_most_4 : decode cX11_most 4 = .ok (.ifCond .eq 11, 3) := by decide +kernel
theorem dX11_most_7 : decode cX11_most 7 = .ok (.iload_n 1, 1) := by decide +kernel
theorem dX11_most_8 : decode cX11_most 8 = .ok (.i2l, 1) := by decide +kernel
theorem dX11_most_9 : decode cX11_most 9 = .ok (.invokestatic 348, 3) := by decide +kernel
theorem dX11_most_12 : decode cX11_most 12 = .ok (.ifCond .ne 6, 3) := by decide +kernel
theorem dX11_most_15 : decode cX11_most 15 = .ok (.bipush (-2), 2) := by decide +kernel
theorem dX11_most_17 : decode cX11_most 17 = .ok (.ireturn, 1) := by decide +kernel
theorem dX11_most_18 : decode cX11_most 18 = .ok (.iconst 0, 1) := by decide +kernel
theorem dX11_most_19 : decode cX11_most 19 = .ok (.istore_n 2, 1) := by decide +kernel
theorem dX11_most_20 : decode cX11_most 20 = .ok (.iconst 1, 1) := by decide +kernel
theorem dX11_most_21 : decode cX11_most 21 = .ok (.istore_n 3, 1) := by decide +kernel
theorem dX11_most_22 : decode cX11_most 22 = .ok (.iload_n 3, 1) := by decide +kernel
theorem dX11_most_23 : decode cX11_most 23 = .ok (.aload_n 0, 1) := by decide +kernel
theorem dX11_most_24 : decode cX11_most 24 = .ok (.invokevirtual 103, 3) := by decide +kernel
theorem dX11_most_27 : decode cX11_most 27 = .ok (.if_icmp .gt 36, 3) := by decide +kernel
theorem dX11_most_30 : decode cX11_most 30 = .ok (.aload_n 0, 1) := by decide +kernel
theorem dX11_most_31 : decode cX11_most 31 = .ok (.iload_n 1, 1) := by decide +kernel
theorem dX11_most_32 : decode cX11_most 32 = .ok (.iload_n 3, 1) := by decide +kernel
theorem dX11_most_33 : decode cX11_most 33 = .ok (.invokevirtual 327, 3) := by decide +kernel
theorem dX11_most_36 : decode cX11_most 36 = .ok (.invokestatic 296, 3) := by decide +kernel
theorem dX11_most_39 : decode cX11_most 39 = .ok (.aload_n 0, 1) := by decide +kernel
theorem dX11_most_40 : decode cX11_most 40 = .ok (.iload_n 1, 1) := by decide +kernel
theorem dX11_most_41 : decode cX11_most 41 = .ok (.iload_n 2, 1) := by decide +kernel
theorem dX11_most_42 : decode cX11_most 42 = .ok (.invokevirtual 327, 3) := by decide +kernel
theorem dX11_most_45 : decode cX11_most 45 = .ok (.invokestatic 296, 3) := by decide +kernel
theorem dX11_most_48 : decode cX11_most 48 = .ok (.if_icmp .le 7, 3) := by decide +kernel
theorem dX11_most_51 : decode cX11_most 51 = .ok (.iload_n 3, 1) := by decide +kernel
theorem dX11_most_52 : decode cX11_most 52 = .ok (.goto 4, 3) := by decide +kernel
theorem dX11_most_55 : decode cX11_most 55 = .ok (.iload_n 2, 1) := by decide +kernel
theorem dX11_most_56 : decode cX11_most 56 = .ok (.istore_n 2, 1) := by decide +kernel
theorem dX11_most_57 : decode cX11_most 57 = .ok (.iinc 3 1, 3) := by decide +kernel
theorem dX11_most_60 : decode cX11_most 60 = .ok (.goto (-38), 3) := by decide +kernel
theorem dX11_most_63 : decode cX11_most 63 = .ok (.iload_n 2, 1) := by decide +kernel
theorem dX11_most_64 : decode cX11_most 64 = .ok (.ireturn, 1) := by decide +kernel
theorem dX11_fewest_0 : decode cX11_fewest 0 = .ok (.aload_n 0, 1) := by decide +kernel
theorem dX11_fewest_1 : decode cX11_fewest 1 = .ok (.invokevirtual 315, 3) := by decide +kernel
theorem dX11_fewest_4 : decode cX11_fewest 4 = .ok (.ifCond .eq 11, 3) := by decide +kernel
theorem dX11_fewest_7 : decode cX11_fewest 7 = .ok (.iload_n 1, 1) := by decide +kernel
theorem dX11_fewest_8 : decode cX11_fewest 8 = .ok (.i2l, 1) := by decide +kernel
theorem dX11_fewest_9 : decode cX11_fewest 9 = .ok (.invokestatic 348, 3) := by decide +kernel
theorem dX11_fewest_12 : decode cX11_fewest 12 = .ok (.ifCond .ne 6, 3) := by decide +kernel
theorem dX11_fewest_15 : decode cX11_fewest 15 = .ok (.bipush (-2), 2) := by decide +kernel
theorem dX11_fewest_17 : decode cX11_fewest 17 = .ok (.ireturn, 1) := by decide +kernel
theorem dX11_fewest_18 : decode cX11_fewest 18 = .ok (.aload_n 0, 1) := by decide +kernel
theorem dX11_fewest_19 : decode cX11_fewest 19 = .ok (.iload_n 1, 1) := by decide +kernel
theorem dX11_fewest_20 : decode cX11_fewest 20 = .ok (.invokevirtual 379, 3) := by decide +kernel
theorem dX11_fewest_23 : decode cX11_fewest 23 = .ok (.istore_n 2, 1) := by decide +kernel
theorem dX11_fewest_24 : decode cX11_fewest 24 = .ok (.iload_n 2, 1) := by decide +kernel
theorem dX11_fewest_25 : decode cX11_fewest 25 = .ok (.iconst (-1), 1) := by decide +kernel
theorem dX11_fewest_26 : decode cX11_fewest 26 = .ok (.if_icmp .ne 7, 3) := by decide +kernel
theorem dX11_fewest_29 : decode cX11_fewest 29 = .ok (.iconst (-1), 1) := by decide +kernel
theorem dX11_fewest_30 : decode cX11_fewest 30 = .ok (.goto 7, 3) := by decide +kernel
theorem dX11_fewest_33 : decode cX11_fewest 33 = .ok (.iload_n 2, 1) := by decide +kernel
theorem dX11_fewest_34 : decode cX11_fewest 34 = .ok (.invokestatic 296, 3) := by decide +kernel
theorem dX11_fewest_37 : decode cX11_fewest 37 = .ok (.ireturn, 1) := by decide +kernel
theorem dX11_tell_0 : decode cX11_tell 0 = .ok (.aload_n 0, 1) := by decide +kernel
theorem dX11_tell_1 : decode cX11_tell 1 = .ok (.invokevirtual 315, 3) := by decide +kernel
theorem dX11_tell_4 : decode cX11_tell 4 = .ok (.ifCond .eq 19, 3) := by decide +kernel
theorem dX11_tell_7 : decode cX11_tell 7 = .ok (.iload_n 1, 1) := by decide +kernel
theorem dX11_tell_8 : decode cX11_tell 8 = .ok (.i2l, 1) := by decide +kernel
theorem dX11_tell_9 : decode cX11_tell 9 = .ok (.invokestatic 348, 3) := by decide +kernel
theorem dX11_tell_12 : decode cX11_tell 12 = .ok (.ifCond .eq 11, 3) := by decide +kernel
theorem dX11_tell_15 : decode cX11_tell 15 = .ok (.aload_n 0, 1) := by decide +kernel
theorem dX11_tell_16 : decode cX11_tell 16 = .ok (.iload_n 1, 1) := by decide +kernel
theorem dX11_tell_17 : decode cX11_tell 17 = .ok (.invokevirtual 379, 3) := by decide +kernel
theorem dX11_tell_20 : decode cX11_tell 20 = .ok (.goto 5, 3) := by decide +kernel
theorem dX11_tell_23 : decode cX11_tell 23 = .ok (.bipush (-2), 2) := by decide +kernel
theorem dX11_tell_25 : decode cX11_tell 25 = .ok (.ireturn, 1) := by decide +kernel
theorem dX11_brings_0 : decode cX11_brings 0 = .ok (.aload_n 0, 1) := by decide +kernel
theorem dX11_brings_1 : decode cX11_brings 1 = .ok (.invokevirtual 315, 3) := by decide +kernel
theorem dX11_brings_4 : decode cX11_brings 4 = .ok (.ifCond .eq 34, 3) := by decide +kernel
theorem dX11_brings_7 : decode cX11_brings 7 = .ok (.iload_n 1, 1) := by decide +kernel
theorem dX11_brings_8 : decode cX11_brings 8 = .ok (.i2l, 1) := by decide +kernel
theorem dX11_brings_9 : decode cX11_brings 9 = .ok (.invokestatic 348, 3) := by decide +kernel
theorem dX11_brings_12 : decode cX11_brings 12 = .ok (.ifCond .eq 26, 3) := by decide +kernel
theorem dX11_brings_15 : decode cX11_brings 15 = .ok (.iload_n 2, 1) := by decide +kernel
theorem dX11_brings_16 : decode cX11_brings 16 = .ok (.i2l, 1) := by decide +kernel
theorem dX11_brings_17 : decode cX11_brings 17 = .ok (.lconst 0, 1) := by decide +kernel
theorem dX11_brings_18 : decode cX11_brings 18 = .ok (.aload_n 0, 1) := by decide +kernel
theorem dX11_brings_19 : decode cX11_brings 19 = .ok (.invokevirtual 321, 3) := by decide +kernel
theorem dX11_brings_22 : decode cX11_brings 22 = .ok (.i2l, 1) := by decide +kernel
theorem dX11_brings_23 : decode cX11_brings 23 = .ok (.invokestatic 91, 3) := by decide +kernel
theorem dX11_brings_26 : decode cX11_brings 26 = .ok (.ifCond .eq 12, 3) := by decide +kernel
theorem dX11_brings_29 : decode cX11_brings 29 = .ok (.aload_n 0, 1) := by decide +kernel
theorem dX11_brings_30 : decode cX11_brings 30 = .ok (.iload_n 1, 1) := by decide +kernel
theorem dX11_brings_31 : decode cX11_brings 31 = .ok (.iload_n 2, 1) := by decide +kernel
theorem dX11_brings_32 : decode cX11_brings 32 = .ok (.invokevirtual 376, 3) := by decide +kernel
theorem dX11_brings_35 : decode cX11_brings 35 = .ok (.goto 5, 3) := by decide +kernel
theorem dX11_brings_38 : decode cX11_brings 38 = .ok (.bipush (-2), 2) := by decide +kernel
theorem dX11_brings_40 : decode cX11_brings 40 = .ok (.ireturn, 1) := by decide +kernel
theorem dX11_loud_0 : decode cX11_loud 0 = .ok (.aload_n 0, 1) := by decide +kernel
theorem dX11_loud_1 : decode cX11_loud 1 = .ok (.invokevirtual 315, 3) := by decide +kernel
theorem dX11_loud_4 : decode cX11_loud 4 = .ok (.ifCond .eq 11, 3) := by decide +kernel
theorem dX11_loud_7 : decode cX11_loud 7 = .ok (.iload_n 1, 1) := by decide +kernel
theorem dX11_loud_8 : decode cX11_loud 8 = .ok (.i2l, 1) := by decide +kernel
theorem dX11_loud_9 : decode cX11_loud 9 = .ok (.invokestatic 348, 3) := by decide +kernel
theorem dX11_loud_12 : decode cX11_loud 12 = .ok (.ifCond .ne 6, 3) := by decide +kernel
theorem dX11_loud_15 : decode cX11_loud 15 = .ok (.bipush (-2), 2) := by decide +kernel
theorem dX11_loud_17 : decode cX11_loud 17 = .ok (.ireturn, 1) := by decide +kernel
theorem dX11_loud_18 : decode cX11_loud 18 = .ok (.iconst (-1), 1) := by decide +kernel
theorem dX11_loud_19 : decode cX11_loud 19 = .ok (.istore_n 2, 1) := by decide +kernel
theorem dX11_loud_20 : decode cX11_loud 20 = .ok (.iconst (-1), 1) := by decide +kernel
theorem dX11_loud_21 : decode cX11_loud 21 = .ok (.istore_n 3, 1) := by decide +kernel
theorem dX11_loud_22 : decode cX11_loud 22 = .ok (.iconst 0, 1) := by decide +kernel
theorem dX11_loud_23 : decode cX11_loud 23 = .ok (.istore 4, 2) := by decide +kernel
theorem dX11_loud_25 : decode cX11_loud 25 = .ok (.iload 4, 2) := by decide +kernel
theorem dX11_loud_27 : decode cX11_loud 27 = .ok (.aload_n 0, 1) := by decide +kernel
theorem dX11_loud_28 : decode cX11_loud 28 = .ok (.invokevirtual 95, 3) := by decide +kernel
theorem dX11_loud_31 : decode cX11_loud 31 = .ok (.if_icmp .ge 35, 3) := by decide +kernel
theorem dX11_loud_34 : decode cX11_loud 34 = .ok (.aload_n 0, 1) := by decide +kernel
theorem dX11_loud_35 : decode cX11_loud 35 = .ok (.iload_n 1, 1) := by decide +kernel
theorem dX11_loud_36 : decode cX11_loud 36 = .ok (.iconst 1, 1) := by decide +kernel
theorem dX11_loud_37 : decode cX11_loud 37 = .ok (.iload 4, 2) := by decide +kernel
theorem dX11_loud_39 : decode cX11_loud 39 = .ok (.ishl, 1) := by decide +kernel
theorem dX11_loud_40 : decode cX11_loud 40 = .ok (.invokevirtual 376, 3) := by decide +kernel
theorem dX11_loud_43 : decode cX11_loud 43 = .ok (.istore 5, 2) := by decide +kernel
theorem dX11_loud_45 : decode cX11_loud 45 = .ok (.iload 5, 2) := by decide +kernel
theorem dX11_loud_47 : decode cX11_loud 47 = .ok (.iload_n 3, 1) := by decide +kernel
theorem dX11_loud_48 : decode cX11_loud 48 = .ok (.if_icmp .gt 6, 3) := by decide +kernel
theorem dX11_loud_51 : decode cX11_loud 51 = .ok (.goto 9, 3) := by decide +kernel
theorem dX11_loud_54 : decode cX11_loud 54 = .ok (.iload 5, 2) := by decide +kernel
theorem dX11_loud_56 : decode cX11_loud 56 = .ok (.istore_n 3, 1) := by decide +kernel
theorem dX11_loud_57 : decode cX11_loud 57 = .ok (.iload 4, 2) := by decide +kernel
theorem dX11_loud_59 : decode cX11_loud 59 = .ok (.istore_n 2, 1) := by decide +kernel
theorem dX11_loud_60 : decode cX11_loud 60 = .ok (.iinc 4 1, 3) := by decide +kernel
theorem dX11_loud_63 : decode cX11_loud 63 = .ok (.goto (-38), 3) := by decide +kernel
theorem dX11_loud_66 : decode cX11_loud 66 = .ok (.iload_n 2, 1) := by decide +kernel
theorem dX11_loud_67 : decode cX11_loud 67 = .ok (.ireturn, 1) := by decide +kernel
theorem dX11_firm_0 : decode cX11_firm 0 = .ok (.aload_n 0, 1) := by decide +kernel
theorem dX11_firm_1 : decode cX11_firm 1 = .ok (.invokevirtual 315, 3) := by decide +kernel
theorem dX11_firm_4 : decode cX11_firm 4 = .ok (.ifCond .eq 11, 3) := by decide +kernel
theorem dX11_firm_7 : decode cX11_firm 7 = .ok (.iload_n 1, 1) := by decide +kernel
theorem dX11_firm_8 : decode cX11_firm 8 = .ok (.i2l, 1) := by decide +kernel
theorem dX11_firm_9 : decode cX11_firm 9 = .ok (.invokestatic 348, 3) := by decide +kernel
theorem dX11_firm_12 : decode cX11_firm 12 = .ok (.ifCond .ne 6, 3) := by decide +kernel
theorem dX11_firm_15 : decode cX11_firm 15 = .ok (.bipush (-2), 2) := by decide +kernel
theorem dX11_firm_17 : decode cX11_firm 17 = .ok (.ireturn, 1) := by decide +kernel
theorem dX11_firm_18 : decode cX11_firm 18 = .ok (.iconst 0, 1) := by decide +kernel
theorem dX11_firm_19 : decode cX11_firm 19 = .ok (.istore_n 2, 1) := by decide +kernel
theorem dX11_firm_20 : decode cX11_firm 20 = .ok (.iconst 0, 1) := by decide +kernel
theorem dX11_firm_21 : decode cX11_firm 21 = .ok (.istore_n 3, 1) := by decide +kernel
theorem dX11_firm_22 : decode cX11_firm 22 = .ok (.iload_n 3, 1) := by decide +kernel
theorem dX11_firm_23 : decode cX11_firm 23 = .ok (.aload_n 0, 1) := by decide +kernel
theorem dX11_firm_24 : decode cX11_firm 24 = .ok (.invokevirtual 95, 3) := by decide +kernel
theorem dX11_firm_27 : decode cX11_firm 27 = .ok (.if_icmp .ge 48, 3) := by decide +kernel
theorem dX11_firm_30 : decode cX11_firm 30 = .ok (.aload_n 0, 1) := by decide +kernel
theorem dX11_firm_31 : decode cX11_firm 31 = .ok (.iload_n 1, 1) := by decide +kernel
theorem dX11_firm_32 : decode cX11_firm 32 = .ok (.aload_n 0, 1) := by decide +kernel
theorem dX11_firm_33 : decode cX11_firm 33 = .ok (.invokevirtual 321, 3) := by decide +kernel
theorem dX11_firm_36 : decode cX11_firm 36 = .ok (.iconst 1, 1) := by decide +kernel
theorem dX11_firm_37 : decode cX11_firm 37 = .ok (.iload_n 3, 1) := by decide +kernel
theorem dX11_firm_38 : decode cX11_firm 38 = .ok (.ishl, 1) := by decide +kernel
theorem dX11_firm_39 : decode cX11_firm 39 = .ok (.iconst (-1), 1) := by decide +kernel
theorem dX11_firm_40 : decode cX11_firm 40 = .ok (.ixor, 1) := by decide +kernel
theorem dX11_firm_41 : decode cX11_firm 41 = .ok (.iand, 1) := by decide +kernel
theorem dX11_firm_42 : decode cX11_firm 42 = .ok (.invokevirtual 376, 3) := by decide +kernel
theorem dX11_firm_45 : decode cX11_firm 45 = .ok (.pop, 1) := by decide +kernel
theorem dX11_firm_46 : decode cX11_firm 46 = .ok (.iload_n 2, 1) := by decide +kernel
theorem dX11_firm_47 : decode cX11_firm 47 = .ok (.aload_n 0, 1) := by decide +kernel
theorem dX11_firm_48 : decode cX11_firm 48 = .ok (.iload_n 1, 1) := by decide +kernel
theorem dX11_firm_49 : decode cX11_firm 49 = .ok (.invokevirtual 373, 3) := by decide +kernel
theorem dX11_firm_52 : decode cX11_firm 52 = .ok (.iload_n 3, 1) := by decide +kernel
theorem dX11_firm_53 : decode cX11_firm 53 = .ok (.invokestatic 274, 3) := by decide +kernel
theorem dX11_firm_56 : decode cX11_firm 56 = .ok (.iconst 1, 1) := by decide +kernel
theorem dX11_firm_57 : decode cX11_firm 57 = .ok (.if_icmp .ne 7, 3) := by decide +kernel
theorem dX11_firm_60 : decode cX11_firm 60 = .ok (.iconst 0, 1) := by decide +kernel
theorem dX11_firm_61 : decode cX11_firm 61 = .ok (.goto 6, 3) := by decide +kernel
theorem dX11_firm_64 : decode cX11_firm 64 = .ok (.iconst 1, 1) := by decide +kernel
theorem dX11_firm_65 : decode cX11_firm 65 = .ok (.iload_n 3, 1) := by decide +kernel
theorem dX11_firm_66 : decode cX11_firm 66 = .ok (.ishl, 1) := by decide +kernel
theorem dX11_firm_67 : decode cX11_firm 67 = .ok (.ior, 1) := by decide +kernel
theorem dX11_firm_68 : decode cX11_firm 68 = .ok (.istore_n 2, 1) := by decide +kernel
theorem dX11_firm_69 : decode cX11_firm 69 = .ok (.iinc 3 1, 3) := by decide +kernel
theorem dX11_firm_72 : decode cX11_firm 72 = .ok (.goto (-50), 3) := by decide +kernel
theorem dX11_firm_75 : decode cX11_firm 75 = .ok (.iload_n 2, 1) := by decide +kernel
theorem dX11_firm_76 : decode cX11_firm 76 = .ok (.ireturn, 1) := by decide +kernel
theorem dX11_share_0 : decode cX11_share 0 = .ok (.aload_n 0, 1) := by decide +kernel
theorem dX11_share_1 : decode cX11_share 1 = .ok (.iload_n 1, 1) := by decide +kernel
theorem dX11_share_2 : decode cX11_share 2 = .ok (.invokevirtual 342, 3) := by decide +kernel
theorem dX11_share_5 : decode cX11_share 5 = .ok (.ifCond .eq 21, 3) := by decide +kernel
theorem dX11_share_8 : decode cX11_share 8 = .ok (.iload_n 2, 1) := by decide +kernel
theorem dX11_share_9 : decode cX11_share 9 = .ok (.i2l, 1) := by decide +kernel
theorem dX11_share_10 : decode cX11_share 10 = .ok (.invokestatic 348, 3) := by decide +kernel
theorem dX11_share_13 : decode cX11_share 13 = .ok (.ifCond .eq 13, 3) := by decide +kernel
theorem dX11_share_16 : decode cX11_share 16 = .ok (.iload_n 3, 1) := by decide +kernel
theorem dX11_share_17 : decode cX11_share 17 = .ok (.i2l, 1) := by decide +kernel
theorem dX11_share_18 : decode cX11_share 18 = .ok (.lconst 0, 1) := by decide +kernel
theorem dX11_share_19 : decode cX11_share 19 = .ok (.lconst 1, 1) := by decide +kernel
theorem dX11_share_20 : decode cX11_share 20 = .ok (.invokestatic 91, 3) := by decide +kernel
theorem dX11_share_23 : decode cX11_share 23 = .ok (.ifCond .ne 7, 3) := by decide +kernel
theorem dX11_share_26 : decode cX11_share 26 = .ok (.ldc2_w 389, 3) := by decide +kernel
theorem dX11_share_29 : decode cX11_share 29 = .ok (.lreturn, 1) := by decide +kernel
theorem dX11_share_30 : decode cX11_share 30 = .ok (.aload_n 0, 1) := by decide +kernel
theorem dX11_share_31 : decode cX11_share 31 = .ok (.invokevirtual 95, 3) := by decide +kernel
theorem dX11_share_34 : decode cX11_share 34 = .ok (.istore 4, 2) := by decide +kernel
theorem dX11_share_36 : decode cX11_share 36 = .ok (.iload 4, 2) := by decide +kernel
theorem dX11_share_38 : decode cX11_share 38 = .ok (.bipush 8, 2) := by decide +kernel
theorem dX11_share_40 : decode cX11_share 40 = .ok (.if_icmp .le 7, 3) := by decide +kernel
theorem dX11_share_43 : decode cX11_share 43 = .ok (.ldc2_w 391, 3) := by decide +kernel
theorem dX11_share_46 : decode cX11_share 46 = .ok (.lreturn, 1) := by decide +kernel
theorem dX11_share_47 : decode cX11_share 47 = .ok (.iconst 0, 1) := by decide +kernel
theorem dX11_share_48 : decode cX11_share 48 = .ok (.istore 5, 2) := by decide +kernel
theorem dX11_share_50 : decode cX11_share 50 = .ok (.iload 5, 2) := by decide +kernel
theorem dX11_share_52 : decode cX11_share 52 = .ok (.iconst 1, 1) := by decide +kernel
theorem dX11_share_53 : decode cX11_share 53 = .ok (.iload 4, 2) := by decide +kernel
theorem dX11_share_55 : decode cX11_share 55 = .ok (.ishl, 1) := by decide +kernel
theorem dX11_share_56 : decode cX11_share 56 = .ok (.if_icmp .ge 23, 3) := by decide +kernel
theorem dX11_share_59 : decode cX11_share 59 = .ok (.aload_n 0, 1) := by decide +kernel
theorem dX11_share_60 : decode cX11_share 60 = .ok (.getfield 67, 3) := by decide +kernel
theorem dX11_share_63 : decode cX11_share 63 = .ok (.iload 5, 2) := by decide +kernel
theorem dX11_share_65 : decode cX11_share 65 = .ok (.aload_n 0, 1) := by decide +kernel
theorem dX11_share_66 : decode cX11_share 66 = .ok (.iload_n 2, 1) := by decide +kernel
theorem dX11_share_67 : decode cX11_share 67 = .ok (.iload 5, 2) := by decide +kernel
theorem dX11_share_69 : decode cX11_share 69 = .ok (.invokevirtual 376, 3) := by decide +kernel
theorem dX11_share_72 : decode cX11_share 72 = .ok (.iastore, 1) := by decide +kernel
theorem dX11_share_73 : decode cX11_share 73 = .ok (.iinc 5 1, 3) := by decide +kernel
theorem dX11_share_76 : decode cX11_share 76 = .ok (.goto (-26), 3) := by decide +kernel
theorem dX11_share_79 : decode cX11_share 79 = .ok (.lconst 0, 1) := by decide +kernel
theorem dX11_share_80 : decode cX11_share 80 = .ok (.lstore 5, 2) := by decide +kernel
theorem dX11_share_82 : decode cX11_share 82 = .ok (.iconst 0, 1) := by decide +kernel
theorem dX11_share_83 : decode cX11_share 83 = .ok (.istore 7, 2) := by decide +kernel
theorem dX11_share_85 : decode cX11_share 85 = .ok (.iload 7, 2) := by decide +kernel
theorem dX11_share_87 : decode cX11_share 87 = .ok (.iconst 1, 1) := by decide +kernel
theorem dX11_share_88 : decode cX11_share 88 = .ok (.iload 4, 2) := by decide +kernel
theorem dX11_share_90 : decode cX11_share 90 = .ok (.ishl, 1) := by decide +kernel
theorem dX11_share_91 : decode cX11_share 91 = .ok (.if_icmp .ge 66, 3) := by decide +kernel
theorem dX11_share_94 : decode cX11_share 94 = .ok (.iload 7, 2) := by decide +kernel
theorem dX11_share_96 : decode cX11_share 96 = .ok (.iload_n 1, 1) := by decide +kernel
theorem dX11_share_97 : decode cX11_share 97 = .ok (.invokestatic 274, 3) := by decide +kernel
theorem dX11_share_100 : decode cX11_share 100 = .ok (.ifCond .ne 51, 3) := by decide +kernel
theorem dX11_share_103 : decode cX11_share 103 = .ok (.lload 5, 2) := by decide +kernel
theorem dX11_share_105 : decode cX11_share 105 = .ok (.iload 7, 2) := by decide +kernel
theorem dX11_share_107 : decode cX11_share 107 = .ok (.invokestatic 296, 3) := by decide +kernel
theorem dX11_share_110 : decode cX11_share 110 = .ok (.invokestatic 393, 3) := by decide +kernel
theorem dX11_share_113 : decode cX11_share 113 = .ok (.iload 4, 2) := by decide +kernel
theorem dX11_share_115 : decode cX11_share 115 = .ok (.iconst 1, 1) := by decide +kernel
theorem dX11_share_116 : decode cX11_share 116 = .ok (.isub, 1) := by decide +kernel
theorem dX11_share_117 : decode cX11_share 117 = .ok (.iload 7, 2) := by decide +kernel
theorem dX11_share_119 : decode cX11_share 119 = .ok (.invokestatic 296, 3) := by decide +kernel
theorem dX11_share_122 : decode cX11_share 122 = .ok (.isub, 1) := by decide +kernel
theorem dX11_share_123 : decode cX11_share 123 = .ok (.invokestatic 393, 3) := by decide +kernel
theorem dX11_share_126 : decode cX11_share 126 = .ok (.lmul, 1) := by decide +kernel
theorem dX11_share_127 : decode cX11_share 127 = .ok (.aload_n 0, 1) := by decide +kernel
theorem dX11_share_128 : decode cX11_share 128 = .ok (.getfield 67, 3) := by decide +kernel
theorem dX11_share_131 : decode cX11_share 131 = .ok (.iload 7, 2) := by decide +kernel
theorem dX11_share_133 : decode cX11_share 133 = .ok (.iconst 1, 1) := by decide +kernel
theorem dX11_share_134 : decode cX11_share 134 = .ok (.iload_n 1, 1) := by decide +kernel
theorem dX11_share_135 : decode cX11_share 135 = .ok (.ishl, 1) := by decide +kernel
theorem dX11_share_136 : decode cX11_share 136 = .ok (.ior, 1) := by decide +kernel
theorem dX11_share_137 : decode cX11_share 137 = .ok (.iaload, 1) := by decide +kernel
theorem dX11_share_138 : decode cX11_share 138 = .ok (.aload_n 0, 1) := by decide +kernel
theorem dX11_share_139 : decode cX11_share 139 = .ok (.getfield 67, 3) := by decide +kernel
theorem dX11_share_142 : decode cX11_share 142 = .ok (.iload 7, 2) := by decide +kernel
theorem dX11_share_144 : decode cX11_share 144 = .ok (.iaload, 1) := by decide +kernel
theorem dX11_share_145 : decode cX11_share 145 = .ok (.isub, 1) := by decide +kernel
theorem dX11_share_146 : decode cX11_share 146 = .ok (.i2l, 1) := by decide +kernel
theorem dX11_share_147 : decode cX11_share 147 = .ok (.lmul, 1) := by decide +kernel
theorem dX11_share_148 : decode cX11_share 148 = .ok (.ladd, 1) := by decide +kernel
theorem dX11_share_149 : decode cX11_share 149 = .ok (.lstore 5, 2) := by decide +kernel
theorem dX11_share_151 : decode cX11_share 151 = .ok (.iinc 7 1, 3) := by decide +kernel
theorem dX11_share_154 : decode cX11_share 154 = .ok (.goto (-69), 3) := by decide +kernel
theorem dX11_share_157 : decode cX11_share 157 = .ok (.lload 5, 2) := by decide +kernel
theorem dX11_share_159 : decode cX11_share 159 = .ok (.iload 4, 2) := by decide +kernel
theorem dX11_share_161 : decode cX11_share 161 = .ok (.invokestatic 393, 3) := by decide +kernel
theorem dX11_share_164 : decode cX11_share 164 = .ok (.iload_n 3, 1) := by decide +kernel
theorem dX11_share_165 : decode cX11_share 165 = .ok (.invokestatic 397, 3) := by decide +kernel
theorem dX11_share_168 : decode cX11_share 168 = .ok (.lreturn, 1) := by decide +kernel
theorem dX11_sample_0 : decode cX11_sample 0 = .ok (.aload_n 0, 1) := by decide +kernel
theorem dX11_sample_1 : decode cX11_sample 1 = .ok (.iload_n 1, 1) := by decide +kernel
theorem dX11_sample_2 : decode cX11_sample 2 = .ok (.invokevirtual 330, 3) := by decide +kernel
theorem dX11_sample_5 : decode cX11_sample 5 = .ok (.ifCond .eq 31, 3) := by decide +kernel
theorem dX11_sample_8 : decode cX11_sample 8 = .ok (.iload_n 2, 1) := by decide +kernel
theorem dX11_sample_9 : decode cX11_sample 9 = .ok (.i2l, 1) := by decide +kernel
theorem dX11_sample_10 : decode cX11_sample 10 = .ok (.lconst 1, 1) := by decide +kernel
theorem dX11_sample_11 : decode cX11_sample 11 = .ok (.aload_n 0, 1) := by decide +kernel
theorem dX11_sample_12 : decode cX11_sample 12 = .ok (.iload_n 1, 1) := by decide +kernel
theorem dX11_sample_13 : decode cX11_sample 13 = .ok (.invokevirtual 324, 3) := by decide +kernel
theorem dX11_sample_16 : decode cX11_sample 16 = .ok (.invokestatic 296, 3) := by decide +kernel
theorem dX11_sample_19 : decode cX11_sample 19 = .ok (.i2l, 1) := by decide +kernel
theorem dX11_sample_20 : decode cX11_sample 20 = .ok (.invokestatic 91, 3) := by decide +kernel
theorem dX11_sample_23 : decode cX11_sample 23 = .ok (.ifCond .eq 13, 3) := by decide +kernel
theorem dX11_sample_26 : decode cX11_sample 26 = .ok (.iload_n 3, 1) := by decide +kernel
theorem dX11_sample_27 : decode cX11_sample 27 = .ok (.i2l, 1) := by decide +kernel
theorem dX11_sample_28 : decode cX11_sample 28 = .ok (.lconst 0, 1) := by decide +kernel
theorem dX11_sample_29 : decode cX11_sample 29 = .ok (.lconst 1, 1) := by decide +kernel
theorem dX11_sample_30 : decode cX11_sample 30 = .ok (.invokestatic 91, 3) := by decide +kernel
theorem dX11_sample_33 : decode cX11_sample 33 = .ok (.ifCond .ne 7, 3) := by decide +kernel
theorem dX11_sample_36 : decode cX11_sample 36 = .ok (.ldc2_w 389, 3) := by decide +kernel
theorem dX11_sample_39 : decode cX11_sample 39 = .ok (.lreturn, 1) := by decide +kernel
theorem dX11_sample_40 : decode cX11_sample 40 = .ok (.aload_n 0, 1) := by decide +kernel
theorem dX11_sample_41 : decode cX11_sample 41 = .ok (.iload_n 1, 1) := by decide +kernel
theorem dX11_sample_42 : decode cX11_sample 42 = .ok (.iload_n 2, 1) := by decide +kernel
theorem dX11_sample_43 : decode cX11_sample 43 = .ok (.invokevirtual 412, 3) := by decide +kernel
theorem dX11_sample_46 : decode cX11_sample 46 = .ok (.aload_n 0, 1) := by decide +kernel
theorem dX11_sample_47 : decode cX11_sample 47 = .ok (.getfield 401, 3) := by decide +kernel
theorem dX11_sample_50 : decode cX11_sample 50 = .ok (.aload_n 0, 1) := by decide +kernel
theorem dX11_sample_51 : decode cX11_sample 51 = .ok (.getfield 409, 3) := by decide +kernel
theorem dX11_sample_54 : decode cX11_sample 54 = .ok (.iload_n 3, 1) := by decide +kernel
theorem dX11_sample_55 : decode cX11_sample 55 = .ok (.invokestatic 397, 3) := by decide +kernel
theorem dX11_sample_58 : decode cX11_sample 58 = .ok (.lreturn, 1) := by decide +kernel
theorem dX11_sure_0 : decode cX11_sure 0 = .ok (.aload_n 0, 1) := by decide +kernel
theorem dX11_sure_1 : decode cX11_sure 1 = .ok (.iload_n 1, 1) := by decide +kernel
theorem dX11_sure_2 : decode cX11_sure 2 = .ok (.invokevirtual 330, 3) := by decide +kernel
theorem dX11_sure_5 : decode cX11_sure 5 = .ok (.ifCond .ne 6, 3) := by decide +kernel
theorem dX11_sure_8 : decode cX11_sure 8 = .ok (.bipush (-2), 2) := by decide +kernel
theorem dX11_sure_10 : decode cX11_sure 10 = .ok (.ireturn, 1) := by decide +kernel
theorem dX11_sure_11 : decode cX11_sure 11 = .ok (.iconst 1, 1) := by decide +kernel
theorem dX11_sure_12 : decode cX11_sure 12 = .ok (.istore_n 2, 1) := by decide +kernel
theorem dX11_sure_13 : decode cX11_sure 13 = .ok (.iload_n 2, 1) := by decide +kernel
theorem dX11_sure_14 : decode cX11_sure 14 = .ok (.aload_n 0, 1) := by decide +kernel
theorem dX11_sure_15 : decode cX11_sure 15 = .ok (.iload_n 1, 1) := by decide +kernel
theorem dX11_sure_16 : decode cX11_sure 16 = .ok (.invokevirtual 324, 3) := by decide +kernel
theorem dX11_sure_19 : decode cX11_sure 19 = .ok (.invokestatic 296, 3) := by decide +kernel
theorem dX11_sure_22 : decode cX11_sure 22 = .ok (.if_icmp .gt 33, 3) := by decide +kernel
theorem dX11_sure_25 : decode cX11_sure 25 = .ok (.aload_n 0, 1) := by decide +kernel
theorem dX11_sure_26 : decode cX11_sure 26 = .ok (.iload_n 1, 1) := by decide +kernel
theorem dX11_sure_27 : decode cX11_sure 27 = .ok (.iload_n 2, 1) := by decide +kernel
theorem dX11_sure_28 : decode cX11_sure 28 = .ok (.invokevirtual 412, 3) := by decide +kernel
theorem dX11_sure_31 : decode cX11_sure 31 = .ok (.ldc2_w 89, 3) := by decide +kernel
theorem dX11_sure_34 : decode cX11_sure 34 = .ok (.aload_n 0, 1) := by decide +kernel
theorem dX11_sure_35 : decode cX11_sure 35 = .ok (.getfield 401, 3) := by decide +kernel
theorem dX11_sure_38 : decode cX11_sure 38 = .ok (.lmul, 1) := by decide +kernel
theorem dX11_sure_39 : decode cX11_sure 39 = .ok (.aload_n 0, 1) := by decide +kernel
theorem dX11_sure_40 : decode cX11_sure 40 = .ok (.getfield 409, 3) := by decide +kernel
theorem dX11_sure_43 : decode cX11_sure 43 = .ok (.lcmp, 1) := by decide +kernel
theorem dX11_sure_44 : decode cX11_sure 44 = .ok (.ifCond .lt 5, 3) := by decide +kernel
theorem dX11_sure_47 : decode cX11_sure 47 = .ok (.iload_n 2, 1) := by decide +kernel
theorem dX11_sure_48 : decode cX11_sure 48 = .ok (.ireturn, 1) := by decide +kernel
theorem dX11_sure_49 : decode cX11_sure 49 = .ok (.iinc 2 1, 3) := by decide +kernel
theorem dX11_sure_52 : decode cX11_sure 52 = .ok (.goto (-39), 3) := by decide +kernel
theorem dX11_sure_55 : decode cX11_sure 55 = .ok (.iconst (-1), 1) := by decide +kernel
theorem dX11_sure_56 : decode cX11_sure 56 = .ok (.ireturn, 1) := by decide +kernel
theorem dX11_worth_0 : decode cX11_worth 0 = .ok (.aload_n 0, 1) := by decide +kernel
theorem dX11_worth_1 : decode cX11_worth 1 = .ok (.invokevirtual 309, 3) := by decide +kernel
theorem dX11_worth_4 : decode cX11_worth 4 = .ok (.aload_n 0, 1) := by decide +kernel
theorem dX11_worth_5 : decode cX11_worth 5 = .ok (.invokevirtual 95, 3) := by decide +kernel
theorem dX11_worth_8 : decode cX11_worth 8 = .ok (.ifCond .ne 7, 3) := by decide +kernel
theorem dX11_worth_11 : decode cX11_worth 11 = .ok (.sipush (-1000), 3) := by decide +kernel
theorem dX11_worth_14 : decode cX11_worth 14 = .ok (.ireturn, 1) := by decide +kernel
theorem dX11_worth_15 : decode cX11_worth 15 = .ok (.aload_n 0, 1) := by decide +kernel
theorem dX11_worth_16 : decode cX11_worth 16 = .ok (.invokevirtual 422, 3) := by decide +kernel
theorem dX11_worth_19 : decode cX11_worth 19 = .ok (.istore_n 1, 1) := by decide +kernel
theorem dX11_worth_20 : decode cX11_worth 20 = .ok (.aload_n 0, 1) := by decide +kernel
theorem dX11_worth_21 : decode cX11_worth 21 = .ok (.iload_n 1, 1) := by decide +kernel
theorem dX11_worth_22 : decode cX11_worth 22 = .ok (.aload_n 0, 1) := by decide +kernel
theorem dX11_worth_23 : decode cX11_worth 23 = .ok (.iload_n 1, 1) := by decide +kernel
theorem dX11_worth_24 : decode cX11_worth 24 = .ok (.invokevirtual 419, 3) := by decide +kernel
theorem dX11_worth_27 : decode cX11_worth 27 = .ok (.invokevirtual 415, 3) := by decide +kernel
theorem dX11_worth_30 : decode cX11_worth 30 = .ok (.ireturn, 1) := by decide +kernel
theorem dX11_opens_0 : decode cX11_opens 0 = .ok (.aload_n 0, 1) := by decide +kernel
theorem dX11_opens_1 : decode cX11_opens 1 = .ok (.invokevirtual 309, 3) := by decide +kernel
theorem dX11_opens_4 : decode cX11_opens 4 = .ok (.aload_n 0, 1) := by decide +kernel
theorem dX11_opens_5 : decode cX11_opens 5 = .ok (.invokevirtual 99, 3) := by decide +kernel
theorem dX11_opens_8 : decode cX11_opens 8 = .ok (.ifCond .eq 10, 3) := by decide +kernel
theorem dX11_opens_11 : decode cX11_opens 11 = .ok (.aload_n 0, 1) := by decide +kernel
theorem dX11_opens_12 : decode cX11_opens 12 = .ok (.invokevirtual 422, 3) := by decide +kernel
theorem dX11_opens_15 : decode cX11_opens 15 = .ok (.goto 5, 3) := by decide +kernel
theorem dX11_opens_18 : decode cX11_opens 18 = .ok (.bipush (-2), 2) := by decide +kernel
theorem dX11_opens_20 : decode cX11_opens 20 = .ok (.ireturn, 1) := by decide +kernel
theorem dX11_replies_0 : decode cX11_replies 0 = .ok (.aload_n 0, 1) := by decide +kernel
theorem dX11_replies_1 : decode cX11_replies 1 = .ok (.invokevirtual 309, 3) := by decide +kernel
theorem dX11_replies_4 : decode cX11_replies 4 = .ok (.aload_n 0, 1) := by decide +kernel
theorem dX11_replies_5 : decode cX11_replies 5 = .ok (.iload_n 1, 1) := by decide +kernel
theorem dX11_replies_6 : decode cX11_replies 6 = .ok (.i2l, 1) := by decide +kernel
theorem dX11_replies_7 : decode cX11_replies 7 = .ok (.invokevirtual 237, 3) := by decide +kernel
theorem dX11_replies_10 : decode cX11_replies 10 = .ok (.ifCond .eq 11, 3) := by decide +kernel
theorem dX11_replies_13 : decode cX11_replies 13 = .ok (.aload_n 0, 1) := by decide +kernel
theorem dX11_replies_14 : decode cX11_replies 14 = .ok (.iload_n 1, 1) := by decide +kernel
theorem dX11_replies_15 : decode cX11_replies 15 = .ok (.invokevirtual 419, 3) := by decide +kernel
theorem dX11_replies_18 : decode cX11_replies 18 = .ok (.goto 5, 3) := by decide +kernel
theorem dX11_replies_21 : decode cX11_replies 21 = .ok (.bipush (-2), 2) := by decide +kernel
theorem dX11_replies_23 : decode cX11_replies 23 = .ok (.ireturn, 1) := by decide +kernel
theorem dX11_whom_0 : decode cX11_whom 0 = .ok (.aload_n 0, 1) := by decide +kernel
theorem dX11_whom_1 : decode cX11_whom 1 = .ok (.iload_n 1, 1) := by decide +kernel
theorem dX11_whom_2 : decode cX11_whom 2 = .ok (.iload_n 2, 1) := by decide +kernel
theorem dX11_whom_3 : decode cX11_whom 3 = .ok (.invokevirtual 440, 3) := by decide +kernel
theorem dX11_whom_6 : decode cX11_whom 6 = .ok (.istore_n 3, 1) := by decide +kernel
theorem dX11_whom_7 : decode cX11_whom 7 = .ok (.iload_n 3, 1) := by decide +kernel
theorem dX11_whom_8 : decode cX11_whom 8 = .ok (.ifCond .ge 7, 3) := by decide +kernel
theorem dX11_whom_11 : decode cX11_whom 11 = .ok (.iload_n 3, 1) := by decide +kernel
theorem dX11_whom_12 : decode cX11_whom 12 = .ok (.goto 9, 3) := by decide +kernel
theorem dX11_whom_15 : decode cX11_whom 15 = .ok (.aload_n 0, 1) := by decide +kernel
theorem dX11_whom_16 : decode cX11_whom 16 = .ok (.iload_n 1, 1) := by decide +kernel
theorem dX11_whom_17 : decode cX11_whom 17 = .ok (.iload_n 2, 1) := by decide +kernel
theorem dX11_whom_18 : decode cX11_whom 18 = .ok (.invokevirtual 443, 3) := by decide +kernel
theorem dX11_whom_21 : decode cX11_whom 21 = .ok (.ireturn, 1) := by decide +kernel
theorem dX11_ask_0 : decode cX11_ask 0 = .ok (.aload_n 0, 1) := by decide +kernel
theorem dX11_ask_1 : decode cX11_ask 1 = .ok (.iload_n 1, 1) := by decide +kernel
theorem dX11_ask_2 : decode cX11_ask 2 = .ok (.iload_n 2, 1) := by decide +kernel
theorem dX11_ask_3 : decode cX11_ask 3 = .ok (.invokevirtual 440, 3) := by decide +kernel
theorem dX11_ask_6 : decode cX11_ask 6 = .ok (.istore_n 3, 1) := by decide +kernel
theorem dX11_ask_7 : decode cX11_ask 7 = .ok (.iload_n 3, 1) := by decide +kernel
theorem dX11_ask_8 : decode cX11_ask 8 = .ok (.ifCond .ge 7, 3) := by decide +kernel
theorem dX11_ask_11 : decode cX11_ask 11 = .ok (.iload_n 3, 1) := by decide +kernel
theorem dX11_ask_12 : decode cX11_ask 12 = .ok (.goto 13, 3) := by decide +kernel
theorem dX11_ask_15 : decode cX11_ask 15 = .ok (.aload_n 0, 1) := by decide +kernel
theorem dX11_ask_16 : decode cX11_ask 16 = .ok (.aload_n 0, 1) := by decide +kernel
theorem dX11_ask_17 : decode cX11_ask 17 = .ok (.iload_n 1, 1) := by decide +kernel
theorem dX11_ask_18 : decode cX11_ask 18 = .ok (.iload_n 2, 1) := by decide +kernel
theorem dX11_ask_19 : decode cX11_ask 19 = .ok (.invokevirtual 443, 3) := by decide +kernel
theorem dX11_ask_22 : decode cX11_ask 22 = .ok (.invokevirtual 452, 3) := by decide +kernel
theorem dX11_ask_25 : decode cX11_ask 25 = .ok (.ireturn, 1) := by decide +kernel
theorem dX11_leaves_0 : decode cX11_leaves 0 = .ok (.aload_n 0, 1) := by decide +kernel
theorem dX11_leaves_1 : decode cX11_leaves 1 = .ok (.iload_n 1, 1) := by decide +kernel
theorem dX11_leaves_2 : decode cX11_leaves 2 = .ok (.iload_n 2, 1) := by decide +kernel
theorem dX11_leaves_3 : decode cX11_leaves 3 = .ok (.invokevirtual 440, 3) := by decide +kernel
theorem dX11_leaves_6 : decode cX11_leaves 6 = .ok (.istore_n 3, 1) := by decide +kernel
theorem dX11_leaves_7 : decode cX11_leaves 7 = .ok (.iload_n 3, 1) := by decide +kernel
theorem dX11_leaves_8 : decode cX11_leaves 8 = .ok (.ifCond .ge 5, 3) := by decide +kernel
theorem dX11_leaves_11 : decode cX11_leaves 11 = .ok (.iload_n 3, 1) := by decide +kernel
theorem dX11_leaves_12 : decode cX11_leaves 12 = .ok (.ireturn, 1) := by decide +kernel
theorem dX11_leaves_13 : decode cX11_leaves 13 = .ok (.aload_n 0, 1) := by decide +kernel
theorem dX11_leaves_14 : decode cX11_leaves 14 = .ok (.aload_n 0, 1) := by decide +kernel
theorem dX11_leaves_15 : decode cX11_leaves 15 = .ok (.iload_n 1, 1) := by decide +kernel
theorem dX11_leaves_16 : decode cX11_leaves 16 = .ok (.iload_n 2, 1) := by decide +kernel
theorem dX11_leaves_17 : decode cX11_leaves 17 = .ok (.invokevirtual 443, 3) := by decide +kernel
theorem dX11_leaves_20 : decode cX11_leaves 20 = .ok (.invokevirtual 452, 3) := by decide +kernel
theorem dX11_leaves_23 : decode cX11_leaves 23 = .ok (.pop, 1) := by decide +kernel
theorem dX11_leaves_24 : decode cX11_leaves 24 = .ok (.aload_n 0, 1) := by decide +kernel
theorem dX11_leaves_25 : decode cX11_leaves 25 = .ok (.getfield 446, 3) := by decide +kernel
theorem dX11_leaves_28 : decode cX11_leaves 28 = .ok (.ireturn, 1) := by decide +kernel
theorem dX11_laws_0 : decode cX11_laws 0 = .ok (.aload_n 0, 1) := by decide +kernel
theorem dX11_laws_1 : decode cX11_laws 1 = .ok (.iload_n 1, 1) := by decide +kernel
theorem dX11_laws_2 : decode cX11_laws 2 = .ok (.invokevirtual 437, 3) := by decide +kernel
theorem dX11_laws_5 : decode cX11_laws 5 = .ok (.istore_n 2, 1) := by decide +kernel
theorem dX11_laws_6 : decode cX11_laws 6 = .ok (.iload_n 2, 1) := by decide +kernel
theorem dX11_laws_7 : decode cX11_laws 7 = .ok (.ifCond .ge 5, 3) := by decide +kernel
theorem dX11_laws_10 : decode cX11_laws 10 = .ok (.iload_n 2, 1) := by decide +kernel
theorem dX11_laws_11 : decode cX11_laws 11 = .ok (.ireturn, 1) := by decide +kernel
theorem dX11_laws_12 : decode cX11_laws 12 = .ok (.iconst 0, 1) := by decide +kernel
theorem dX11_laws_13 : decode cX11_laws 13 = .ok (.istore_n 3, 1) := by decide +kernel
theorem dX11_laws_14 : decode cX11_laws 14 = .ok (.aload_n 0, 1) := by decide +kernel
theorem dX11_laws_15 : decode cX11_laws 15 = .ok (.iconst 0, 1) := by decide +kernel
theorem dX11_laws_16 : decode cX11_laws 16 = .ok (.putfield 261, 3) := by decide +kernel
theorem dX11_laws_19 : decode cX11_laws 19 = .ok (.aload_n 0, 1) := by decide +kernel
theorem dX11_laws_20 : decode cX11_laws 20 = .ok (.getfield 261, 3) := by decide +kernel
theorem dX11_laws_23 : decode cX11_laws 23 = .ok (.iconst 4, 1) := by decide +kernel
theorem dX11_laws_24 : decode cX11_laws 24 = .ok (.if_icmp .ge 37, 3) := by decide +kernel
theorem dX11_laws_27 : decode cX11_laws 27 = .ok (.iload_n 3, 1) := by decide +kernel
theorem dX11_laws_28 : decode cX11_laws 28 = .ok (.aload_n 0, 1) := by decide +kernel
theorem dX11_laws_29 : decode cX11_laws 29 = .ok (.iload_n 1, 1) := by decide +kernel
theorem dX11_laws_30 : decode cX11_laws 30 = .ok (.invokevirtual 431, 3) := by decide +kernel
theorem dX11_laws_33 : decode cX11_laws 33 = .ok (.ifCond .eq 12, 3) := by decide +kernel
theorem dX11_laws_36 : decode cX11_laws 36 = .ok (.iconst 1, 1) := by decide +kernel
theorem dX11_laws_37 : decode cX11_laws 37 = .ok (.aload_n 0, 1) := by decide +kernel
theorem dX11_laws_38 : decode cX11_laws 38 = .ok (.getfield 261, 3) := by decide +kernel
theorem dX11_laws_41 : decode cX11_laws 41 = .ok (.ishl, 1) := by decide +kernel
theorem dX11_laws_42 : decode cX11_laws 42 = .ok (.goto 4, 3) := by decide +kernel
theorem dX11_laws_45 : decode cX11_laws 45 = .ok (.iconst 0, 1) := by decide +kernel
theorem dX11_laws_46 : decode cX11_laws 46 = .ok (.ior, 1) := by decide +kernel
theorem dX11_laws_47 : decode cX11_laws 47 = .ok (.istore_n 3, 1) := by decide +kernel
theorem dX11_laws_48 : decode cX11_laws 48 = .ok (.aload_n 0, 1) := by decide +kernel
theorem dX11_laws_49 : decode cX11_laws 49 = .ok (.dup, 1) := by decide +kernel
theorem dX11_laws_50 : decode cX11_laws 50 = .ok (.getfield 261, 3) := by decide +kernel
theorem dX11_laws_53 : decode cX11_laws 53 = .ok (.iconst 1, 1) := by decide +kernel
theorem dX11_laws_54 : decode cX11_laws 54 = .ok (.iadd, 1) := by decide +kernel
theorem dX11_laws_55 : decode cX11_laws 55 = .ok (.putfield 261, 3) := by decide +kernel
theorem dX11_laws_58 : decode cX11_laws 58 = .ok (.goto (-39), 3) := by decide +kernel
theorem dX11_laws_61 : decode cX11_laws 61 = .ok (.iload_n 3, 1) := by decide +kernel
theorem dX11_laws_62 : decode cX11_laws 62 = .ok (.ireturn, 1) := by decide +kernel
theorem dX11_by_0 : decode cX11_by 0 = .ok (.aload_n 0, 1) := by decide +kernel
theorem dX11_by_1 : decode cX11_by 1 = .ok (.invokevirtual 315, 3) := by decide +kernel
theorem dX11_by_4 : decode cX11_by 4 = .ok (.ifCond .eq 23, 3) := by decide +kernel
theorem dX11_by_7 : decode cX11_by 7 = .ok (.iload_n 1, 1) := by decide +kernel
theorem dX11_by_8 : decode cX11_by 8 = .ok (.i2l, 1) := by decide +kernel
theorem dX11_by_9 : decode cX11_by 9 = .ok (.lconst 0, 1) := by decide +kernel
theorem dX11_by_10 : decode cX11_by 10 = .ok (.ldc2_w 241, 3) := by decide +kernel
theorem dX11_by_13 : decode cX11_by 13 = .ok (.invokestatic 91, 3) := by decide +kernel
theorem dX11_by_16 : decode cX11_by 16 = .ok (.ifCond .eq 11, 3) := by decide +kernel
theorem dX11_by_19 : decode cX11_by 19 = .ok (.aload_n 0, 1) := by decide +kernel
theorem dX11_by_20 : decode cX11_by 20 = .ok (.iload_n 1, 1) := by decide +kernel
theorem dX11_by_21 : decode cX11_by 21 = .ok (.invokevirtual 455, 3) := by decide +kernel
theorem dX11_by_24 : decode cX11_by 24 = .ok (.goto 5, 3) := by decide +kernel
theorem dX11_by_27 : decode cX11_by 27 = .ok (.bipush (-2), 2) := by decide +kernel
theorem dX11_by_29 : decode cX11_by 29 = .ok (.ireturn, 1) := by decide +kernel
theorem dX11_law_0 : decode cX11_law 0 = .ok (.aload_n 0, 1) := by decide +kernel
theorem dX11_law_1 : decode cX11_law 1 = .ok (.invokevirtual 315, 3) := by decide +kernel
theorem dX11_law_4 : decode cX11_law 4 = .ok (.ifCond .ne 6, 3) := by decide +kernel
theorem dX11_law_7 : decode cX11_law 7 = .ok (.bipush (-2), 2) := by decide +kernel
theorem dX11_law_9 : decode cX11_law 9 = .ok (.ireturn, 1) := by decide +kernel
theorem dX11_law_10 : decode cX11_law 10 = .ok (.iconst 0, 1) := by decide +kernel
theorem dX11_law_11 : decode cX11_law 11 = .ok (.istore_n 1, 1) := by decide +kernel
theorem dX11_law_12 : decode cX11_law 12 = .ok (.iconst 1, 1) := by decide +kernel
theorem dX11_law_13 : decode cX11_law 13 = .ok (.istore_n 2, 1) := by decide +kernel
theorem dX11_law_14 : decode cX11_law 14 = .ok (.iload_n 2, 1) := by decide +kernel
theorem dX11_law_15 : decode cX11_law 15 = .ok (.iconst 4, 1) := by decide +kernel
theorem dX11_law_16 : decode cX11_law 16 = .ok (.if_icmp .ge 34, 3) := by decide +kernel
theorem dX11_law_19 : decode cX11_law 19 = .ok (.aload_n 0, 1) := by decide +kernel
theorem dX11_law_20 : decode cX11_law 20 = .ok (.iload_n 2, 1) := by decide +kernel
theorem dX11_law_21 : decode cX11_law 21 = .ok (.invokevirtual 455, 3) := by decide +kernel
theorem dX11_law_24 : decode cX11_law 24 = .ok (.invokestatic 296, 3) := by decide +kernel
theorem dX11_law_27 : decode cX11_law 27 = .ok (.aload_n 0, 1) := by decide +kernel
theorem dX11_law_28 : decode cX11_law 28 = .ok (.iload_n 1, 1) := by decide +kernel
theorem dX11_law_29 : decode cX11_law 29 = .ok (.invokevirtual 455, 3) := by decide +kernel
theorem dX11_law_32 : decode cX11_law 32 = .ok (.invokestatic 296, 3) := by decide +kernel
theorem dX11_law_35 : decode cX11_law 35 = .ok (.if_icmp .le 7, 3) := by decide +kernel
theorem dX11_law_38 : decode cX11_law 38 = .ok (.iload_n 2, 1) := by decide +kernel
theorem dX11_law_39 : decode cX11_law 39 = .ok (.goto 4, 3) := by decide +kernel
theorem dX11_law_42 : decode cX11_law 42 = .ok (.iload_n 1, 1) := by decide +kernel
theorem dX11_law_43 : decode cX11_law 43 = .ok (.istore_n 1, 1) := by decide +kernel
theorem dX11_law_44 : decode cX11_law 44 = .ok (.iinc 2 1, 3) := by decide +kernel
theorem dX11_law_47 : decode cX11_law 47 = .ok (.goto (-33), 3) := by decide +kernel
theorem dX11_law_50 : decode cX11_law 50 = .ok (.iload_n 1, 1) := by decide +kernel
theorem dX11_law_51 : decode cX11_law 51 = .ok (.ireturn, 1) := by decide +kernel
theorem dX11_rests_0 : decode cX11_rests 0 = .ok (.aload_n 0, 1) := by decide +kernel
theorem dX11_rests_1 : decode cX11_rests 1 = .ok (.iload_n 1, 1) := by decide +kernel
theorem dX11_rests_2 : decode cX11_rests 2 = .ok (.iload_n 2, 1) := by decide +kernel
theorem dX11_rests_3 : decode cX11_rests 3 = .ok (.invokevirtual 458, 3) := by decide +kernel
theorem dX11_rests_6 : decode cX11_rests 6 = .ok (.ifCond .ne 6, 3) := by decide +kernel
theorem dX11_rests_9 : decode cX11_rests 9 = .ok (.bipush (-2), 2) := by decide +kernel
theorem dX11_rests_11 : decode cX11_rests 11 = .ok (.ireturn, 1) := by decide +kernel
theorem dX11_rests_12 : decode cX11_rests 12 = .ok (.iconst 0, 1) := by decide +kernel
theorem dX11_rests_13 : decode cX11_rests 13 = .ok (.istore_n 3, 1) := by decide +kernel
theorem dX11_rests_14 : decode cX11_rests 14 = .ok (.iconst 0, 1) := by decide +kernel
theorem dX11_rests_15 : decode cX11_rests 15 = .ok (.istore 4, 2) := by decide +kernel
theorem dX11_rests_17 : decode cX11_rests 17 = .ok (.iload 4, 2) := by decide +kernel
theorem dX11_rests_19 : decode cX11_rests 19 = .ok (.iconst 4, 1) := by decide +kernel
theorem dX11_rests_20 : decode cX11_rests 20 = .ok (.if_icmp .ge 98, 3) := by decide +kernel
theorem dX11_rests_23 : decode cX11_rests 23 = .ok (.iload 4, 2) := by decide +kernel
theorem dX11_rests_25 : decode cX11_rests 25 = .ok (.iconst 1, 1) := by decide +kernel
theorem dX11_rests_26 : decode cX11_rests 26 = .ok (.iand, 1) := by decide +kernel
theorem dX11_rests_27 : decode cX11_rests 27 = .ok (.istore 5, 2) := by decide +kernel
theorem dX11_rests_29 : decode cX11_rests 29 = .ok (.iload 4, 2) := by decide +kernel
theorem dX11_rests_31 : decode cX11_rests 31 = .ok (.iconst 1, 1) := by decide +kernel
theorem dX11_rests_32 : decode cX11_rests 32 = .ok (.ishr, 1) := by decide +kernel
theorem dX11_rests_33 : decode cX11_rests 33 = .ok (.istore 6, 2) := by decide +kernel
theorem dX11_rests_35 : decode cX11_rests 35 = .ok (.aload_n 0, 1) := by decide +kernel
theorem dX11_rests_36 : decode cX11_rests 36 = .ok (.iload_n 1, 1) := by decide +kernel
theorem dX11_rests_37 : decode cX11_rests 37 = .ok (.iload_n 2, 1) := by decide +kernel
theorem dX11_rests_38 : decode cX11_rests 38 = .ok (.iload 5, 2) := by decide +kernel
theorem dX11_rests_40 : decode cX11_rests 40 = .ok (.iload 6, 2) := by decide +kernel
theorem dX11_rests_42 : decode cX11_rests 42 = .ok (.iconst 0, 1) := by decide +kernel
theorem dX11_rests_43 : decode cX11_rests 43 = .ok (.invokevirtual 461, 3) := by decide +kernel
theorem dX11_rests_46 : decode cX11_rests 46 = .ok (.aload_n 0, 1) := by decide +kernel
theorem dX11_rests_47 : decode cX11_rests 47 = .ok (.iload_n 1, 1) := by decide +kernel
theorem dX11_rests_48 : decode cX11_rests 48 = .ok (.iload_n 2, 1) := by decide +kernel
theorem dX11_rests_49 : decode cX11_rests 49 = .ok (.iconst 1, 1) := by decide +kernel
theorem dX11_rests_50 : decode cX11_rests 50 = .ok (.iload 5, 2) := by decide +kernel
theorem dX11_rests_52 : decode cX11_rests 52 = .ok (.isub, 1) := by decide +kernel
theorem dX11_rests_53 : decode cX11_rests 53 = .ok (.iload 6, 2) := by decide +kernel
theorem dX11_rests_55 : decode cX11_rests 55 = .ok (.iconst 0, 1) := by decide +kernel
theorem dX11_rests_56 : decode cX11_rests 56 = .ok (.invokevirtual 461, 3) := by decide +kernel
theorem dX11_rests_59 : decode cX11_rests 59 = .ok (.if_icmp .lt 34, 3) := by decide +kernel
theorem dX11_rests_62 : decode cX11_rests 62 = .ok (.aload_n 0, 1) := by decide +kernel
theorem dX11_rests_63 : decode cX11_rests 63 = .ok (.iload_n 1, 1) := by decide +kernel
theorem dX11_rests_64 : decode cX11_rests 64 = .ok (.iload_n 2, 1) := by decide +kernel
theorem dX11_rests_65 : decode cX11_rests 65 = .ok (.iload 5, 2) := by decide +kernel
theorem dX11_rests_67 : decode cX11_rests 67 = .ok (.iload 6, 2) := by decide +kernel
theorem dX11_rests_69 : decode cX11_rests 69 = .ok (.iconst 1, 1) := by decide +kernel
theorem dX11_rests_70 : decode cX11_rests 70 = .ok (.invokevirtual 461, 3) := by decide +kernel
theorem dX11_rests_73 : decode cX11_rests 73 = .ok (.aload_n 0, 1) := by decide +kernel
theorem dX11_rests_74 : decode cX11_rests 74 = .ok (.iload_n 1, 1) := by decide +kernel
theorem dX11_rests_75 : decode cX11_rests 75 = .ok (.iload_n 2, 1) := by decide +kernel
theorem dX11_rests_76 : decode cX11_rests 76 = .ok (.iload 5, 2) := by decide +kernel
theorem dX11_rests_78 : decode cX11_rests 78 = .ok (.iconst 1, 1) := by decide +kernel
theorem dX11_rests_79 : decode cX11_rests 79 = .ok (.iload 6, 2) := by decide +kernel
theorem dX11_rests_81 : decode cX11_rests 81 = .ok (.isub, 1) := by decide +kernel
theorem dX11_rests_82 : decode cX11_rests 82 = .ok (.iconst 1, 1) := by decide +kernel
theorem dX11_rests_83 : decode cX11_rests 83 = .ok (.invokevirtual 461, 3) := by decide +kernel
theorem dX11_rests_86 : decode cX11_rests 86 = .ok (.if_icmp .lt 7, 3) := by decide +kernel
theorem dX11_rests_89 : decode cX11_rests 89 = .ok (.iconst 1, 1) := by decide +kernel
theorem dX11_rests_90 : decode cX11_rests 90 = .ok (.goto 4, 3) := by decide +kernel
theorem dX11_rests_93 : decode cX11_rests 93 = .ok (.iconst 0, 1) := by decide +kernel
theorem dX11_rests_94 : decode cX11_rests 94 = .ok (.istore 7, 2) := by decide +kernel
theorem dX11_rests_96 : decode cX11_rests 96 = .ok (.iload_n 3, 1) := by decide +kernel
theorem dX11_rests_97 : decode cX11_rests 97 = .ok (.iload 7, 2) := by decide +kernel
theorem dX11_rests_99 : decode cX11_rests 99 = .ok (.ifCond .eq 10, 3) := by decide +kernel
theorem dX11_rests_102 : decode cX11_rests 102 = .ok (.iconst 1, 1) := by decide +kernel
theorem dX11_rests_103 : decode cX11_rests 103 = .ok (.iload 4, 2) := by decide +kernel
theorem dX11_rests_105 : decode cX11_rests 105 = .ok (.ishl, 1) := by decide +kernel
theorem dX11_rests_106 : decode cX11_rests 106 = .ok (.goto 4, 3) := by decide +kernel
theorem dX11_rests_109 : decode cX11_rests 109 = .ok (.iconst 0, 1) := by decide +kernel
theorem dX11_rests_110 : decode cX11_rests 110 = .ok (.ior, 1) := by decide +kernel
theorem dX11_rests_111 : decode cX11_rests 111 = .ok (.istore_n 3, 1) := by decide +kernel
theorem dX11_rests_112 : decode cX11_rests 112 = .ok (.iinc 4 1, 3) := by decide +kernel
theorem dX11_rests_115 : decode cX11_rests 115 = .ok (.goto (-98), 3) := by decide +kernel
theorem dX11_rests_118 : decode cX11_rests 118 = .ok (.iload_n 3, 1) := by decide +kernel
theorem dX11_rests_119 : decode cX11_rests 119 = .ok (.ireturn, 1) := by decide +kernel
theorem dX11_gets_0 : decode cX11_gets 0 = .ok (.aload_n 0, 1) := by decide +kernel
theorem dX11_gets_1 : decode cX11_gets 1 = .ok (.iload_n 1, 1) := by decide +kernel
theorem dX11_gets_2 : decode cX11_gets 2 = .ok (.iload_n 2, 1) := by decide +kernel
theorem dX11_gets_3 : decode cX11_gets 3 = .ok (.invokevirtual 458, 3) := by decide +kernel
theorem dX11_gets_6 : decode cX11_gets 6 = .ok (.ifCond .eq 37, 3) := by decide +kernel
theorem dX11_gets_9 : decode cX11_gets 9 = .ok (.iload_n 3, 1) := by decide +kernel
theorem dX11_gets_10 : decode cX11_gets 10 = .ok (.i2l, 1) := by decide +kernel
theorem dX11_gets_11 : decode cX11_gets 11 = .ok (.lconst 0, 1) := by decide +kernel
theorem dX11_gets_12 : decode cX11_gets 12 = .ok (.lconst 1, 1) := by decide +kernel
theorem dX11_gets_13 : decode cX11_gets 13 = .ok (.invokestatic 91, 3) := by decide +kernel
theorem dX11_gets_16 : decode cX11_gets 16 = .ok (.ifCond .eq 27, 3) := by decide +kernel
theorem dX11_gets_19 : decode cX11_gets 19 = .ok (.iload 4, 2) := by decide +kernel
theorem dX11_gets_21 : decode cX11_gets 21 = .ok (.i2l, 1) := by decide +kernel
theorem dX11_gets_22 : decode cX11_gets 22 = .ok (.lconst 0, 1) := by decide +kernel
theorem dX11_gets_23 : decode cX11_gets 23 = .ok (.lconst 1, 1) := by decide +kernel
theorem dX11_gets_24 : decode cX11_gets 24 = .ok (.invokestatic 91, 3) := by decide +kernel
theorem dX11_gets_27 : decode cX11_gets 27 = .ok (.ifCond .eq 16, 3) := by decide +kernel
theorem dX11_gets_30 : decode cX11_gets 30 = .ok (.aload_n 0, 1) := by decide +kernel
theorem dX11_gets_31 : decode cX11_gets 31 = .ok (.iload_n 1, 1) := by decide +kernel
theorem dX11_gets_32 : decode cX11_gets 32 = .ok (.iload_n 2, 1) := by decide +kernel
theorem dX11_gets_33 : decode cX11_gets 33 = .ok (.iload_n 3, 1) := by decide +kernel
theorem dX11_gets_34 : decode cX11_gets 34 = .ok (.iload 4, 2) := by decide +kernel
theorem dX11_gets_36 : decode cX11_gets 36 = .ok (.iconst 0, 1) := by decide +kernel
theorem dX11_gets_37 : decode cX11_gets 37 = .ok (.invokevirtual 461, 3) := by decide +kernel
theorem dX11_gets_40 : decode cX11_gets 40 = .ok (.goto 6, 3) := by decide +kernel
theorem dX11_gets_43 : decode cX11_gets 43 = .ok (.sipush (-1000), 3) := by decide +kernel
theorem dX11_gets_46 : decode cX11_gets 46 = .ok (.ireturn, 1) := by decide +kernel
theorem dX11_chance_0 : decode cX11_chance 0 = .ok (.aload_n 0, 1) := by decide +kernel
theorem dX11_chance_1 : decode cX11_chance 1 = .ok (.iload_n 1, 1) := by decide +kernel
theorem dX11_chance_2 : decode cX11_chance 2 = .ok (.i2l, 1) := by decide +kernel
theorem dX11_chance_3 : decode cX11_chance 3 = .ok (.invokevirtual 237, 3) := by decide +kernel
theorem dX11_chance_6 : decode cX11_chance 6 = .ok (.ifCond .eq 21, 3) := by decide +kernel
theorem dX11_chance_9 : decode cX11_chance 9 = .ok (.iload_n 2, 1) := by decide +kernel
theorem dX11_chance_10 : decode cX11_chance 10 = .ok (.i2l, 1) := by decide +kernel
theorem dX11_chance_11 : decode cX11_chance 11 = .ok (.invokestatic 336, 3) := by decide +kernel
theorem dX11_chance_14 : decode cX11_chance 14 = .ok (.ifCond .eq 13, 3) := by decide +kernel
theorem dX11_chance_17 : decode cX11_chance 17 = .ok (.aload_n 0, 1) := by decide +kernel
theorem dX11_chance_18 : decode cX11_chance 18 = .ok (.iload_n 3, 1) := by decide +kernel
theorem dX11_chance_19 : decode cX11_chance 19 = .ok (.iload 4, 2) := by decide +kernel
theorem dX11_chance_21 : decode cX11_chance 21 = .ok (.invokevirtual 476, 3) := by decide +kernel
theorem dX11_chance_24 : decode cX11_chance 24 = .ok (.ifCond .ne 7, 3) := by decide +kernel
theorem dX11_chance_27 : decode cX11_chance 27 = .ok (.ldc2_w 389, 3) := by decide +kernel
theorem dX11_chance_30 : decode cX11_chance 30 = .ok (.lreturn, 1) := by decide +kernel
theorem dX11_chance_31 : decode cX11_chance 31 = .ok (.aload_n 0, 1) := by decide +kernel
theorem dX11_chance_32 : decode cX11_chance 32 = .ok (.iload_n 1, 1) := by decide +kernel
theorem dX11_chance_33 : decode cX11_chance 33 = .ok (.iload_n 2, 1) := by decide +kernel
theorem dX11_chance_34 : decode cX11_chance 34 = .ok (.iload_n 3, 1) := by decide +kernel
theorem dX11_chance_35 : decode cX11_chance 35 = .ok (.invokevirtual 479, 3) := by decide +kernel
theorem dX11_chance_38 : decode cX11_chance 38 = .ok (.aload_n 0, 1) := by decide +kernel
theorem dX11_chance_39 : decode cX11_chance 39 = .ok (.getfield 468, 3) := by decide +kernel
theorem dX11_chance_42 : decode cX11_chance 42 = .ok (.aload_n 0, 1) := by decide +kernel
theorem dX11_chance_43 : decode cX11_chance 43 = .ok (.getfield 465, 3) := by decide +kernel
theorem dX11_chance_46 : decode cX11_chance 46 = .ok (.iload 4, 2) := by decide +kernel
theorem dX11_chance_48 : decode cX11_chance 48 = .ok (.invokestatic 397, 3) := by decide +kernel
theorem dX11_chance_51 : decode cX11_chance 51 = .ok (.lreturn, 1) := by decide +kernel
theorem dX11_mean_0 : decode cX11_mean 0 = .ok (.aload_n 0, 1) := by decide +kernel
theorem dX11_mean_1 : decode cX11_mean 1 = .ok (.iload_n 1, 1) := by decide +kernel
theorem dX11_mean_2 : decode cX11_mean 2 = .ok (.iload_n 2, 1) := by decide +kernel
theorem dX11_mean_3 : decode cX11_mean 3 = .ok (.invokevirtual 476, 3) := by decide +kernel
theorem dX11_mean_6 : decode cX11_mean 6 = .ok (.ifCond .ne 7, 3) := by decide +kernel
theorem dX11_mean_9 : decode cX11_mean 9 = .ok (.ldc2_w 389, 3) := by decide +kernel
theorem dX11_mean_12 : decode cX11_mean 12 = .ok (.lreturn, 1) := by decide +kernel
theorem dX11_mean_13 : decode cX11_mean 13 = .ok (.aload_n 0, 1) := by decide +kernel
theorem dX11_mean_14 : decode cX11_mean 14 = .ok (.iconst 0, 1) := by decide +kernel
theorem dX11_mean_15 : decode cX11_mean 15 = .ok (.iconst 0, 1) := by decide +kernel
theorem dX11_mean_16 : decode cX11_mean 16 = .ok (.iload_n 1, 1) := by decide +kernel
theorem dX11_mean_17 : decode cX11_mean 17 = .ok (.invokevirtual 479, 3) := by decide +kernel
theorem dX11_mean_20 : decode cX11_mean 20 = .ok (.aload_n 0, 1) := by decide +kernel
theorem dX11_mean_21 : decode cX11_mean 21 = .ok (.getfield 471, 3) := by decide +kernel
theorem dX11_mean_24 : decode cX11_mean 24 = .ok (.aload_n 0, 1) := by decide +kernel
theorem dX11_mean_25 : decode cX11_mean 25 = .ok (.getfield 465, 3) := by decide +kernel
theorem dX11_mean_28 : decode cX11_mean 28 = .ok (.iload_n 2, 1) := by decide +kernel
theorem dX11_mean_29 : decode cX11_mean 29 = .ok (.invokestatic 397, 3) := by decide +kernel
theorem dX11_mean_32 : decode cX11_mean 32 = .ok (.lreturn, 1) := by decide +kernel
theorem dX11_say_0 : decode cX11_say 0 = .ok (.iload_n 1, 1) := by decide +kernel
theorem dX11_say_1 : decode cX11_say 1 = .ok (.i2l, 1) := by decide +kernel
theorem dX11_say_2 : decode cX11_say 2 = .ok (.invokestatic 348, 3) := by decide +kernel
theorem dX11_say_5 : decode cX11_say 5 = .ok (.ifCond .eq 21, 3) := by decide +kernel
theorem dX11_say_8 : decode cX11_say 8 = .ok (.aload_n 0, 1) := by decide +kernel
theorem dX11_say_9 : decode cX11_say 9 = .ok (.iload_n 2, 1) := by decide +kernel
theorem dX11_say_10 : decode cX11_say 10 = .ok (.i2l, 1) := by decide +kernel
theorem dX11_say_11 : decode cX11_say 11 = .ok (.invokevirtual 237, 3) := by decide +kernel
theorem dX11_say_14 : decode cX11_say 14 = .ok (.ifCond .eq 12, 3) := by decide +kernel
theorem dX11_say_17 : decode cX11_say 17 = .ok (.aload_n 0, 1) := by decide +kernel
theorem dX11_say_18 : decode cX11_say 18 = .ok (.iload_n 3, 1) := by decide +kernel
theorem dX11_say_19 : decode cX11_say 19 = .ok (.i2l, 1) := by decide +kernel
theorem dX11_say_20 : decode cX11_say 20 = .ok (.invokevirtual 318, 3) := by decide +kernel
theorem dX11_say_23 : decode cX11_say 23 = .ok (.ifCond .ne 6, 3) := by decide +kernel
theorem dX11_say_26 : decode cX11_say 26 = .ok (.bipush (-2), 2) := by decide +kernel
theorem dX11_say_28 : decode cX11_say 28 = .ok (.ireturn, 1) := by decide +kernel
theorem dX11_say_29 : decode cX11_say 29 = .ok (.aload_n 0, 1) := by decide +kernel
theorem dX11_say_30 : decode cX11_say 30 = .ok (.sipush 10000, 3) := by decide +kernel
theorem dX11_say_33 : decode cX11_say 33 = .ok (.iload_n 1, 1) := by decide +kernel
theorem dX11_say_34 : decode cX11_say 34 = .ok (.imul, 1) := by decide +kernel
theorem dX11_say_35 : decode cX11_say 35 = .ok (.bipush 100, 2) := by decide +kernel
theorem dX11_say_37 : decode cX11_say 37 = .ok (.iload_n 2, 1) := by decide +kernel
theorem dX11_say_38 : decode cX11_say 38 = .ok (.imul, 1) := by decide +kernel
theorem dX11_say_39 : decode cX11_say 39 = .ok (.iadd, 1) := by decide +kernel
theorem dX11_say_40 : decode cX11_say 40 = .ok (.iload_n 3, 1) := by decide +kernel
theorem dX11_say_41 : decode cX11_say 41 = .ok (.iadd, 1) := by decide +kernel
theorem dX11_say_42 : decode cX11_say 42 = .ok (.invokevirtual 483, 3) := by decide +kernel
theorem dX11_say_45 : decode cX11_say 45 = .ok (.ifCond .eq 14, 3) := by decide +kernel
theorem dX11_say_48 : decode cX11_say 48 = .ok (.aload_n 0, 1) := by decide +kernel
theorem dX11_say_49 : decode cX11_say 49 = .ok (.iload_n 1, 1) := by decide +kernel
theorem dX11_say_50 : decode cX11_say 50 = .ok (.invokevirtual 373, 3) := by decide +kernel
theorem dX11_say_53 : decode cX11_say 53 = .ok (.invokestatic 296, 3) := by decide +kernel
theorem dX11_say_56 : decode cX11_say 56 = .ok (.goto 5, 3) := by decide +kernel
theorem dX11_say_59 : decode cX11_say 59 = .ok (.bipush (-5), 2) := by decide +kernel
theorem dX11_say_61 : decode cX11_say 61 = .ok (.ireturn, 1) := by decide +kernel
theorem dX11_slug_0 : decode cX11_slug 0 = .ok (.aload_n 0, 1) := by decide +kernel
theorem dX11_slug_1 : decode cX11_slug 1 = .ok (.iload_n 1, 1) := by decide +kernel
theorem dX11_slug_2 : decode cX11_slug 2 = .ok (.i2l, 1) := by decide +kernel
theorem dX11_slug_3 : decode cX11_slug 3 = .ok (.invokevirtual 237, 3) := by decide +kernel
theorem dX11_slug_6 : decode cX11_slug 6 = .ok (.ifCond .eq 12, 3) := by decide +kernel
theorem dX11_slug_9 : decode cX11_slug 9 = .ok (.aload_n 0, 1) := by decide +kernel
theorem dX11_slug_10 : decode cX11_slug 10 = .ok (.iload_n 2, 1) := by decide +kernel
theorem dX11_slug_11 : decode cX11_slug 11 = .ok (.i2l, 1) := by decide +kernel
theorem dX11_slug_12 : decode cX11_slug 12 = .ok (.invokevirtual 318, 3) := by decide +kernel
theorem dX11_slug_15 : decode cX11_slug 15 = .ok (.ifCond .ne 6, 3) := by decide +kernel
theorem dX11_slug_18 : decode cX11_slug 18 = .ok (.bipush (-2), 2) := by decide +kernel
theorem dX11_slug_20 : decode cX11_slug 20 = .ok (.ireturn, 1) := by decide +kernel
theorem dX11_slug_21 : decode cX11_slug 21 = .ok (.aload_n 0, 1) := by decide +kernel
theorem dX11_slug_22 : decode cX11_slug 22 = .ok (.bipush 100, 2) := by decide +kernel
theorem dX11_slug_24 : decode cX11_slug 24 = .ok (.iload_n 1, 1) := by decide +kernel
theorem dX11_slug_25 : decode cX11_slug 25 = .ok (.imul, 1) := by decide +kernel
theorem dX11_slug_26 : decode cX11_slug 26 = .ok (.iload_n 2, 1) := by decide +kernel
theorem dX11_slug_27 : decode cX11_slug 27 = .ok (.iadd, 1) := by decide +kernel
theorem dX11_slug_28 : decode cX11_slug 28 = .ok (.invokevirtual 483, 3) := by decide +kernel
theorem dX11_slug_31 : decode cX11_slug 31 = .ok (.ifCond .eq 15, 3) := by decide +kernel
theorem dX11_slug_34 : decode cX11_slug 34 = .ok (.aload_n 0, 1) := by decide +kernel
theorem dX11_slug_35 : decode cX11_slug 35 = .ok (.getfield 58, 3) := by decide +kernel
theorem dX11_slug_38 : decode cX11_slug 38 = .ok (.aload_n 0, 1) := by decide +kernel
theorem dX11_slug_39 : decode cX11_slug 39 = .ok (.invokevirtual 103, 3) := by decide +kernel
theorem dX11_slug_42 : decode cX11_slug 42 = .ok (.iaload, 1) := by decide +kernel
theorem dX11_slug_43 : decode cX11_slug 43 = .ok (.goto 5, 3) := by decide +kernel
theorem dX11_slug_46 : decode cX11_slug 46 = .ok (.bipush (-5), 2) := by decide +kernel
theorem dX11_slug_48 : decode cX11_slug 48 = .ok (.ireturn, 1) := by decide +kernel
theorem dX11_undo_0 : decode cX11_undo 0 = .ok (.aload_n 0, 1) := by decide +kernel
theorem dX11_undo_1 : decode cX11_undo 1 = .ok (.invokevirtual 99, 3) := by decide +kernel
theorem dX11_undo_4 : decode cX11_undo 4 = .ok (.ifCond .ne 6, 3) := by decide +kernel
theorem dX11_undo_7 : decode cX11_undo 7 = .ok (.bipush (-2), 2) := by decide +kernel
theorem dX11_undo_9 : decode cX11_undo 9 = .ok (.ireturn, 1) := by decide +kernel
theorem dX11_undo_10 : decode cX11_undo 10 = .ok (.aload_n 0, 1) := by decide +kernel
theorem dX11_undo_11 : decode cX11_undo 11 = .ok (.getfield 9, 3) := by decide +kernel
theorem dX11_undo_14 : decode cX11_undo 14 = .ok (.bipush 7, 2) := by decide +kernel
theorem dX11_undo_16 : decode cX11_undo 16 = .ok (.iaload, 1) := by decide +kernel
theorem dX11_undo_17 : decode cX11_undo 17 = .ok (.ifCond .ne 6, 3) := by decide +kernel
theorem dX11_undo_20 : decode cX11_undo 20 = .ok (.bipush (-5), 2) := by decide +kernel
theorem dX11_undo_22 : decode cX11_undo 22 = .ok (.ireturn, 1) := by decide +kernel
theorem dX11_undo_23 : decode cX11_undo 23 = .ok (.aload_n 0, 1) := by decide +kernel
theorem dX11_undo_24 : decode cX11_undo 24 = .ok (.getfield 9, 3) := by decide +kernel
theorem dX11_undo_27 : decode cX11_undo 27 = .ok (.bipush 7, 2) := by decide +kernel
theorem dX11_undo_29 : decode cX11_undo 29 = .ok (.dup2, 1) := by decide +kernel
theorem dX11_undo_30 : decode cX11_undo 30 = .ok (.iaload, 1) := by decide +kernel
theorem dX11_undo_31 : decode cX11_undo 31 = .ok (.iconst 1, 1) := by decide +kernel
theorem dX11_undo_32 : decode cX11_undo 32 = .ok (.isub, 1) := by decide +kernel
theorem dX11_undo_33 : decode cX11_undo 33 = .ok (.iastore, 1) := by decide +kernel
theorem dX11_undo_34 : decode cX11_undo 34 = .ok (.aload_n 0, 1) := by decide +kernel
theorem dX11_undo_35 : decode cX11_undo 35 = .ok (.getfield 9, 3) := by decide +kernel
theorem dX11_undo_38 : decode cX11_undo 38 = .ok (.bipush 7, 2) := by decide +kernel
theorem dX11_undo_40 : decode cX11_undo 40 = .ok (.iaload, 1) := by decide +kernel
theorem dX11_undo_41 : decode cX11_undo 41 = .ok (.ireturn, 1) := by decide +kernel
theorem dX11_anew_0 : decode cX11_anew 0 = .ok (.aload_n 0, 1) := by decide +kernel
theorem dX11_anew_1 : decode cX11_anew 1 = .ok (.invokevirtual 99, 3) := by decide +kernel
theorem dX11_anew_4 : decode cX11_anew 4 = .ok (.ifCond .ne 6, 3) := by decide +kernel
theorem dX11_anew_7 : decode cX11_anew 7 = .ok (.bipush (-2), 2) := by decide +kernel
theorem dX11_anew_9 : decode cX11_anew 9 = .ok (.ireturn, 1) := by decide +kernel
theorem dX11_anew_10 : decode cX11_anew 10 = .ok (.aload_n 0, 1) := by decide +kernel
theorem dX11_anew_11 : decode cX11_anew 11 = .ok (.getfield 9, 3) := by decide +kernel
theorem dX11_anew_14 : decode cX11_anew 14 = .ok (.bipush 7, 2) := by decide +kernel
theorem dX11_anew_16 : decode cX11_anew 16 = .ok (.iaload, 1) := by decide +kernel
theorem dX11_anew_17 : decode cX11_anew 17 = .ok (.istore_n 1, 1) := by decide +kernel
theorem dX11_anew_18 : decode cX11_anew 18 = .ok (.aload_n 0, 1) := by decide +kernel
theorem dX11_anew_19 : decode cX11_anew 19 = .ok (.getfield 9, 3) := by decide +kernel
theorem dX11_anew_22 : decode cX11_anew 22 = .ok (.bipush 7, 2) := by decide +kernel
theorem dX11_anew_24 : decode cX11_anew 24 = .ok (.iconst 0, 1) := by decide +kernel
theorem dX11_anew_25 : decode cX11_anew 25 = .ok (.iastore, 1) := by decide +kernel
theorem dX11_anew_26 : decode cX11_anew 26 = .ok (.iload_n 1, 1) := by decide +kernel
theorem dX11_anew_27 : decode cX11_anew 27 = .ok (.ireturn, 1) := by decide +kernel
theorem dX11_drawn_0 : decode cX11_drawn 0 = .ok (.aload_n 0, 1) := by decide +kernel
theorem dX11_drawn_1 : decode cX11_drawn 1 = .ok (.invokevirtual 99, 3) := by decide +kernel
theorem dX11_drawn_4 : decode cX11_drawn 4 = .ok (.ifCond .eq 22, 3) := by decide +kernel
theorem dX11_drawn_7 : decode cX11_drawn 7 = .ok (.iload_n 1, 1) := by decide +kernel
theorem dX11_drawn_8 : decode cX11_drawn 8 = .ok (.invokestatic 498, 3) := by decide +kernel
theorem dX11_drawn_11 : decode cX11_drawn 11 = .ok (.ifCond .eq 15, 3) := by decide +kernel
theorem dX11_drawn_14 : decode cX11_drawn 14 = .ok (.iload_n 2, 1) := by decide +kernel
theorem dX11_drawn_15 : decode cX11_drawn 15 = .ok (.i2l, 1) := by decide +kernel
theorem dX11_drawn_16 : decode cX11_drawn 16 = .ok (.lconst 0, 1) := by decide +kernel
theorem dX11_drawn_17 : decode cX11_drawn 17 = .ok (.ldc2_w 89, 3) := by decide +kernel
theorem dX11_drawn_20 : decode cX11_drawn 20 = .ok (.invokestatic 91, 3) := by decide +kernel
theorem dX11_drawn_23 : decode cX11_drawn 23 = .ok (.ifCond .ne 6, 3) := by decide +kernel
theorem dX11_drawn_26 : decode cX11_drawn 26 = .ok (.bipush (-2), 2) := by decide +kernel
theorem dX11_drawn_28 : decode cX11_drawn 28 = .ok (.ireturn, 1) := by decide +kernel
theorem dX11_drawn_29 : decode cX11_drawn 29 = .ok (.aload_n 0, 1) := by decide +kernel
theorem dX11_drawn_30 : decode cX11_drawn 30 = .ok (.iload_n 1, 1) := by decide +kernel
theorem dX11_drawn_31 : decode cX11_drawn 31 = .ok (.i2l, 1) := by decide +kernel
theorem dX11_drawn_32 : decode cX11_drawn 32 = .ok (.invokevirtual 501, 3) := by decide +kernel
theorem dX11_drawn_35 : decode cX11_drawn 35 = .ok (.iload_n 2, 1) := by decide +kernel
theorem dX11_drawn_36 : decode cX11_drawn 36 = .ok (.ifCond .ne 10, 3) := by decide +kernel
theorem dX11_drawn_39 : decode cX11_drawn 39 = .ok (.aload_n 0, 1) := by decide +kernel
theorem dX11_drawn_40 : decode cX11_drawn 40 = .ok (.getfield 264, 3) := by decide +kernel
theorem dX11_drawn_43 : decode cX11_drawn 43 = .ok (.goto 8, 3) := by decide +kernel
theorem dX11_drawn_46 : decode cX11_drawn 46 = .ok (.aload_n 0, 1) := by decide +kernel
theorem dX11_drawn_47 : decode cX11_drawn 47 = .ok (.iload_n 2, 1) := by decide +kernel
theorem dX11_drawn_48 : decode cX11_drawn 48 = .ok (.invokevirtual 373, 3) := by decide +kernel
theorem dX11_drawn_51 : decode cX11_drawn 51 = .ok (.ireturn, 1) := by decide +kernel
theorem dX11_luck_0 : decode cX11_luck 0 = .ok (.iload_n 1, 1) := by decide +kernel
theorem dX11_luck_1 : decode cX11_luck 1 = .ok (.invokestatic 498, 3) := by decide +kernel
theorem dX11_luck_4 : decode cX11_luck 4 = .ok (.ifCond .eq 33, 3) := by decide +kernel
theorem dX11_luck_7 : decode cX11_luck 7 = .ok (.iload_n 2, 1) := by decide +kernel
theorem dX11_luck_8 : decode cX11_luck 8 = .ok (.i2l, 1) := by decide +kernel
theorem dX11_luck_9 : decode cX11_luck 9 = .ok (.lconst 1, 1) := by decide +kernel
theorem dX11_luck_10 : decode cX11_luck 10 = .ok (.ldc2_w 505, 3) := by decide +kernel
theorem dX11_luck_13 : decode cX11_luck 13 = .ok (.invokestatic 91, 3) := by decide +kernel
theorem dX11_luck_16 : decode cX11_luck 16 = .ok (.ifCond .eq 21, 3) := by decide +kernel
theorem dX11_luck_19 : decode cX11_luck 19 = .ok (.aload_n 0, 1) := by decide +kernel
theorem dX11_luck_20 : decode cX11_luck 20 = .ok (.iload_n 3, 1) := by decide +kernel
theorem dX11_luck_21 : decode cX11_luck 21 = .ok (.i2l, 1) := by decide +kernel
theorem dX11_luck_22 : decode cX11_luck 22 = .ok (.invokevirtual 237, 3) := by decide +kernel
theorem dX11_luck_25 : decode cX11_luck 25 = .ok (.ifCond .eq 12, 3) := by decide +kernel
theorem dX11_luck_28 : decode cX11_luck 28 = .ok (.iload 4, 2) := by decide +kernel
theorem dX11_luck_30 : decode cX11_luck 30 = .ok (.i2l, 1) := by decide +kernel
theorem dX11_luck_31 : decode cX11_luck 31 = .ok (.invokestatic 336, 3) := by decide +kernel
theorem dX11_luck_34 : decode cX11_luck 34 = .ok (.ifCond .ne 6, 3) := by decide +kernel
theorem dX11_luck_37 : decode cX11_luck 37 = .ok (.bipush (-2), 2) := by decide +kernel
theorem dX11_luck_39 : decode cX11_luck 39 = .ok (.ireturn, 1) := by decide +kernel
theorem dX11_luck_40 : decode cX11_luck 40 = .ok (.iconst 0, 1) := by decide +kernel
theorem dX11_luck_41 : decode cX11_luck 41 = .ok (.istore 5, 2) := by decide +kernel
theorem dX11_luck_43 : decode cX11_luck 43 = .ok (.iconst 0, 1) := by decide +kernel
theorem dX11_luck_44 : decode cX11_luck 44 = .ok (.istore 6, 2) := by decide +kernel
theorem dX11_luck_46 : decode cX11_luck 46 = .ok (.iload 6, 2) := by decide +kernel
theorem dX11_luck_48 : decode cX11_luck 48 = .ok (.iload_n 2, 1) := by decide +kernel
theorem dX11_luck_49 : decode cX11_luck 49 = .ok (.if_icmp .ge 43, 3) := by decide +kernel
theorem dX11_luck_52 : decode cX11_luck 52 = .ok (.aload_n 0, 1) := by decide +kernel
theorem dX11_luck_53 : decode cX11_luck 53 = .ok (.iload_n 1, 1) := by decide +kernel
theorem dX11_luck_54 : decode cX11_luck 54 = .ok (.i2l, 1) := by decide +kernel
theorem dX11_luck_55 : decode cX11_luck 55 = .ok (.iload 6, 2) := by decide +kernel
theorem dX11_luck_57 : decode cX11_luck 57 = .ok (.i2l, 1) := by decide +kernel
theorem dX11_luck_58 : decode cX11_luck 58 = .ok (.ladd, 1) := by decide +kernel
theorem dX11_luck_59 : decode cX11_luck 59 = .ok (.invokevirtual 501, 3) := by decide +kernel
theorem dX11_luck_62 : decode cX11_luck 62 = .ok (.iload 5, 2) := by decide +kernel
theorem dX11_luck_64 : decode cX11_luck 64 = .ok (.aload_n 0, 1) := by decide +kernel
theorem dX11_luck_65 : decode cX11_luck 65 = .ok (.iload_n 3, 1) := by decide +kernel
theorem dX11_luck_66 : decode cX11_luck 66 = .ok (.aload_n 0, 1) := by decide +kernel
theorem dX11_luck_67 : decode cX11_luck 67 = .ok (.invokevirtual 103, 3) := by decide +kernel
theorem dX11_luck_70 : decode cX11_luck 70 = .ok (.invokevirtual 333, 3) := by decide +kernel
theorem dX11_luck_73 : decode cX11_luck 73 = .ok (.iload 4, 2) := by decide +kernel
theorem dX11_luck_75 : decode cX11_luck 75 = .ok (.if_icmp .ne 7, 3) := by decide +kernel
theorem dX11_luck_78 : decode cX11_luck 78 = .ok (.iconst 1, 1) := by decide +kernel
theorem dX11_luck_79 : decode cX11_luck 79 = .ok (.goto 4, 3) := by decide +kernel
theorem dX11_luck_82 : decode cX11_luck 82 = .ok (.iconst 0, 1) := by decide +kernel
theorem dX11_luck_83 : decode cX11_luck 83 = .ok (.iadd, 1) := by decide +kernel
theorem dX11_luck_84 : decode cX11_luck 84 = .ok (.istore 5, 2) := by decide +kernel
theorem dX11_luck_86 : decode cX11_luck 86 = .ok (.iinc 6 1, 3) := by decide +kernel
theorem dX11_luck_89 : decode cX11_luck 89 = .ok (.goto (-43), 3) := by decide +kernel
theorem dX11_luck_92 : decode cX11_luck 92 = .ok (.iload 5, 2) := by decide +kernel
theorem dX11_luck_94 : decode cX11_luck 94 = .ok (.ireturn, 1) := by decide +kernel
theorem dX11_rate_0 : decode cX11_rate 0 = .ok (.aload_n 0, 1) := by decide +kernel
theorem dX11_rate_1 : decode cX11_rate 1 = .ok (.iload_n 1, 1) := by decide +kernel
theorem dX11_rate_2 : decode cX11_rate 2 = .ok (.i2l, 1) := by decide +kernel
theorem dX11_rate_3 : decode cX11_rate 3 = .ok (.invokevirtual 237, 3) := by decide +kernel
theorem dX11_rate_6 : decode cX11_rate 6 = .ok (.ifCond .eq 15, 3) := by decide +kernel
theorem dX11_rate_9 : decode cX11_rate 9 = .ok (.iload_n 2, 1) := by decide +kernel
theorem dX11_rate_10 : decode cX11_rate 10 = .ok (.i2l, 1) := by decide +kernel
theorem dX11_rate_11 : decode cX11_rate 11 = .ok (.lconst 1, 1) := by decide +kernel
theorem dX11_rate_12 : decode cX11_rate 12 = .ok (.ldc2_w 507, 3) := by decide +kernel
theorem dX11_rate_15 : decode cX11_rate 15 = .ok (.invokestatic 91, 3) := by decide +kernel
theorem dX11_rate_18 : decode cX11_rate 18 = .ok (.ifCond .ne 6, 3) := by decide +kernel
theorem dX11_rate_21 : decode cX11_rate 21 = .ok (.bipush (-2), 2) := by decide +kernel
theorem dX11_rate_23 : decode cX11_rate 23 = .ok (.ireturn, 1) := by decide +kernel
theorem dX11_rate_24 : decode cX11_rate 24 = .ok (.aload_n 0, 1) := by decide +kernel
theorem dX11_rate_25 : decode cX11_rate 25 = .ok (.getfield 9, 3) := by decide +kernel
theorem dX11_rate_28 : decode cX11_rate 28 = .ok (.bipush 7, 2) := by decide +kernel
theorem dX11_rate_30 : decode cX11_rate 30 = .ok (.iaload, 1) := by decide +kernel
theorem dX11_rate_31 : decode cX11_rate 31 = .ok (.ifCond .le 6, 3) := by decide +kernel
theorem dX11_rate_34 : decode cX11_rate 34 = .ok (.bipush (-5), 2) := by decide +kernel
theorem dX11_rate_36 : decode cX11_rate 36 = .ok (.ireturn, 1) := by decide +kernel
theorem dX11_rate_37 : decode cX11_rate 37 = .ok (.aload_n 0, 1) := by decide +kernel
theorem dX11_rate_38 : decode cX11_rate 38 = .ok (.iload_n 1, 1) := by decide +kernel
theorem dX11_rate_39 : decode cX11_rate 39 = .ok (.invokevirtual 246, 3) := by decide +kernel
theorem dX11_rate_42 : decode cX11_rate 42 = .ok (.istore_n 3, 1) := by decide +kernel
theorem dX11_rate_43 : decode cX11_rate 43 = .ok (.aload_n 0, 1) := by decide +kernel
theorem dX11_rate_44 : decode cX11_rate 44 = .ok (.getfield 9, 3) := by decide +kernel
theorem dX11_rate_47 : decode cX11_rate 47 = .ok (.bipush 13, 2) := by decide +kernel
theorem dX11_rate_49 : decode cX11_rate 49 = .ok (.iconst 2, 1) := by decide +kernel
theorem dX11_rate_50 : decode cX11_rate 50 = .ok (.iload_n 1, 1) := by decide +kernel
theorem dX11_rate_51 : decode cX11_rate 51 = .ok (.imul, 1) := by decide +kernel
theorem dX11_rate_52 : decode cX11_rate 52 = .ok (.iadd, 1) := by decide +kernel
theorem dX11_rate_53 : decode cX11_rate 53 = .ok (.iload_n 2, 1) := by decide +kernel
theorem dX11_rate_54 : decode cX11_rate 54 = .ok (.iastore, 1) := by decide +kernel
theorem dX11_rate_55 : decode cX11_rate 55 = .ok (.iload_n 3, 1) := by decide +kernel
theorem dX11_rate_56 : decode cX11_rate 56 = .ok (.ireturn, 1) := by decide +kernel

set_option maxHeartbeats 4000000 in
set_option maxRecDepth 100000 in
theorem ctX11_head (l : Launch) (D : va_G) (k : Nat → ClassId) (n : Nat → Nat) (p0 : Int32) (p1 : Int32)  : RO l yX11_head cX11_head 3 (some .int) 2 D k [.ref (n 0), .int p0, .int p1] [((n 0), .inr (11, [.int 0, .ref (n 1), .ref (n 2), .ref (n 3), .ref (n 4), .int 0, .ref (n 5), .int 0, .int 0, .int 0, .int 0, .int 0, .int 0, .int (-1), .ref (n 6), .ref (n 7), .ref (n 8), .ref (n 9), .ref (n 10), .ref (n 11), .ref (n 12), .int 0, .int 0, .int 0, .int 0, .ref (n 13), .ref (n 14), .ref (n 15), .int 0, .int 0, .int 0, .ref (n 16), .ref (n 17), .int 0, .ref (n 18), .long 0, .long 0, .ref (n 19), .int 0, .long 0, .long 0, .long 0, .ref (n 20), .ref (n 21), .ref (n 22), .ref (n 23)])), ((n 1), .inl (k 0, 99, .inl (fun _ => 0)))] (Qi (fun r : Int32 => r = (-2))) := by
  refine RO.of (by decide) (Nat.le_of_ble_eq_true rfl) ?_
  intro p e s m below meth c ls A args Q S hr hlk hQ hK hP hDW hA hS hl
  have hx := S.1
  have hb := S.2.1
  have hl : lv_has ls 3 [(0, .ref (n 0)), (1, .int p0), (2, .int p1)] := hl
  refine lv_aload_n hx hb dX11_head_0 rfl (lv_at hl 0 rfl) ?_
  refine lv_iload_n hx hb dX11_head_1 rfl (lv_at hl 1 rfl) ?_
  refine lv_i2l (v := p0.toInt64) hx hb dX11_head_2 rfl ?_
  refine x_roVi (As := [.long (p0.toInt64)]) S hK hP hS hA hl mwX11_isHead lkX11_237 (ctX11_isHead l D k n (p0.toInt64) ) [0, 1] rfl (hDW.sub [0, 1] (by decide) rfl) rfl rfl rfl rfl rfl ⟨Nat.le_of_ble_eq_true rfl, Nat.le_of_ble_eq_true rfl, Nat.le_of_ble_eq_true rfl⟩ dX11_head_3 ⟨Nat.le_of_ble_eq_true rfl, Nat.le_of_ble_eq_true rfl⟩ (fun r_1 H locs hr_1 hP hS => ?_)
  subst hr_1
  refine lv_if_eq (tgt := 21) hx hb dX11_head_6 (by decide) (fun c_2 => ?_) (fun c_2 => absurd (by decide) c_2)
  refine lv_bipush (v := (-2)) hx hb dX11_head_21 (by decide) ?_
  exact x_reti S hr hlk hQ hS () rfl x_T dX11_head_23

set_option maxHeartbeats 4000000 in
set_option maxRecDepth 100000 in
theorem ctX11_near (l : Launch) (D : va_G) (k : Nat → ClassId) (n : Nat → Nat) (p0 : Int32)  : RO l yX11_near cX11_near 2 (some .int) 2 D k [.ref (n 0), .int p0] [((n 0), .inr (11, [.int 0, .ref (n 1), .ref (n 2), .ref (n 3), .ref (n 4), .int 0, .ref (n 5), .int 0, .int 0, .int 0, .int 0, .int 0, .int 0, .int (-1), .ref (n 6), .ref (n 7), .ref (n 8), .ref (n 9), .ref (n 10), .ref (n 11), .ref (n 12), .int 0, .int 0, .int 0, .int 0, .ref (n 13), .ref (n 14), .ref (n 15), .int 0, .int 0, .int 0, .ref (n 16), .ref (n 17), .int 0, .ref (n 18), .long 0, .long 0, .ref (n 19), .int 0, .long 0, .long 0, .long 0, .ref (n 20), .ref (n 21), .ref (n 22), .ref (n 23)])), ((n 1), .inl (k 0, 99, .inl (fun _ => 0)))] (Qi (fun r : Int32 => r = (-2))) := by
  refine RO.of (by decide) (Nat.le_of_ble_eq_true rfl) ?_
  intro p e s m below meth c ls A args Q S hr hlk hQ hK hP hDW hA hS hl
  have hx := S.1
  have hb := S.2.1
  have hl : lv_has ls 2 [(0, .ref (n 0)), (1, .int p0)] := hl
  refine lv_aload_n hx hb dX11_near_0 rfl (lv_at hl 0 rfl) ?_
  refine lv_iload_n hx hb dX11_near_1 rfl (lv_at hl 1 rfl) ?_
  refine lv_i2l (v := p0.toInt64) hx hb dX11_near_2 rfl ?_
  refine x_roVi (As := [.long (p0.toInt64)]) S hK hP hS hA hl mwX11_isHead lkX11_237 (ctX11_isHead l D k n (p0.toInt64) ) [0, 1] rfl (hDW.sub [0, 1] (by decide) rfl) rfl rfl rfl rfl rfl ⟨Nat.le_of_ble_eq_true rfl, Nat.le_of_ble_eq_true rfl, Nat.le_of_ble_eq_true rfl⟩ dX11_near_3 ⟨Nat.le_of_ble_eq_true rfl, Nat.le_of_ble_eq_true rfl⟩ (fun r_1 H locs hr_1 hP hS => ?_)
  subst hr_1
  refine lv_if_ne (tgt := 12) hx hb dX11_near_6 (by decide) (fun c_2 => absurd (by decide) c_2) (fun c_2 => ?_)
  refine lv_bipush (v := (-2)) hx hb dX11_near_9 (by decide) ?_
  exact x_reti S hr hlk hQ hS () rfl x_T dX11_near_11

set_option maxHeartbeats 4000000 in
set_option maxRecDepth 100000 in
theorem ctX11_heads (l : Launch) (D : va_G) (k : Nat → ClassId) (n : Nat → Nat) (f0 : Nat → Int32) (f1 : Nat → Int32) (f2 : Nat → Int32) (f3 : Nat → Int32) (p0 : Int32)  : MU l yX11_heads cX11_heads 2 (some .int) 2 D k [.ref (n 0), .int p0] [((n 0), .inr (11, [.int 0, .ref (n 1), .ref (n 2), .ref (n 3), .ref (n 4), .int 0, .ref (n 5), .int 0, .int 0, .int 0, .int 0, .int 0, .int 0, .int (-1), .ref (n 6), .ref (n 7), .ref (n 8), .ref (n 9), .ref (n 10), .ref (n 11), .ref (n 12), .int 0, .int 0, .int 0, .int 0, .ref (n 13), .ref (n 14), .ref (n 15), .int 0, .int 0, .int 0, .ref (n 16), .ref (n 17), .int 0, .ref (n 18), .long 0, .long 0, .ref (n 19), .int 0, .long 0, .long 0, .long 0, .ref (n 20), .ref (n 21), .ref (n 22), .ref (n 23)])), ((n 1), .inl (k 0, 99, .inl (fun _ => 0))), ((n 10), .inl (k 0, 12, .inl f0)), ((n 13), .inl (k 0, 17, .inl f1)), ((n 14), .inl (k 0, 17, .inl f2)), ((n 15), .inl (k 0, 17, .inl f3))] 0 0 (Ui D (fun (r : Int32) (u : Unit) => r = (-2)) (fun _ : Unit => [])) := by
  refine MU.of (by decide) (Nat.le_of_ble_eq_true rfl) ?_
  intro p e s m below meth c ls A args Q S hr hlk hnm hQ hK hP hD hA hS hl
  have hx := S.1
  have hb := S.2.1
  have hl : lv_has ls 2 [(0, .ref (n 0)), (1, .int p0)] := hl
  refine lv_aload_n hx hb dX11_heads_0 rfl (lv_at hl 0 rfl) ?_
  refine x_muVv (wr := [((n 10), .inl (k 0, 12, .inl f0)), ((n 13), .inl (k 0, 17, .inl f1)), ((n 14), .inl (k 0, 17, .inl f2)), ((n 15), .inl (k 0, 17, .inl f3))]) (As := []) S hK hP hD hS hA hl mwX11_layRows lkX11_243 (ctX11_layRows l D k n ) [0, 1] [2, 3, 4, 5] rfl rfl (by decide) (by decide) (by decide) rfl rfl rfl rfl rfl ⟨Nat.le_of_ble_eq_true rfl, Nat.le_of_ble_eq_true rfl, Nat.le_of_ble_eq_true rfl⟩ dX11_heads_1 ⟨Nat.le_of_ble_eq_true rfl, Nat.le_of_ble_eq_true rfl⟩ (fun u_2 H locs hr_1 hP hD hS => ?_)
  have hP : va_P D vwCl [((n 10), .inl (k 0, 12, .inl f0)), ((n 13), .inl (k 0, 17, .inl f1)), ((n 14), .inl (k 0, 17, .inl f2)), ((n 15), .inl (k 0, 17, .inl f3)), ((n 0), .inr (11, [.int 0, .ref (n 1), .ref (n 2), .ref (n 3), .ref (n 4), .int 0, .ref (n 5), .int 0, .int 0, .int 0, .int 0, .int 0, .int 0, .int (-1), .ref (n 6), .ref (n 7), .ref (n 8), .ref (n 9), .ref (n 10), .ref (n 11), .ref (n 12), .int 0, .int 0, .int 0, .int 0, .ref (n 13), .ref (n 14), .ref (n 15), .int 0, .int 0, .int 0, .ref (n 16), .ref (n 17), .int 0, .ref (n 18), .long 0, .long 0, .ref (n 19), .int 0, .long 0, .long 0, .long 0, .ref (n 20), .ref (n 21), .ref (n 22), .ref (n 23)])), ((n 1), .inl (k 0, 99, .inl (fun _ => 0)))] H := hP
  have hD : va_D A [((n 10), .inl (k 0, 12, .inl f0)), ((n 13), .inl (k 0, 17, .inl f1)), ((n 14), .inl (k 0, 17, .inl f2)), ((n 15), .inl (k 0, 17, .inl f3)), ((n 0), .inr (11, [.int 0, .ref (n 1), .ref (n 2), .ref (n 3), .ref (n 4), .int 0, .ref (n 5), .int 0, .int 0, .int 0, .int 0, .int 0, .int 0, .int (-1), .ref (n 6), .ref (n 7), .ref (n 8), .ref (n 9), .ref (n 10), .ref (n 11), .ref (n 12), .int 0, .int 0, .int 0, .int 0, .ref (n 13), .ref (n 14), .ref (n 15), .int 0, .int 0, .int 0, .ref (n 16), .ref (n 17), .int 0, .ref (n 18), .long 0, .long 0, .ref (n 19), .int 0, .long 0, .long 0, .long 0, .ref (n 20), .ref (n 21), .ref (n 22), .ref (n 23)])), ((n 1), .inl (k 0, 99, .inl (fun _ => 0)))] := hD
  refine lv_aload_n hx hb dX11_heads_4 rfl (lv_at hl 0 rfl) ?_
  refine lv_iload_n hx hb dX11_heads_5 rfl (lv_at hl 1 rfl) ?_
  refine x_roVi (As := [.int p0]) S hK hP hS hA hl mwX11_isRow lkX11_227 (ctX11_isRow l D k n p0 ) [4, 5] rfl ((hD.sub [4, 5] (by decide) rfl).weaken (fun _ _ _ _ => trivial)) rfl rfl rfl rfl rfl ⟨Nat.le_of_ble_eq_true rfl, Nat.le_of_ble_eq_true rfl, Nat.le_of_ble_eq_true rfl⟩ dX11_heads_6 ⟨Nat.le_of_ble_eq_true rfl, Nat.le_of_ble_eq_true rfl⟩ (fun r_3 H locs hr_3 hP hS => ?_)
  subst hr_3
  refine lv_if_eq (tgt := 20) hx hb dX11_heads_9 (by decide) (fun c_4 => ?_) (fun c_4 => absurd (by decide) c_4)
  refine lv_bipush (v := (-2)) hx hb dX11_heads_20 (by decide) ?_
  exact x_reti S hr hlk hQ hS () rfl (x_B P_nil D_nil) dX11_heads_22

set_option maxHeartbeats 4000000 in
set_option maxRecDepth 100000 in
theorem ctX11_view (l : Launch) (D : va_G) (k : Nat → ClassId) (n : Nat → Nat) (f0 : Nat → Int32) (f1 : Nat → Int32) (f2 : Nat → Int32) (f3 : Nat → Int32) (p0 : Int32) (p1 : Int32)  : MU l yX11_view cX11_view 3 (some .int) 5 D k [.ref (n 0), .int p0, .int p1] [((n 0), .inr (11, [.int 0, .ref (n 1), .ref (n 2), .ref (n 3), .ref (n 4), .int 0, .ref (n 5), .int 0, .int 0, .int 0, .int 0, .int 0, .int 0, .int (-1), .ref (n 6), .ref (n 7), .ref (n 8), .ref (n 9), .ref (n 10), .ref (n 11), .ref (n 12), .int 0, .int 0, .int 0, .int 0, .ref (n 13), .ref (n 14), .ref (n 15), .int 0, .int 0, .int 0, .ref (n 16), .ref (n 17), .int 0, .ref (n 18), .long 0, .long 0, .ref (n 19), .int 0, .long 0, .long 0, .long 0, .ref (n 20), .ref (n 21), .ref (n 22), .ref (n 23)])), ((n 1), .inl (k 0, 99, .inl (fun _ => 0))), ((n 10), .inl (k 0, 12, .inl f0)), ((n 13), .inl (k 0, 17, .inl f1)), ((n 14), .inl (k 0, 17, .inl f2)), ((n 15), .inl (k 0, 17, .inl f3))] 0 0 (Ui D (fun (r : Int32) (u : Unit) => r = (-2)) (fun _ : Unit => [])) := by
  refine MU.of (by decide) (Nat.le_of_ble_eq_true rfl) ?_
  intro p e s m below meth c ls A args Q S hr hlk hnm hQ hK hP hD hA hS hl
  have hx := S.1
  have hb := S.2.1
  have hl : lv_has ls 3 [(0, .ref (n 0)), (1, .int p0), (2, .int p1)] := hl
  refine lv_aload_n hx hb dX11_view_0 rfl (lv_at hl 0 rfl) ?_
  refine lv_iload_n hx hb dX11_view_1 rfl (lv_at hl 2 rfl) ?_
  refine x_muVi (wr := []) (As := [.int p1]) S hK hP hD hS hA hl mwX11_asksHour lkX11_330 (ctX11_asksHour l D k n f0 f1 f2 f3 p1 ) [0, 1, 2, 3, 4, 5] [] rfl rfl (by decide) (by decide) (by decide) rfl rfl rfl rfl rfl ⟨Nat.le_of_ble_eq_true rfl, Nat.le_of_ble_eq_true rfl, Nat.le_of_ble_eq_true rfl⟩ dX11_view_2 ⟨Nat.le_of_ble_eq_true rfl, Nat.le_of_ble_eq_true rfl⟩ (fun r_1 u_2 H locs hr_1 hP hD hS => ?_)
  have hP : va_P D vwCl [] H := hP
  have hD : va_D A [] := hD
  subst hr_1
  refine lv_if_eq (tgt := 26) hx hb dX11_view_5 (by decide) (fun c_3 => ?_) (fun c_3 => absurd (by decide) c_3)
  refine lv_bipush (v := (-2)) hx hb dX11_view_26 (by decide) ?_
  exact x_reti S hr hlk hQ hS () rfl (x_B P_nil D_nil) dX11_view_28

set_option maxHeartbeats 4000000 in
set_option maxRecDepth 100000 in
theorem ctX11_holding (l : Launch) (D : va_G) (k : Nat → ClassId) (n : Nat → Nat) (f0 : Nat → Int32) (f1 : Nat → Int32) (f2 : Nat → Int32) (f3 : Nat → Int32) (p0 : Int32) (p1 : Int32)  : MU l yX11_holding cX11_holding 3 (some .int) 5 D k [.ref (n 0), .int p0, .int p1] [((n 0), .inr (11, [.int 0, .ref (n 1), .ref (n 2), .ref (n 3), .ref (n 4), .int 0, .ref (n 5), .int 0, .int 0, .int 0, .int 0, .int 0, .int 0, .int (-1), .ref (n 6), .ref (n 7), .ref (n 8), .ref (n 9), .ref (n 10), .ref (n 11), .ref (n 12), .int 0, .int 0, .int 0, .int 0, .ref (n 13), .ref (n 14), .ref (n 15), .int 0, .int 0, .int 0, .ref (n 16), .ref (n 17), .int 0, .ref (n 18), .long 0, .long 0, .ref (n 19), .int 0, .long 0, .long 0, .long 0, .ref (n 20), .ref (n 21), .ref (n 22), .ref (n 23)])), ((n 1), .inl (k 0, 99, .inl (fun _ => 0))), ((n 10), .inl (k 0, 12, .inl f0)), ((n 13), .inl (k 0, 17, .inl f1)), ((n 14), .inl (k 0, 17, .inl f2)), ((n 15), .inl (k 0, 17, .inl f3))] 0 0 (Ui D (fun (r : Int32) (u : Unit) => r = (-2)) (fun _ : Unit => [])) := by
  refine MU.of (by decide) (Nat.le_of_ble_eq_true rfl) ?_
  intro p e s m below meth c ls A args Q S hr hlk hnm hQ hK hP hD hA hS hl
  have hx := S.1
  have hb := S.2.1
  have hl : lv_has ls 3 [(0, .ref (n 0)), (1, .int p0), (2, .int p1)] := hl
  refine lv_aload_n hx hb dX11_holding_0 rfl (lv_at hl 0 rfl) ?_
  refine lv_iload_n hx hb dX11_holding_1 rfl (lv_at hl 2 rfl) ?_
  refine x_muVi (wr := []) (As := [.int p1]) S hK hP hD hS hA hl mwX11_asksHour lkX11_330 (ctX11_asksHour l D k n f0 f1 f2 f3 p1 ) [0, 1, 2, 3, 4, 5] [] rfl rfl (by decide) (by decide) (by decide) rfl rfl rfl rfl rfl ⟨Nat.le_of_ble_eq_true rfl, Nat.le_of_ble_eq_true rfl, Nat.le_of_ble_eq_true rfl⟩ dX11_holding_2 ⟨Nat.le_of_ble_eq_true rfl, Nat.le_of_ble_eq_true rfl⟩ (fun r_1 u_2 H locs hr_1 hP hD hS => ?_)
  have hP : va_P D vwCl [] H := hP
  have hD : va_D A [] := hD
  subst hr_1
  refine lv_if_eq (tgt := 25) hx hb dX11_holding_5 (by decide) (fun c_3 => ?_) (fun c_3 => absurd (by decide) c_3)
  refine lv_bipush (v := (-2)) hx hb dX11_holding_25 (by decide) ?_
  exact x_reti S hr hlk hQ hS () rfl (x_B P_nil D_nil) dX11_holding_27

set_option maxHeartbeats 4000000 in
set_option maxRecDepth 100000 in
theorem ctX11_eaten (l : Launch) (D : va_G) (k : Nat → ClassId) (n : Nat → Nat) (f0 : Nat → Int32) (f1 : Nat → Int32) (f2 : Nat → Int32) (f3 : Nat → Int32) (p0 : Int32)  : MU l yX11_eaten cX11_eaten 2 (some .int) 5 D k [.ref (n 0), .int p0] [((n 0), .inr (11, [.int 0, .ref (n 1), .ref (n 2), .ref (n 3), .ref (n 4), .int 0, .ref (n 5), .int 0, .int 0, .int 0, .int 0, .int 0, .int 0, .int (-1), .ref (n 6), .ref (n 7), .ref (n 8), .ref (n 9), .ref (n 10), .ref (n 11), .ref (n 12), .int 0, .int 0, .int 0, .int 0, .ref (n 13), .ref (n 14), .ref (n 15), .int 0, .int 0, .int 0, .ref (n 16), .ref (n 17), .int 0, .ref (n 18), .long 0, .long 0, .ref (n 19), .int 0, .long 0, .long 0, .long 0, .ref (n 20), .ref (n 21), .ref (n 22), .ref (n 23)])), ((n 1), .inl (k 0, 99, .inl (fun _ => 0))), ((n 10), .inl (k 0, 12, .inl f0)), ((n 13), .inl (k 0, 17, .inl f1)), ((n 14), .inl (k 0, 17, .inl f2)), ((n 15), .inl (k 0, 17, .inl f3))] 0 0 (Ui D (fun (r : Int32) (u : Unit) => r = (-2)) (fun _ : Unit => [])) := by
  refine MU.of (by decide) (Nat.le_of_ble_eq_true rfl) ?_
  intro p e s m below meth c ls A args Q S hr hlk hnm hQ hK hP hD hA hS hl
  have hx := S.1
  have hb := S.2.1
  have hl : lv_has ls 2 [(0, .ref (n 0)), (1, .int p0)] := hl
  refine lv_aload_n hx hb dX11_eaten_0 rfl (lv_at hl 0 rfl) ?_
  refine lv_iload_n hx hb dX11_eaten_1 rfl (lv_at hl 1 rfl) ?_
  refine x_muVi (wr := []) (As := [.int p0]) S hK hP hD hS hA hl mwX11_asksHour lkX11_330 (ctX11_asksHour l D k n f0 f1 f2 f3 p0 ) [0, 1, 2, 3, 4, 5] [] rfl rfl (by decide) (by decide) (by decide) rfl rfl rfl rfl rfl ⟨Nat.le_of_ble_eq_true rfl, Nat.le_of_ble_eq_true rfl, Nat.le_of_ble_eq_true rfl⟩ dX11_eaten_2 ⟨Nat.le_of_ble_eq_true rfl, Nat.le_of_ble_eq_true rfl⟩ (fun r_1 u_2 H locs hr_1 hP hD hS => ?_)
  have hP : va_P D vwCl [] H := hP
  have hD : va_D A [] := hD
  subst hr_1
  refine lv_if_eq (tgt := 17) hx hb dX11_eaten_5 (by decide) (fun c_3 => ?_) (fun c_3 => absurd (by decide) c_3)
  refine lv_bipush (v := (-2)) hx hb dX11_eaten_17 (by decide) ?_
  exact x_reti S hr hlk hQ hS () rfl (x_B P_nil D_nil) dX11_eaten_19

set_option maxHeartbeats 4000000 in
set_option maxRecDepth 100000 in
theorem ctX11_turned (l : Launch) (D : va_G) (k : Nat → ClassId) (n : Nat → Nat) (f0 : Nat → Int32) (f1 : Nat → Int32) (f2 : Nat → Int32) (f3 : Nat → Int32) (p0 : Int32)  : MU l yX11_turned cX11_turned 2 (some .int) 5 D k [.ref (n 0), .int p0] [((n 0), .inr (11, [.int 0, .ref (n 1), .ref (n 2), .ref (n 3), .ref (n 4), .int 0, .ref (n 5), .int 0, .int 0, .int 0, .int 0, .int 0, .int 0, .int (-1), .ref (n 6), .ref (n 7), .ref (n 8), .ref (n 9), .ref (n 10), .ref (n 11), .ref (n 12), .int 0, .int 0, .int 0, .int 0, .ref (n 13), .ref (n 14), .ref (n 15), .int 0, .int 0, .int 0, .ref (n 16), .ref (n 17), .int 0, .ref (n 18), .long 0, .long 0, .ref (n 19), .int 0, .long 0, .long 0, .long 0, .ref (n 20), .ref (n 21), .ref (n 22), .ref (n 23)])), ((n 1), .inl (k 0, 99, .inl (fun _ => 0))), ((n 10), .inl (k 0, 12, .inl f0)), ((n 13), .inl (k 0, 17, .inl f1)), ((n 14), .inl (k 0, 17, .inl f2)), ((n 15), .inl (k 0, 17, .inl f3))] 0 0 (Ui D (fun (r : Int32) (u : Unit) => r = (-2)) (fun _ : Unit => [])) := by
  refine MU.of (by decide) (Nat.le_of_ble_eq_true rfl) ?_
  intro p e s m below meth c ls A args Q S hr hlk hnm hQ hK hP hD hA hS hl
  have hx := S.1
  have hb := S.2.1
  have hl : lv_has ls 2 [(0, .ref (n 0)), (1, .int p0)] := hl
  refine lv_aload_n hx hb dX11_turned_0 rfl (lv_at hl 0 rfl) ?_
  refine lv_iload_n hx hb dX11_turned_1 rfl (lv_at hl 1 rfl) ?_
  refine x_muVi (wr := []) (As := [.int p0]) S hK hP hD hS hA hl mwX11_asksHour lkX11_330 (ctX11_asksHour l D k n f0 f1 f2 f3 p0 ) [0, 1, 2, 3, 4, 5] [] rfl rfl (by decide) (by decide) (by decide) rfl rfl rfl rfl rfl ⟨Nat.le_of_ble_eq_true rfl, Nat.le_of_ble_eq_true rfl, Nat.le_of_ble_eq_true rfl⟩ dX11_turned_2 ⟨Nat.le_of_ble_eq_true rfl, Nat.le_of_ble_eq_true rfl⟩ (fun r_1 u_2 H locs hr_1 hP hD hS => ?_)
  have hP : va_P D vwCl [] H := hP
  have hD : va_D A [] := hD
  subst hr_1
  refine lv_if_eq (tgt := 16) hx hb dX11_turned_5 (by decide) (fun c_3 => ?_) (fun c_3 => absurd (by decide) c_3)
  refine lv_bipush (v := (-2)) hx hb dX11_turned_16 (by decide) ?_
  exact x_reti S hr hlk hQ hS () rfl (x_B P_nil D_nil) dX11_turned_18

set_option maxHeartbeats 4000000 in
set_option maxRecDepth 100000 in
theorem ctX11_sways (l : Launch) (D : va_G) (k : Nat → ClassId) (n : Nat → Nat) (f0 : Nat → Int32) (f1 : Nat → Int32) (f2 : Nat → Int32) (f3 : Nat → Int32) (p0 : Int32)  : MU l yX11_sways cX11_sways 2 (some .int) 5 D k [.ref (n 0), .int p0] [((n 0), .inr (11, [.int 0, .ref (n 1), .ref (n 2), .ref (n 3), .ref (n 4), .int 0, .ref (n 5), .int 0, .int 0, .int 0, .int 0, .int 0, .int 0, .int (-1), .ref (n 6), .ref (n 7), .ref (n 8), .ref (n 9), .ref (n 10), .ref (n 11), .ref (n 12), .int 0, .int 0, .int 0, .int 0, .ref (n 13), .ref (n 14), .ref (n 15), .int 0, .int 0, .int 0, .ref (n 16), .ref (n 17), .int 0, .ref (n 18), .long 0, .long 0, .ref (n 19), .int 0, .long 0, .long 0, .long 0, .ref (n 20), .ref (n 21), .ref (n 22), .ref (n 23)])), ((n 1), .inl (k 0, 99, .inl (fun _ => 0))), ((n 10), .inl (k 0, 12, .inl f0)), ((n 13), .inl (k 0, 17, .inl f1)), ((n 14), .inl (k 0, 17, .inl f2)), ((n 15), .inl (k 0, 17, .inl f3))] 0 0 (Ui D (fun (r : Int32) (u : Unit) => r = (-2)) (fun _ : Unit => [])) := by
  refine MU.of (by decide) (Nat.le_of_ble_eq_true rfl) ?_
  intro p e s m below meth c ls A args Q S hr hlk hnm hQ hK hP hD hA hS hl
  have hx := S.1
  have hb := S.2.1
  have hl : lv_has ls 2 [(0, .ref (n 0)), (1, .int p0)] := hl
  refine lv_aload_n hx hb dX11_sways_0 rfl (lv_at hl 0 rfl) ?_
  refine lv_iload_n hx hb dX11_sways_1 rfl (lv_at hl 1 rfl) ?_
  refine x_muVi (wr := []) (As := [.int p0]) S hK hP hD hS hA hl mwX11_asksHead lkX11_342 (ctX11_asksHead l D k n f0 f1 f2 f3 p0 ) [0, 1, 2, 3, 4, 5] [] rfl rfl (by decide) (by decide) (by decide) rfl rfl rfl rfl rfl ⟨Nat.le_of_ble_eq_true rfl, Nat.le_of_ble_eq_true rfl, Nat.le_of_ble_eq_true rfl⟩ dX11_sways_2 ⟨Nat.le_of_ble_eq_true rfl, Nat.le_of_ble_eq_true rfl⟩ (fun r_1 u_2 H locs hr_1 hP hD hS => ?_)
  have hP : va_P D vwCl [] H := hP
  have hD : va_D A [] := hD
  subst hr_1
  refine lv_if_eq (tgt := 16) hx hb dX11_sways_5 (by decide) (fun c_3 => ?_) (fun c_3 => absurd (by decide) c_3)
  refine lv_bipush (v := (-2)) hx hb dX11_sways_16 (by decide) ?_
  exact x_reti S hr hlk hQ hS () rfl (x_B P_nil D_nil) dX11_sways_18

set_option maxHeartbeats 4000000 in
set_option maxRecDepth 100000 in
theorem ctX11_when (l : Launch) (D : va_G) (k : Nat → ClassId) (n : Nat → Nat) (f0 : Nat → Int32) (f1 : Nat → Int32) (f2 : Nat → Int32) (f3 : Nat → Int32) (p0 : Int32) (p1 : Int32)  : MU l yX11_when cX11_when 4 (some .int) 5 D k [.ref (n 0), .int p0, .int p1] [((n 0), .inr (11, [.int 0, .ref (n 1), .ref (n 2), .ref (n 3), .ref (n 4), .int 0, .ref (n 5), .int 0, .int 0, .int 0, .int 0, .int 0, .int 0, .int (-1), .ref (n 6), .ref (n 7), .ref (n 8), .ref (n 9), .ref (n 10), .ref (n 11), .ref (n 12), .int 0, .int 0, .int 0, .int 0, .ref (n 13), .ref (n 14), .ref (n 15), .int 0, .int 0, .int 0, .ref (n 16), .ref (n 17), .int 0, .ref (n 18), .long 0, .long 0, .ref (n 19), .int 0, .long 0, .long 0, .long 0, .ref (n 20), .ref (n 21), .ref (n 22), .ref (n 23)])), ((n 1), .inl (k 0, 99, .inl (fun _ => 0))), ((n 10), .inl (k 0, 12, .inl f0)), ((n 13), .inl (k 0, 17, .inl f1)), ((n 14), .inl (k 0, 17, .inl f2)), ((n 15), .inl (k 0, 17, .inl f3))] 0 0 (Ui D (fun (r : Int32) (u : Unit) => r = (-2)) (fun _ : Unit => [])) := by
  refine MU.of (by decide) (Nat.le_of_ble_eq_true rfl) ?_
  intro p e s m below meth c ls A args Q S hr hlk hnm hQ hK hP hD hA hS hl
  have hx := S.1
  have hb := S.2.1
  have hl : lv_has ls 4 [(0, .ref (n 0)), (1, .int p0), (2, .int p1)] := hl
  refine lv_aload_n hx hb dX11_when_0 rfl (lv_at hl 0 rfl) ?_
  refine lv_iload_n hx hb dX11_when_1 rfl (lv_at hl 1 rfl) ?_
  refine x_muVi (wr := []) (As := [.int p0]) S hK hP hD hS hA hl mwX11_asksHead lkX11_342 (ctX11_asksHead l D k n f0 f1 f2 f3 p0 ) [0, 1, 2, 3, 4, 5] [] rfl rfl (by decide) (by decide) (by decide) rfl rfl rfl rfl rfl ⟨Nat.le_of_ble_eq_true rfl, Nat.le_of_ble_eq_true rfl, Nat.le_of_ble_eq_true rfl⟩ dX11_when_2 ⟨Nat.le_of_ble_eq_true rfl, Nat.le_of_ble_eq_true rfl⟩ (fun r_1 u_2 H locs hr_1 hP hD hS => ?_)
  have hP : va_P D vwCl [] H := hP
  have hD : va_D A [] := hD
  subst hr_1
  refine lv_if_eq (tgt := 16) hx hb dX11_when_5 (by decide) (fun c_3 => ?_) (fun c_3 => absurd (by decide) c_3)
  refine lv_bipush (v := (-2)) hx hb dX11_when_16 (by decide) ?_
  exact x_reti S hr hlk hQ hS () rfl (x_B P_nil D_nil) dX11_when_18

set_option maxHeartbeats 4000000 in
set_option maxRecDepth 100000 in
theorem ctX11_often (l : Launch) (D : va_G) (k : Nat → ClassId) (n : Nat → Nat) (f0 : Nat → Int32) (f1 : Nat → Int32) (f2 : Nat → Int32) (f3 : Nat → Int32) (p0 : Int32) (p1 : Int32)  : MU l yX11_often cX11_often 5 (some .int) 5 D k [.ref (n 0), .int p0, .int p1] [((n 0), .inr (11, [.int 0, .ref (n 1), .ref (n 2), .ref (n 3), .ref (n 4), .int 0, .ref (n 5), .int 0, .int 0, .int 0, .int 0, .int 0, .int 0, .int (-1), .ref (n 6), .ref (n 7), .ref (n 8), .ref (n 9), .ref (n 10), .ref (n 11), .ref (n 12), .int 0, .int 0, .int 0, .int 0, .ref (n 13), .ref (n 14), .ref (n 15), .int 0, .int 0, .int 0, .ref (n 16), .ref (n 17), .int 0, .ref (n 18), .long 0, .long 0, .ref (n 19), .int 0, .long 0, .long 0, .long 0, .ref (n 20), .ref (n 21), .ref (n 22), .ref (n 23)])), ((n 1), .inl (k 0, 99, .inl (fun _ => 0))), ((n 10), .inl (k 0, 12, .inl f0)), ((n 13), .inl (k 0, 17, .inl f1)), ((n 14), .inl (k 0, 17, .inl f2)), ((n 15), .inl (k 0, 17, .inl f3))] 0 0 (Ui D (fun (r : Int32) (u : Unit) => r = (-2)) (fun _ : Unit => [])) := by
  refine MU.of (by decide) (Nat.le_of_ble_eq_true rfl) ?_
  intro p e s m below meth c ls A args Q S hr hlk hnm hQ hK hP hD hA hS hl
  have hx := S.1
  have hb := S.2.1
  have hl : lv_has ls 5 [(0, .ref (n 0)), (1, .int p0), (2, .int p1)] := hl
  refine lv_aload_n hx hb dX11_often_0 rfl (lv_at hl 0 rfl) ?_
  refine lv_iload_n hx hb dX11_often_1 rfl (lv_at hl 1 rfl) ?_
  refine x_muVi (wr := []) (As := [.int p0]) S hK hP hD hS hA hl mwX11_asksHead lkX11_342 (ctX11_asksHead l D k n f0 f1 f2 f3 p0 ) [0, 1, 2, 3, 4, 5] [] rfl rfl (by decide) (by decide) (by decide) rfl rfl rfl rfl rfl ⟨Nat.le_of_ble_eq_true rfl, Nat.le_of_ble_eq_true rfl, Nat.le_of_ble_eq_true rfl⟩ dX11_often_2 ⟨Nat.le_of_ble_eq_true rfl, Nat.le_of_ble_eq_true rfl⟩ (fun r_1 u_2 H locs hr_1 hP hD hS => ?_)
  have hP : va_P D vwCl [] H := hP
  have hD : va_D A [] := hD
  subst hr_1
  refine lv_if_eq (tgt := 16) hx hb dX11_often_5 (by decide) (fun c_3 => ?_) (fun c_3 => absurd (by decide) c_3)
  refine lv_bipush (v := (-2)) hx hb dX11_often_16 (by decide) ?_
  exact x_reti S hr hlk hQ hS () rfl (x_B P_nil D_nil) dX11_often_18

set_option maxHeartbeats 4000000 in
set_option maxRecDepth 100000 in
theorem ctX11_heart (l : Launch) (D : va_G) (k : Nat → ClassId) (n : Nat → Nat) (f0 : Nat → Int32) (f1 : Nat → Int32) (f2 : Nat → Int32) (f3 : Nat → Int32) (p0 : Int32)  : MU l yX11_heart cX11_heart 3 (some .int) 5 D k [.ref (n 0), .int p0] [((n 0), .inr (11, [.int 0, .ref (n 1), .ref (n 2), .ref (n 3), .ref (n 4), .int 0, .ref (n 5), .int 0, .int 0, .int 0, .int 0, .int 0, .int 0, .int (-1), .ref (n 6), .ref (n 7), .ref (n 8), .ref (n 9), .ref (n 10), .ref (n 11), .ref (n 12), .int 0, .int 0, .int 0, .int 0, .ref (n 13), .ref (n 14), .ref (n 15), .int 0, .int 0, .int 0, .ref (n 16), .ref (n 17), .int 0, .ref (n 18), .long 0, .long 0, .ref (n 19), .int 0, .long 0, .long 0, .long 0, .ref (n 20), .ref (n 21), .ref (n 22), .ref (n 23)])), ((n 1), .inl (k 0, 99, .inl (fun _ => 0))), ((n 10), .inl (k 0, 12, .inl f0)), ((n 13), .inl (k 0, 17, .inl f1)), ((n 14), .inl (k 0, 17, .inl f2)), ((n 15), .inl (k 0, 17, .inl f3))] 0 0 (Ui D (fun (r : Int32) (u : Unit) => r = (-2)) (fun _ : Unit => [])) := by
  refine MU.of (by decide) (Nat.le_of_ble_eq_true rfl) ?_
  intro p e s m below meth c ls A args Q S hr hlk hnm hQ hK hP hD hA hS hl
  have hx := S.1
  have hb := S.2.1
  have hl : lv_has ls 3 [(0, .ref (n 0)), (1, .int p0)] := hl
  refine lv_aload_n hx hb dX11_heart_0 rfl (lv_at hl 0 rfl) ?_
  refine lv_iload_n hx hb dX11_heart_1 rfl (lv_at hl 1 rfl) ?_
  refine x_muVi (wr := []) (As := [.int p0]) S hK hP hD hS hA hl mwX11_asksHead lkX11_342 (ctX11_asksHead l D k n f0 f1 f2 f3 p0 ) [0, 1, 2, 3, 4, 5] [] rfl rfl (by decide) (by decide) (by decide) rfl rfl rfl rfl rfl ⟨Nat.le_of_ble_eq_true rfl, Nat.le_of_ble_eq_true rfl, Nat.le_of_ble_eq_true rfl⟩ dX11_heart_2 ⟨Nat.le_of_ble_eq_true rfl, Nat.le_of_ble_eq_true rfl⟩ (fun r_1 u_2 H locs hr_1 hP hD hS => ?_)
  have hP : va_P D vwCl [] H := hP
  have hD : va_D A [] := hD
  subst hr_1
  refine lv_if_ne (tgt := 11) hx hb dX11_heart_5 (by decide) (fun c_3 => absurd (by decide) c_3) (fun c_3 => ?_)
  refine lv_bipush (v := (-2)) hx hb dX11_heart_8 (by decide) ?_
  exact x_reti S hr hlk hQ hS () rfl (x_B P_nil D_nil) dX11_heart_10

set_option maxHeartbeats 4000000 in
set_option maxRecDepth 100000 in
theorem ctX11_fickle (l : Launch) (D : va_G) (k : Nat → ClassId) (n : Nat → Nat) (f0 : Nat → Int32) (f1 : Nat → Int32) (f2 : Nat → Int32) (f3 : Nat → Int32)  : MU l yX11_fickle cX11_fickle 3 (some .int) 4 D k [.ref (n 0)] [((n 0), .inr (11, [.int 0, .ref (n 1), .ref (n 2), .ref (n 3), .ref (n 4), .int 0, .ref (n 5), .int 0, .int 0, .int 0, .int 0, .int 0, .int 0, .int (-1), .ref (n 6), .ref (n 7), .ref (n 8), .ref (n 9), .ref (n 10), .ref (n 11), .ref (n 12), .int 0, .int 0, .int 0, .int 0, .ref (n 13), .ref (n 14), .ref (n 15), .int 0, .int 0, .int 0, .ref (n 16), .ref (n 17), .int 0, .ref (n 18), .long 0, .long 0, .ref (n 19), .int 0, .long 0, .long 0, .long 0, .ref (n 20), .ref (n 21), .ref (n 22), .ref (n 23)])), ((n 1), .inl (k 0, 99, .inl (fun _ => 0))), ((n 10), .inl (k 0, 12, .inl f0)), ((n 13), .inl (k 0, 17, .inl f1)), ((n 14), .inl (k 0, 17, .inl f2)), ((n 15), .inl (k 0, 17, .inl f3))] 0 0 (Ui D (fun (r : Int32) (u : Unit) => r = (-2)) (fun _ : Unit => [])) := by
  refine MU.of (by decide) (Nat.le_of_ble_eq_true rfl) ?_
  intro p e s m below meth c ls A args Q S hr hlk hnm hQ hK hP hD hA hS hl
  have hx := S.1
  have hb := S.2.1
  have hl : lv_has ls 3 [(0, .ref (n 0))] := hl
  refine lv_aload_n hx hb dX11_fickle_0 rfl (lv_at hl 0 rfl) ?_
  refine x_muVi (wr := []) (As := []) S hK hP hD hS hA hl mwX11_asksGarden lkX11_315 (ctX11_asksGarden l D k n f0 f1 f2 f3 ) [0, 1, 2, 3, 4, 5] [] rfl rfl (by decide) (by decide) (by decide) rfl rfl rfl rfl rfl ⟨Nat.le_of_ble_eq_true rfl, Nat.le_of_ble_eq_true rfl, Nat.le_of_ble_eq_true rfl⟩ dX11_fickle_1 ⟨Nat.le_of_ble_eq_true rfl, Nat.le_of_ble_eq_true rfl⟩ (fun r_1 u_2 H locs hr_1 hP hD hS => ?_)
  have hP : va_P D vwCl [((n 0), .inr (11, [.int 0, .ref (n 1), .ref (n 2), .ref (n 3), .ref (n 4), .int 0, .ref (n 5), .int 0, .int 0, .int 0, .int 0, .int 0, .int 0, .int (-1), .ref (n 6), .ref (n 7), .ref (n 8), .ref (n 9), .ref (n 10), .ref (n 11), .ref (n 12), .int 0, .int 0, .int 0, .int 0, .ref (n 13), .ref (n 14), .ref (n 15), .int 0, .int 0, .int 0, .ref (n 16), .ref (n 17), .int 0, .ref (n 18), .long 0, .long 0, .ref (n 19), .int 0, .long 0, .long 0, .long 0, .ref (n 20), .ref (n 21), .ref (n 22), .ref (n 23)])), ((n 1), .inl (k 0, 99, .inl (fun _ => 0)))] H := hP
  have hD : va_D A [((n 0), .inr (11, [.int 0, .ref (n 1), .ref (n 2), .ref (n 3), .ref (n 4), .int 0, .ref (n 5), .int 0, .int 0, .int 0, .int 0, .int 0, .int 0, .int (-1), .ref (n 6), .ref (n 7), .ref (n 8), .ref (n 9), .ref (n 10), .ref (n 11), .ref (n 12), .int 0, .int 0, .int 0, .int 0, .ref (n 13), .ref (n 14), .ref (n 15), .int 0, .int 0, .int 0, .ref (n 16), .ref (n 17), .int 0, .ref (n 18), .long 0, .long 0, .ref (n 19), .int 0, .long 0, .long 0, .long 0, .ref (n 20), .ref (n 21), .ref (n 22), .ref (n 23)])), ((n 1), .inl (k 0, 99, .inl (fun _ => 0)))] := hD
  subst hr_1
  refine lv_if_ne (tgt := 10) hx hb dX11_fickle_4 (by decide) (fun c_3 => absurd (by decide) c_3) (fun c_3 => ?_)
  refine lv_bipush (v := (-2)) hx hb dX11_fickle_7 (by decide) ?_
  exact x_reti S hr hlk hQ hS () rfl (x_B P_nil D_nil) dX11_fickle_9

set_option maxHeartbeats 4000000 in
set_option maxRecDepth 100000 in
theorem ctX11_agree (l : Launch) (D : va_G) (k : Nat → ClassId) (n : Nat → Nat) (f0 : Nat → Int32) (f1 : Nat → Int32) (f2 : Nat → Int32) (f3 : Nat → Int32)  : MU l yX11_agree cX11_agree 2 (some .int) 4 D k [.ref (n 0)] [((n 0), .inr (11, [.int 0, .ref (n 1), .ref (n 2), .ref (n 3), .ref (n 4), .int 0, .ref (n 5), .int 0, .int 0, .int 0, .int 0, .int 0, .int 0, .int (-1), .ref (n 6), .ref (n 7), .ref (n 8), .ref (n 9), .ref (n 10), .ref (n 11), .ref (n 12), .int 0, .int 0, .int 0, .int 0, .ref (n 13), .ref (n 14), .ref (n 15), .int 0, .int 0, .int 0, .ref (n 16), .ref (n 17), .int 0, .ref (n 18), .long 0, .long 0, .ref (n 19), .int 0, .long 0, .long 0, .long 0, .ref (n 20), .ref (n 21), .ref (n 22), .ref (n 23)])), ((n 1), .inl (k 0, 99, .inl (fun _ => 0))), ((n 10), .inl (k 0, 12, .inl f0)), ((n 13), .inl (k 0, 17, .inl f1)), ((n 14), .inl (k 0, 17, .inl f2)), ((n 15), .inl (k 0, 17, .inl f3))] 0 0 (Ui D (fun (r : Int32) (u : Unit) => r = (-2)) (fun _ : Unit => [])) := by
  refine MU.of (by decide) (Nat.le_of_ble_eq_true rfl) ?_
  intro p e s m below meth c ls A args Q S hr hlk hnm hQ hK hP hD hA hS hl
  have hx := S.1
  have hb := S.2.1
  have hl : lv_has ls 2 [(0, .ref (n 0))] := hl
  refine lv_aload_n hx hb dX11_agree_0 rfl (lv_at hl 0 rfl) ?_
  refine x_muVi (wr := []) (As := []) S hK hP hD hS hA hl mwX11_asksGarden lkX11_315 (ctX11_asksGarden l D k n f0 f1 f2 f3 ) [0, 1, 2, 3, 4, 5] [] rfl rfl (by decide) (by decide) (by decide) rfl rfl rfl rfl rfl ⟨Nat.le_of_ble_eq_true rfl, Nat.le_of_ble_eq_true rfl, Nat.le_of_ble_eq_true rfl⟩ dX11_agree_1 ⟨Nat.le_of_ble_eq_true rfl, Nat.le_of_ble_eq_true rfl⟩ (fun r_1 u_2 H locs hr_1 hP hD hS => ?_)
  have hP : va_P D vwCl [((n 0), .inr (11, [.int 0, .ref (n 1), .ref (n 2), .ref (n 3), .ref (n 4), .int 0, .ref (n 5), .int 0, .int 0, .int 0, .int 0, .int 0, .int 0, .int (-1), .ref (n 6), .ref (n 7), .ref (n 8), .ref (n 9), .ref (n 10), .ref (n 11), .ref (n 12), .int 0, .int 0, .int 0, .int 0, .ref (n 13), .ref (n 14), .ref (n 15), .int 0, .int 0, .int 0, .ref (n 16), .ref (n 17), .int 0, .ref (n 18), .long 0, .long 0, .ref (n 19), .int 0, .long 0, .long 0, .long 0, .ref (n 20), .ref (n 21), .ref (n 22), .ref (n 23)])), ((n 1), .inl (k 0, 99, .inl (fun _ => 0)))] H := hP
  have hD : va_D A [((n 0), .inr (11, [.int 0, .ref (n 1), .ref (n 2), .ref (n 3), .ref (n 4), .int 0, .ref (n 5), .int 0, .int 0, .int 0, .int 0, .int 0, .int 0, .int (-1), .ref (n 6), .ref (n 7), .ref (n 8), .ref (n 9), .ref (n 10), .ref (n 11), .ref (n 12), .int 0, .int 0, .int 0, .int 0, .ref (n 13), .ref (n 14), .ref (n 15), .int 0, .int 0, .int 0, .ref (n 16), .ref (n 17), .int 0, .ref (n 18), .long 0, .long 0, .ref (n 19), .int 0, .long 0, .long 0, .long 0, .ref (n 20), .ref (n 21), .ref (n 22), .ref (n 23)])), ((n 1), .inl (k 0, 99, .inl (fun _ => 0)))] := hD
  subst hr_1
  refine lv_if_ne (tgt := 10) hx hb dX11_agree_4 (by decide) (fun c_3 => absurd (by decide) c_3) (fun c_3 => ?_)
  refine lv_bipush (v := (-2)) hx hb dX11_agree_7 (by decide) ?_
  exact x_reti S hr hlk hQ hS () rfl (x_B P_nil D_nil) dX11_agree_9

set_option maxHeartbeats 4000000 in
set_option maxRecDepth 100000 in
theorem ctX11_still (l : Launch) (D : va_G) (k : Nat → ClassId) (n : Nat → Nat) (f0 : Nat → Int32) (f1 : Nat → Int32) (f2 : Nat → Int32) (f3 : Nat → Int32)  : MU l yX11_still cX11_still 2 (some .int) 4 D k [.ref (n 0)] [((n 0), .inr (11, [.int 0, .ref (n 1), .ref (n 2), .ref (n 3), .ref (n 4), .int 0, .ref (n 5), .int 0, .int 0, .int 0, .int 0, .int 0, .int 0, .int (-1), .ref (n 6), .ref (n 7), .ref (n 8), .ref (n 9), .ref (n 10), .ref (n 11), .ref (n 12), .int 0, .int 0, .int 0, .int 0, .ref (n 13), .ref (n 14), .ref (n 15), .int 0, .int 0, .int 0, .ref (n 16), .ref (n 17), .int 0, .ref (n 18), .long 0, .long 0, .ref (n 19), .int 0, .long 0, .long 0, .long 0, .ref (n 20), .ref (n 21), .ref (n 22), .ref (n 23)])), ((n 1), .inl (k 0, 99, .inl (fun _ => 0))), ((n 10), .inl (k 0, 12, .inl f0)), ((n 13), .inl (k 0, 17, .inl f1)), ((n 14), .inl (k 0, 17, .inl f2)), ((n 15), .inl (k 0, 17, .inl f3))] 0 0 (Ui D (fun (r : Int32) (u : Unit) => r = (-2)) (fun _ : Unit => [])) := by
  refine MU.of (by decide) (Nat.le_of_ble_eq_true rfl) ?_
  intro p e s m below meth c ls A args Q S hr hlk hnm hQ hK hP hD hA hS hl
  have hx := S.1
  have hb := S.2.1
  have hl : lv_has ls 2 [(0, .ref (n 0))] := hl
  refine lv_aload_n hx hb dX11_still_0 rfl (lv_at hl 0 rfl) ?_
  refine x_muVi (wr := []) (As := []) S hK hP hD hS hA hl mwX11_asksGarden lkX11_315 (ctX11_asksGarden l D k n f0 f1 f2 f3 ) [0, 1, 2, 3, 4, 5] [] rfl rfl (by decide) (by decide) (by decide) rfl rfl rfl rfl rfl ⟨Nat.le_of_ble_eq_true rfl, Nat.le_of_ble_eq_true rfl, Nat.le_of_ble_eq_true rfl⟩ dX11_still_1 ⟨Nat.le_of_ble_eq_true rfl, Nat.le_of_ble_eq_true rfl⟩ (fun r_1 u_2 H locs hr_1 hP hD hS => ?_)
  have hP : va_P D vwCl [((n 0), .inr (11, [.int 0, .ref (n 1), .ref (n 2), .ref (n 3), .ref (n 4), .int 0, .ref (n 5), .int 0, .int 0, .int 0, .int 0, .int 0, .int 0, .int (-1), .ref (n 6), .ref (n 7), .ref (n 8), .ref (n 9), .ref (n 10), .ref (n 11), .ref (n 12), .int 0, .int 0, .int 0, .int 0, .ref (n 13), .ref (n 14), .ref (n 15), .int 0, .int 0, .int 0, .ref (n 16), .ref (n 17), .int 0, .ref (n 18), .long 0, .long 0, .ref (n 19), .int 0, .long 0, .long 0, .long 0, .ref (n 20), .ref (n 21), .ref (n 22), .ref (n 23)])), ((n 1), .inl (k 0, 99, .inl (fun _ => 0)))] H := hP
  have hD : va_D A [((n 0), .inr (11, [.int 0, .ref (n 1), .ref (n 2), .ref (n 3), .ref (n 4), .int 0, .ref (n 5), .int 0, .int 0, .int 0, .int 0, .int 0, .int 0, .int (-1), .ref (n 6), .ref (n 7), .ref (n 8), .ref (n 9), .ref (n 10), .ref (n 11), .ref (n 12), .int 0, .int 0, .int 0, .int 0, .ref (n 13), .ref (n 14), .ref (n 15), .int 0, .int 0, .int 0, .ref (n 16), .ref (n 17), .int 0, .ref (n 18), .long 0, .long 0, .ref (n 19), .int 0, .long 0, .long 0, .long 0, .ref (n 20), .ref (n 21), .ref (n 22), .ref (n 23)])), ((n 1), .inl (k 0, 99, .inl (fun _ => 0)))] := hD
  subst hr_1
  refine lv_if_ne (tgt := 10) hx hb dX11_still_4 (by decide) (fun c_3 => absurd (by decide) c_3) (fun c_3 => ?_)
  refine lv_bipush (v := (-2)) hx hb dX11_still_7 (by decide) ?_
  exact x_reti S hr hlk hQ hS () rfl (x_B P_nil D_nil) dX11_still_9

set_option maxHeartbeats 4000000 in
set_option maxRecDepth 100000 in
theorem ctX11_quiet (l : Launch) (D : va_G) (k : Nat → ClassId) (n : Nat → Nat) (f0 : Nat → Int32) (f1 : Nat → Int32) (f2 : Nat → Int32) (f3 : Nat → Int32)  : MU l yX11_quiet cX11_quiet 4 (some .int) 4 D k [.ref (n 0)] [((n 0), .inr (11, [.int 0, .ref (n 1), .ref (n 2), .ref (n 3), .ref (n 4), .int 0, .ref (n 5), .int 0, .int 0, .int 0, .int 0, .int 0, .int 0, .int (-1), .ref (n 6), .ref (n 7), .ref (n 8), .ref (n 9), .ref (n 10), .ref (n 11), .ref (n 12), .int 0, .int 0, .int 0, .int 0, .ref (n 13), .ref (n 14), .ref (n 15), .int 0, .int 0, .int 0, .ref (n 16), .ref (n 17), .int 0, .ref (n 18), .long 0, .long 0, .ref (n 19), .int 0, .long 0, .long 0, .long 0, .ref (n 20), .ref (n 21), .ref (n 22), .ref (n 23)])), ((n 1), .inl (k 0, 99, .inl (fun _ => 0))), ((n 10), .inl (k 0, 12, .inl f0)), ((n 13), .inl (k 0, 17, .inl f1)), ((n 14), .inl (k 0, 17, .inl f2)), ((n 15), .inl (k 0, 17, .inl f3))] 0 0 (Ui D (fun (r : Int32) (u : Unit) => r = (-2)) (fun _ : Unit => [])) := by
  refine MU.of (by decide) (Nat.le_of_ble_eq_true rfl) ?_
  intro p e s m below meth c ls A args Q S hr hlk hnm hQ hK hP hD hA hS hl
  have hx := S.1
  have hb := S.2.1
  have hl : lv_has ls 4 [(0, .ref (n 0))] := hl
  refine lv_aload_n hx hb dX11_quiet_0 rfl (lv_at hl 0 rfl) ?_
  refine x_muVi (wr := []) (As := []) S hK hP hD hS hA hl mwX11_asksGarden lkX11_315 (ctX11_asksGarden l D k n f0 f1 f2 f3 ) [0, 1, 2, 3, 4, 5] [] rfl rfl (by decide) (by decide) (by decide) rfl rfl rfl rfl rfl ⟨Nat.le_of_ble_eq_true rfl, Nat.le_of_ble_eq_true rfl, Nat.le_of_ble_eq_true rfl⟩ dX11_quiet_1 ⟨Nat.le_of_ble_eq_true rfl, Nat.le_of_ble_eq_true rfl⟩ (fun r_1 u_2 H locs hr_1 hP hD hS => ?_)
  have hP : va_P D vwCl [((n 0), .inr (11, [.int 0, .ref (n 1), .ref (n 2), .ref (n 3), .ref (n 4), .int 0, .ref (n 5), .int 0, .int 0, .int 0, .int 0, .int 0, .int 0, .int (-1), .ref (n 6), .ref (n 7), .ref (n 8), .ref (n 9), .ref (n 10), .ref (n 11), .ref (n 12), .int 0, .int 0, .int 0, .int 0, .ref (n 13), .ref (n 14), .ref (n 15), .int 0, .int 0, .int 0, .ref (n 16), .ref (n 17), .int 0, .ref (n 18), .long 0, .long 0, .ref (n 19), .int 0, .long 0, .long 0, .long 0, .ref (n 20), .ref (n 21), .ref (n 22), .ref (n 23)])), ((n 1), .inl (k 0, 99, .inl (fun _ => 0)))] H := hP
  have hD : va_D A [((n 0), .inr (11, [.int 0, .ref (n 1), .ref (n 2), .ref (n 3), .ref (n 4), .int 0, .ref (n 5), .int 0, .int 0, .int 0, .int 0, .int 0, .int 0, .int (-1), .ref (n 6), .ref (n 7), .ref (n 8), .ref (n 9), .ref (n 10), .ref (n 11), .ref (n 12), .int 0, .int 0, .int 0, .int 0, .ref (n 13), .ref (n 14), .ref (n 15), .int 0, .int 0, .int 0, .ref (n 16), .ref (n 17), .int 0, .ref (n 18), .long 0, .long 0, .ref (n 19), .int 0, .long 0, .long 0, .long 0, .ref (n 20), .ref (n 21), .ref (n 22), .ref (n 23)])), ((n 1), .inl (k 0, 99, .inl (fun _ => 0)))] := hD
  subst hr_1
  refine lv_if_ne (tgt := 10) hx hb dX11_quiet_4 (by decide) (fun c_3 => absurd (by decide) c_3) (fun c_3 => ?_)
  refine lv_bipush (v := (-2)) hx hb dX11_quiet_7 (by decide) ?_
  exact x_reti S hr hlk hQ hS () rfl (x_B P_nil D_nil) dX11_quiet_9

set_option maxHeartbeats 4000000 in
set_option maxRecDepth 100000 in
theorem ctX11_settles (l : Launch) (D : va_G) (k : Nat → ClassId) (n : Nat → Nat) (f0 : Nat → Int32) (f1 : Nat → Int32) (f2 : Nat → Int32) (f3 : Nat → Int32)  : MU l yX11_settles cX11_settles 1 (some .int) 4 D k [.ref (n 0)] [((n 0), .inr (11, [.int 0, .ref (n 1), .ref (n 2), .ref (n 3), .ref (n 4), .int 0, .ref (n 5), .int 0, .int 0, .int 0, .int 0, .int 0, .int 0, .int (-1), .ref (n 6), .ref (n 7), .ref (n 8), .ref (n 9), .ref (n 10), .ref (n 11), .ref (n 12), .int 0, .int 0, .int 0, .int 0, .ref (n 13), .ref (n 14), .ref (n 15), .int 0, .int 0, .int 0, .ref (n 16), .ref (n 17), .int 0, .ref (n 18), .long 0, .long 0, .ref (n 19), .int 0, .long 0, .long 0, .long 0, .ref (n 20), .ref (n 21), .ref (n 22), .ref (n 23)])), ((n 1), .inl (k 0, 99, .inl (fun _ => 0))), ((n 10), .inl (k 0, 12, .inl f0)), ((n 13), .inl (k 0, 17, .inl f1)), ((n 14), .inl (k 0, 17, .inl f2)), ((n 15), .inl (k 0, 17, .inl f3))] 0 0 (Ui D (fun (r : Int32) (u : Unit) => r = (-2)) (fun _ : Unit => [])) := by
  refine MU.of (by decide) (Nat.le_of_ble_eq_true rfl) ?_
  intro p e s m below meth c ls A args Q S hr hlk hnm hQ hK hP hD hA hS hl
  have hx := S.1
  have hb := S.2.1
  have hl : lv_has ls 1 [(0, .ref (n 0))] := hl
  refine lv_aload_n hx hb dX11_settles_0 rfl (lv_at hl 0 rfl) ?_
  refine x_muVi (wr := []) (As := []) S hK hP hD hS hA hl mwX11_asksGarden lkX11_315 (ctX11_asksGarden l D k n f0 f1 f2 f3 ) [0, 1, 2, 3, 4, 5] [] rfl rfl (by decide) (by decide) (by decide) rfl rfl rfl rfl rfl ⟨Nat.le_of_ble_eq_true rfl, Nat.le_of_ble_eq_true rfl, Nat.le_of_ble_eq_true rfl⟩ dX11_settles_1 ⟨Nat.le_of_ble_eq_true rfl, Nat.le_of_ble_eq_true rfl⟩ (fun r_1 u_2 H locs hr_1 hP hD hS => ?_)
  have hP : va_P D vwCl [((n 0), .inr (11, [.int 0, .ref (n 1), .ref (n 2), .ref (n 3), .ref (n 4), .int 0, .ref (n 5), .int 0, .int 0, .int 0, .int 0, .int 0, .int 0, .int (-1), .ref (n 6), .ref (n 7), .ref (n 8), .ref (n 9), .ref (n 10), .ref (n 11), .ref (n 12), .int 0, .int 0, .int 0, .int 0, .ref (n 13), .ref (n 14), .ref (n 15), .int 0, .int 0, .int 0, .ref (n 16), .ref (n 17), .int 0, .ref (n 18), .long 0, .long 0, .ref (n 19), .int 0, .long 0, .long 0, .long 0, .ref (n 20), .ref (n 21), .ref (n 22), .ref (n 23)])), ((n 1), .inl (k 0, 99, .inl (fun _ => 0)))] H := hP
  have hD : va_D A [((n 0), .inr (11, [.int 0, .ref (n 1), .ref (n 2), .ref (n 3), .ref (n 4), .int 0, .ref (n 5), .int 0, .int 0, .int 0, .int 0, .int 0, .int 0, .int (-1), .ref (n 6), .ref (n 7), .ref (n 8), .ref (n 9), .ref (n 10), .ref (n 11), .ref (n 12), .int 0, .int 0, .int 0, .int 0, .ref (n 13), .ref (n 14), .ref (n 15), .int 0, .int 0, .int 0, .ref (n 16), .ref (n 17), .int 0, .ref (n 18), .long 0, .long 0, .ref (n 19), .int 0, .long 0, .long 0, .long 0, .ref (n 20), .ref (n 21), .ref (n 22), .ref (n 23)])), ((n 1), .inl (k 0, 99, .inl (fun _ => 0)))] := hD
  subst hr_1
  refine lv_if_eq (tgt := 14) hx hb dX11_settles_4 (by decide) (fun c_3 => ?_) (fun c_3 => absurd (by decide) c_3)
  refine lv_bipush (v := (-2)) hx hb dX11_settles_14 (by decide) ?_
  exact x_reti S hr hlk hQ hS () rfl (x_B P_nil D_nil) dX11_settles_16

set_option maxHeartbeats 4000000 in
set_option maxRecDepth 100000 in
theorem ctX11_round (l : Launch) (D : va_G) (k : Nat → ClassId) (n : Nat → Nat) (f0 : Nat → Int32) (f1 : Nat → Int32) (f2 : Nat → Int32) (f3 : Nat → Int32)  : MU l yX11_round cX11_round 1 (some .int) 4 D k [.ref (n 0)] [((n 0), .inr (11, [.int 0, .ref (n 1), .ref (n 2), .ref (n 3), .ref (n 4), .int 0, .ref (n 5), .int 0, .int 0, .int 0, .int 0, .int 0, .int 0, .int (-1), .ref (n 6), .ref (n 7), .ref (n 8), .ref (n 9), .ref (n 10), .ref (n 11), .ref (n 12), .int 0, .int 0, .int 0, .int 0, .ref (n 13), .ref (n 14), .ref (n 15), .int 0, .int 0, .int 0, .ref (n 16), .ref (n 17), .int 0, .ref (n 18), .long 0, .long 0, .ref (n 19), .int 0, .long 0, .long 0, .long 0, .ref (n 20), .ref (n 21), .ref (n 22), .ref (n 23)])), ((n 1), .inl (k 0, 99, .inl (fun _ => 0))), ((n 10), .inl (k 0, 12, .inl f0)), ((n 13), .inl (k 0, 17, .inl f1)), ((n 14), .inl (k 0, 17, .inl f2)), ((n 15), .inl (k 0, 17, .inl f3))] 0 0 (Ui D (fun (r : Int32) (u : Unit) => r = (-2)) (fun _ : Unit => [])) := by
  refine MU.of (by decide) (Nat.le_of_ble_eq_true rfl) ?_
  intro p e s m below meth c ls A args Q S hr hlk hnm hQ hK hP hD hA hS hl
  have hx := S.1
  have hb := S.2.1
  have hl : lv_has ls 1 [(0, .ref (n 0))] := hl
  refine lv_aload_n hx hb dX11_round_0 rfl (lv_at hl 0 rfl) ?_
  refine x_muVi (wr := []) (As := []) S hK hP hD hS hA hl mwX11_asksGarden lkX11_315 (ctX11_asksGarden l D k n f0 f1 f2 f3 ) [0, 1, 2, 3, 4, 5] [] rfl rfl (by decide) (by decide) (by decide) rfl rfl rfl rfl rfl ⟨Nat.le_of_ble_eq_true rfl, Nat.le_of_ble_eq_true rfl, Nat.le_of_ble_eq_true rfl⟩ dX11_round_1 ⟨Nat.le_of_ble_eq_true rfl, Nat.le_of_ble_eq_true rfl⟩ (fun r_1 u_2 H locs hr_1 hP hD hS => ?_)
  have hP : va_P D vwCl [((n 0), .inr (11, [.int 0, .ref (n 1), .ref (n 2), .ref (n 3), .ref (n 4), .int 0, .ref (n 5), .int 0, .int 0, .int 0, .int 0, .int 0, .int 0, .int (-1), .ref (n 6), .ref (n 7), .ref (n 8), .ref (n 9), .ref (n 10), .ref (n 11), .ref (n 12), .int 0, .int 0, .int 0, .int 0, .ref (n 13), .ref (n 14), .ref (n 15), .int 0, .int 0, .int 0, .ref (n 16), .ref (n 17), .int 0, .ref (n 18), .long 0, .long 0, .ref (n 19), .int 0, .long 0, .long 0, .long 0, .ref (n 20), .ref (n 21), .ref (n 22), .ref (n 23)])), ((n 1), .inl (k 0, 99, .inl (fun _ => 0)))] H := hP
  have hD : va_D A [((n 0), .inr (11, [.int 0, .ref (n 1), .ref (n 2), .ref (n 3), .ref (n 4), .int 0, .ref (n 5), .int 0, .int 0, .int 0, .int 0, .int 0, .int 0, .int (-1), .ref (n 6), .ref (n 7), .ref (n 8), .ref (n 9), .ref (n 10), .ref (n 11), .ref (n 12), .int 0, .int 0, .int 0, .int 0, .ref (n 13), .ref (n 14), .ref (n 15), .int 0, .int 0, .int 0, .ref (n 16), .ref (n 17), .int 0, .ref (n 18), .long 0, .long 0, .ref (n 19), .int 0, .long 0, .long 0, .long 0, .ref (n 20), .ref (n 21), .ref (n 22), .ref (n 23)])), ((n 1), .inl (k 0, 99, .inl (fun _ => 0)))] := hD
  subst hr_1
  refine lv_if_ne (tgt := 10) hx hb dX11_round_4 (by decide) (fun c_3 => absurd (by decide) c_3) (fun c_3 => ?_)
  refine lv_bipush (v := (-2)) hx hb dX11_round_7 (by decide) ?_
  exact x_reti S hr hlk hQ hS () rfl (x_B P_nil D_nil) dX11_round_9

set_option maxHeartbeats 4000000 in
set_option maxRecDepth 100000 in
theorem ctX11_mind (l : Launch) (D : va_G) (k : Nat → ClassId) (n : Nat → Nat) (f0 : Nat → Int32) (f1 : Nat → Int32) (f2 : Nat → Int32) (f3 : Nat → Int32) (p0 : Int32) (p1 : Int32)  : MU l yX11_mind cX11_mind 3 (some .int) 5 D k [.ref (n 0), .int p0, .int p1] [((n 0), .inr (11, [.int 0, .ref (n 1), .ref (n 2), .ref (n 3), .ref (n 4), .int 0, .ref (n 5), .int 0, .int 0, .int 0, .int 0, .int 0, .int 0, .int (-1), .ref (n 6), .ref (n 7), .ref (n 8), .ref (n 9), .ref (n 10), .ref (n 11), .ref (n 12), .int 0, .int 0, .int 0, .int 0, .ref (n 13), .ref (n 14), .ref (n 15), .int 0, .int 0, .int 0, .ref (n 16), .ref (n 17), .int 0, .ref (n 18), .long 0, .long 0, .ref (n 19), .int 0, .long 0, .long 0, .long 0, .ref (n 20), .ref (n 21), .ref (n 22), .ref (n 23)])), ((n 1), .inl (k 0, 99, .inl (fun _ => 0))), ((n 10), .inl (k 0, 12, .inl f0)), ((n 13), .inl (k 0, 17, .inl f1)), ((n 14), .inl (k 0, 17, .inl f2)), ((n 15), .inl (k 0, 17, .inl f3))] 0 0 (Ui D (fun (r : Int32) (u : Unit) => r = (-2)) (fun _ : Unit => [])) := by
  refine MU.of (by decide) (Nat.le_of_ble_eq_true rfl) ?_
  intro p e s m below meth c ls A args Q S hr hlk hnm hQ hK hP hD hA hS hl
  have hx := S.1
  have hb := S.2.1
  have hl : lv_has ls 3 [(0, .ref (n 0)), (1, .int p0), (2, .int p1)] := hl
  refine lv_aload_n hx hb dX11_mind_0 rfl (lv_at hl 0 rfl) ?_
  refine lv_iload_n hx hb dX11_mind_1 rfl (lv_at hl 2 rfl) ?_
  refine x_muVi (wr := []) (As := [.int p1]) S hK hP hD hS hA hl mwX11_asksHour lkX11_330 (ctX11_asksHour l D k n f0 f1 f2 f3 p1 ) [0, 1, 2, 3, 4, 5] [] rfl rfl (by decide) (by decide) (by decide) rfl rfl rfl rfl rfl ⟨Nat.le_of_ble_eq_true rfl, Nat.le_of_ble_eq_true rfl, Nat.le_of_ble_eq_true rfl⟩ dX11_mind_2 ⟨Nat.le_of_ble_eq_true rfl, Nat.le_of_ble_eq_true rfl⟩ (fun r_1 u_2 H locs hr_1 hP hD hS => ?_)
  have hP : va_P D vwCl [] H := hP
  have hD : va_D A [] := hD
  subst hr_1
  refine lv_if_eq (tgt := 25) hx hb dX11_mind_5 (by decide) (fun c_3 => ?_) (fun c_3 => absurd (by decide) c_3)
  refine lv_bipush (v := (-2)) hx hb dX11_mind_25 (by decide) ?_
  exact x_reti S hr hlk hQ hS () rfl (x_B P_nil D_nil) dX11_mind_27

set_option maxHeartbeats 4000000 in
set_option maxRecDepth 100000 in
theorem ctX11_rows (l : Launch) (D : va_G) (k : Nat → ClassId) (n : Nat → Nat) (f0 : Nat → Int32) (f1 : Nat → Int32) (f2 : Nat → Int32) (f3 : Nat → Int32) (p0 : Int32) (p1 : Int32)  : MU l yX11_rows cX11_rows 5 (some .int) 5 D k [.ref (n 0), .int p0, .int p1] [((n 0), .inr (11, [.int 0, .ref (n 1), .ref (n 2), .ref (n 3), .ref (n 4), .int 0, .ref (n 5), .int 0, .int 0, .int 0, .int 0, .int 0, .int 0, .int (-1), .ref (n 6), .ref (n 7), .ref (n 8), .ref (n 9), .ref (n 10), .ref (n 11), .ref (n 12), .int 0, .int 0, .int 0, .int 0, .ref (n 13), .ref (n 14), .ref (n 15), .int 0, .int 0, .int 0, .ref (n 16), .ref (n 17), .int 0, .ref (n 18), .long 0, .long 0, .ref (n 19), .int 0, .long 0, .long 0, .long 0, .ref (n 20), .ref (n 21), .ref (n 22), .ref (n 23)])), ((n 1), .inl (k 0, 99, .inl (fun _ => 0))), ((n 10), .inl (k 0, 12, .inl f0)), ((n 13), .inl (k 0, 17, .inl f1)), ((n 14), .inl (k 0, 17, .inl f2)), ((n 15), .inl (k 0, 17, .inl f3))] 0 0 (Ui D (fun (r : Int32) (u : Unit) => r = (-2)) (fun _ : Unit => [])) := by
  refine MU.of (by decide) (Nat.le_of_ble_eq_true rfl) ?_
  intro p e s m below meth c ls A args Q S hr hlk hnm hQ hK hP hD hA hS hl
  have hx := S.1
  have hb := S.2.1
  have hl : lv_has ls 5 [(0, .ref (n 0)), (1, .int p0), (2, .int p1)] := hl
  refine lv_aload_n hx hb dX11_rows_0 rfl (lv_at hl 0 rfl) ?_
  refine lv_iload_n hx hb dX11_rows_1 rfl (lv_at hl 2 rfl) ?_
  refine x_muVi (wr := []) (As := [.int p1]) S hK hP hD hS hA hl mwX11_asksHour lkX11_330 (ctX11_asksHour l D k n f0 f1 f2 f3 p1 ) [0, 1, 2, 3, 4, 5] [] rfl rfl (by decide) (by decide) (by decide) rfl rfl rfl rfl rfl ⟨Nat.le_of_ble_eq_true rfl, Nat.le_of_ble_eq_true rfl, Nat.le_of_ble_eq_true rfl⟩ dX11_rows_2 ⟨Nat.le_of_ble_eq_true rfl, Nat.le_of_ble_eq_true rfl⟩ (fun r_1 u_2 H locs hr_1 hP hD hS => ?_)
  have hP : va_P D vwCl [] H := hP
  have hD : va_D A [] := hD
  subst hr_1
  refine lv_if_eq (tgt := 16) hx hb dX11_rows_5 (by decide) (fun c_3 => ?_) (fun c_3 => absurd (by decide) c_3)
  refine lv_bipush (v := (-2)) hx hb dX11_rows_16 (by decide) ?_
  exact x_reti S hr hlk hQ hS () rfl (x_B P_nil D_nil) dX11_rows_18

set_option maxHeartbeats 4000000 in
set_option maxRecDepth 100000 in
theorem ctX11_split (l : Launch) (D : va_G) (k : Nat → ClassId) (n : Nat → Nat) (f0 : Nat → Int32) (f1 : Nat → Int32) (f2 : Nat → Int32) (f3 : Nat → Int32) (p0 : Int32)  : MU l yX11_split cX11_split 2 (some .int) 5 D k [.ref (n 0), .int p0] [((n 0), .inr (11, [.int 0, .ref (n 1), .ref (n 2), .ref (n 3), .ref (n 4), .int 0, .ref (n 5), .int 0, .int 0, .int 0, .int 0, .int 0, .int 0, .int (-1), .ref (n 6), .ref (n 7), .ref (n 8), .ref (n 9), .ref (n 10), .ref (n 11), .ref (n 12), .int 0, .int 0, .int 0, .int 0, .ref (n 13), .ref (n 14), .ref (n 15), .int 0, .int 0, .int 0, .ref (n 16), .ref (n 17), .int 0, .ref (n 18), .long 0, .long 0, .ref (n 19), .int 0, .long 0, .long 0, .long 0, .ref (n 20), .ref (n 21), .ref (n 22), .ref (n 23)])), ((n 1), .inl (k 0, 99, .inl (fun _ => 0))), ((n 10), .inl (k 0, 12, .inl f0)), ((n 13), .inl (k 0, 17, .inl f1)), ((n 14), .inl (k 0, 17, .inl f2)), ((n 15), .inl (k 0, 17, .inl f3))] 0 0 (Ui D (fun (r : Int32) (u : Unit) => r = (-2)) (fun _ : Unit => [])) := by
  refine MU.of (by decide) (Nat.le_of_ble_eq_true rfl) ?_
  intro p e s m below meth c ls A args Q S hr hlk hnm hQ hK hP hD hA hS hl
  have hx := S.1
  have hb := S.2.1
  have hl : lv_has ls 2 [(0, .ref (n 0)), (1, .int p0)] := hl
  refine lv_aload_n hx hb dX11_split_0 rfl (lv_at hl 0 rfl) ?_
  refine lv_iload_n hx hb dX11_split_1 rfl (lv_at hl 1 rfl) ?_
  refine x_muVi (wr := []) (As := [.int p0]) S hK hP hD hS hA hl mwX11_asksHour lkX11_330 (ctX11_asksHour l D k n f0 f1 f2 f3 p0 ) [0, 1, 2, 3, 4, 5] [] rfl rfl (by decide) (by decide) (by decide) rfl rfl rfl rfl rfl ⟨Nat.le_of_ble_eq_true rfl, Nat.le_of_ble_eq_true rfl, Nat.le_of_ble_eq_true rfl⟩ dX11_split_2 ⟨Nat.le_of_ble_eq_true rfl, Nat.le_of_ble_eq_true rfl⟩ (fun r_1 u_2 H locs hr_1 hP hD hS => ?_)
  have hP : va_P D vwCl [] H := hP
  have hD : va_D A [] := hD
  subst hr_1
  refine lv_if_eq (tgt := 33) hx hb dX11_split_5 (by decide) (fun c_3 => ?_) (fun c_3 => absurd (by decide) c_3)
  refine lv_bipush (v := (-2)) hx hb dX11_split_33 (by decide) ?_
  exact x_reti S hr hlk hQ hS () rfl (x_B P_nil D_nil) dX11_split_35

set_option maxHeartbeats 4000000 in
set_option maxRecDepth 100000 in
theorem ctX11_main (l : Launch) (D : va_G) (k : Nat → ClassId) (n : Nat → Nat) (f0 : Nat → Int32) (f1 : Nat → Int32) (f2 : Nat → Int32) (f3 : Nat → Int32) (p0 : Int32)  : MU l yX11_main cX11_main 3 (some .int) 5 D k [.ref (n 0), .int p0] [((n 0), .inr (11, [.int 0, .ref (n 1), .ref (n 2), .ref (n 3), .ref (n 4), .int 0, .ref (n 5), .int 0, .int 0, .int 0, .int 0, .int 0, .int 0, .int (-1), .ref (n 6), .ref (n 7), .ref (n 8), .ref (n 9), .ref (n 10), .ref (n 11), .ref (n 12), .int 0, .int 0, .int 0, .int 0, .ref (n 13), .ref (n 14), .ref (n 15), .int 0, .int 0, .int 0, .ref (n 16), .ref (n 17), .int 0, .ref (n 18), .long 0, .long 0, .ref (n 19), .int 0, .long 0, .long 0, .long 0, .ref (n 20), .ref (n 21), .ref (n 22), .ref (n 23)])), ((n 1), .inl (k 0, 99, .inl (fun _ => 0))), ((n 10), .inl (k 0, 12, .inl f0)), ((n 13), .inl (k 0, 17, .inl f1)), ((n 14), .inl (k 0, 17, .inl f2)), ((n 15), .inl (k 0, 17, .inl f3))] 0 0 (Ui D (fun (r : Int32) (u : Unit) => r = (-2)) (fun _ : Unit => [])) := by
  refine MU.of (by decide) (Nat.le_of_ble_eq_true rfl) ?_
  intro p e s m below meth c ls A args Q S hr hlk hnm hQ hK hP hD hA hS hl
  have hx := S.1
  have hb := S.2.1
  have hl : lv_has ls 3 [(0, .ref (n 0)), (1, .int p0)] := hl
  refine lv_aload_n hx hb dX11_main_0 rfl (lv_at hl 0 rfl) ?_
  refine lv_iload_n hx hb dX11_main_1 rfl (lv_at hl 1 rfl) ?_
  refine x_muVi (wr := []) (As := [.int p0]) S hK hP hD hS hA hl mwX11_asksHour lkX11_330 (ctX11_asksHour l D k n f0 f1 f2 f3 p0 ) [0, 1, 2, 3, 4, 5] [] rfl rfl (by decide) (by decide) (by decide) rfl rfl rfl rfl rfl ⟨Nat.le_of_ble_eq_true rfl, Nat.le_of_ble_eq_true rfl, Nat.le_of_ble_eq_true rfl⟩ dX11_main_2 ⟨Nat.le_of_ble_eq_true rfl, Nat.le_of_ble_eq_true rfl⟩ (fun r_1 u_2 H locs hr_1 hP hD hS => ?_)
  have hP : va_P D vwCl [] H := hP
  have hD : va_D A [] := hD
  subst hr_1
  refine lv_if_ne (tgt := 11) hx hb dX11_main_5 (by decide) (fun c_3 => absurd (by decide) c_3) (fun c_3 => ?_)
  refine lv_bipush (v := (-2)) hx hb dX11_main_8 (by decide) ?_
  exact x_reti S hr hlk hQ hS () rfl (x_B P_nil D_nil) dX11_main_10

set_option maxHeartbeats 4000000 in
set_option maxRecDepth 100000 in
theorem ctX11_first (l : Launch) (D : va_G) (k : Nat → ClassId) (n : Nat → Nat) (f0 : Nat → Int32) (f1 : Nat → Int32) (f2 : Nat → Int32) (f3 : Nat → Int32) (p0 : Int32)  : MU l yX11_first cX11_first 3 (some .int) 4 D k [.ref (n 0), .int p0] [((n 0), .inr (11, [.int 0, .ref (n 1), .ref (n 2), .ref (n 3), .ref (n 4), .int 0, .ref (n 5), .int 0, .int 0, .int 0, .int 0, .int 0, .int 0, .int (-1), .ref (n 6), .ref (n 7), .ref (n 8), .ref (n 9), .ref (n 10), .ref (n 11), .ref (n 12), .int 0, .int 0, .int 0, .int 0, .ref (n 13), .ref (n 14), .ref (n 15), .int 0, .int 0, .int 0, .ref (n 16), .ref (n 17), .int 0, .ref (n 18), .long 0, .long 0, .ref (n 19), .int 0, .long 0, .long 0, .long 0, .ref (n 20), .ref (n 21), .ref (n 22), .ref (n 23)])), ((n 1), .inl (k 0, 99, .inl (fun _ => 0))), ((n 10), .inl (k 0, 12, .inl f0)), ((n 13), .inl (k 0, 17, .inl f1)), ((n 14), .inl (k 0, 17, .inl f2)), ((n 15), .inl (k 0, 17, .inl f3))] 0 0 (Ui D (fun (r : Int32) (u : Unit) => r = (-2)) (fun _ : Unit => [])) := by
  refine MU.of (by decide) (Nat.le_of_ble_eq_true rfl) ?_
  intro p e s m below meth c ls A args Q S hr hlk hnm hQ hK hP hD hA hS hl
  have hx := S.1
  have hb := S.2.1
  have hl : lv_has ls 3 [(0, .ref (n 0)), (1, .int p0)] := hl
  refine lv_aload_n hx hb dX11_first_0 rfl (lv_at hl 0 rfl) ?_
  refine x_muVi (wr := []) (As := []) S hK hP hD hS hA hl mwX11_asksGarden lkX11_315 (ctX11_asksGarden l D k n f0 f1 f2 f3 ) [0, 1, 2, 3, 4, 5] [] rfl rfl (by decide) (by decide) (by decide) rfl rfl rfl rfl rfl ⟨Nat.le_of_ble_eq_true rfl, Nat.le_of_ble_eq_true rfl, Nat.le_of_ble_eq_true rfl⟩ dX11_first_1 ⟨Nat.le_of_ble_eq_true rfl, Nat.le_of_ble_eq_true rfl⟩ (fun r_1 u_2 H locs hr_1 hP hD hS => ?_)
  have hP : va_P D vwCl [((n 0), .inr (11, [.int 0, .ref (n 1), .ref (n 2), .ref (n 3), .ref (n 4), .int 0, .ref (n 5), .int 0, .int 0, .int 0, .int 0, .int 0, .int 0, .int (-1), .ref (n 6), .ref (n 7), .ref (n 8), .ref (n 9), .ref (n 10), .ref (n 11), .ref (n 12), .int 0, .int 0, .int 0, .int 0, .ref (n 13), .ref (n 14), .ref (n 15), .int 0, .int 0, .int 0, .ref (n 16), .ref (n 17), .int 0, .ref (n 18), .long 0, .long 0, .ref (n 19), .int 0, .long 0, .long 0, .long 0, .ref (n 20), .ref (n 21), .ref (n 22), .ref (n 23)])), ((n 1), .inl (k 0, 99, .inl (fun _ => 0)))] H := hP
  have hD : va_D A [((n 0), .inr (11, [.int 0, .ref (n 1), .ref (n 2), .ref (n 3), .ref (n 4), .int 0, .ref (n 5), .int 0, .int 0, .int 0, .int 0, .int 0, .int 0, .int (-1), .ref (n 6), .ref (n 7), .ref (n 8), .ref (n 9), .ref (n 10), .ref (n 11), .ref (n 12), .int 0, .int 0, .int 0, .int 0, .ref (n 13), .ref (n 14), .ref (n 15), .int 0, .int 0, .int 0, .ref (n 16), .ref (n 17), .int 0, .ref (n 18), .long 0, .long 0, .ref (n 19), .int 0, .long 0, .long 0, .long 0, .ref (n 20), .ref (n 21), .ref (n 22), .ref (n 23)])), ((n 1), .inl (k 0, 99, .inl (fun _ => 0)))] := hD
  subst hr_1
  refine lv_if_eq (tgt := 15) hx hb dX11_first_4 (by decide) (fun c_3 => ?_) (fun c_3 => absurd (by decide) c_3)
  refine lv_bipush (v := (-2)) hx hb dX11_first_15 (by decide) ?_
  exact x_reti S hr hlk hQ hS () rfl (x_B P_nil D_nil) dX11_first_17

set_option maxHeartbeats 4000000 in
set_option maxRecDepth 100000 in
theorem ctX11_solid (l : Launch) (D : va_G) (k : Nat → ClassId) (n : Nat → Nat) (f0 : Nat → Int32) (f1 : Nat → Int32) (f2 : Nat → Int32) (f3 : Nat → Int32) (p0 : Int32)  : MU l yX11_solid cX11_solid 4 (some .int) 5 D k [.ref (n 0), .int p0] [((n 0), .inr (11, [.int 0, .ref (n 1), .ref (n 2), .ref (n 3), .ref (n 4), .int 0, .ref (n 5), .int 0, .int 0, .int 0, .int 0, .int 0, .int 0, .int (-1), .ref (n 6), .ref (n 7), .ref (n 8), .ref (n 9), .ref (n 10), .ref (n 11), .ref (n 12), .int 0, .int 0, .int 0, .int 0, .ref (n 13), .ref (n 14), .ref (n 15), .int 0, .int 0, .int 0, .ref (n 16), .ref (n 17), .int 0, .ref (n 18), .long 0, .long 0, .ref (n 19), .int 0, .long 0, .long 0, .long 0, .ref (n 20), .ref (n 21), .ref (n 22), .ref (n 23)])), ((n 1), .inl (k 0, 99, .inl (fun _ => 0))), ((n 10), .inl (k 0, 12, .inl f0)), ((n 13), .inl (k 0, 17, .inl f1)), ((n 14), .inl (k 0, 17, .inl f2)), ((n 15), .inl (k 0, 17, .inl f3))] 0 0 (Ui D (fun (r : Int32) (u : Unit) => r = (-2)) (fun _ : Unit => [])) := by
  refine MU.of (by decide) (Nat.le_of_ble_eq_true rfl) ?_
  intro p e s m below meth c ls A args Q S hr hlk hnm hQ hK hP hD hA hS hl
  have hx := S.1
  have hb := S.2.1
  have hl : lv_has ls 4 [(0, .ref (n 0)), (1, .int p0)] := hl
  refine lv_aload_n hx hb dX11_solid_0 rfl (lv_at hl 0 rfl) ?_
  refine lv_iload_n hx hb dX11_solid_1 rfl (lv_at hl 1 rfl) ?_
  refine x_muVi (wr := []) (As := [.int p0]) S hK hP hD hS hA hl mwX11_asksHour lkX11_330 (ctX11_asksHour l D k n f0 f1 f2 f3 p0 ) [0, 1, 2, 3, 4, 5] [] rfl rfl (by decide) (by decide) (by decide) rfl rfl rfl rfl rfl ⟨Nat.le_of_ble_eq_true rfl, Nat.le_of_ble_eq_true rfl, Nat.le_of_ble_eq_true rfl⟩ dX11_solid_2 ⟨Nat.le_of_ble_eq_true rfl, Nat.le_of_ble_eq_true rfl⟩ (fun r_1 u_2 H locs hr_1 hP hD hS => ?_)
  have hP : va_P D vwCl [] H := hP
  have hD : va_D A [] := hD
  subst hr_1
  refine lv_if_ne (tgt := 11) hx hb dX11_solid_5 (by decide) (fun c_3 => absurd (by decide) c_3) (fun c_3 => ?_)
  refine lv_bipush (v := (-2)) hx hb dX11_solid_8 (by decide) ?_
  exact x_reti S hr hlk hQ hS () rfl (x_B P_nil D_nil) dX11_solid_10

set_option maxHeartbeats 4000000 in
set_option maxRecDepth 100000 in
theorem ctX11_longest (l : Launch) (D : va_G) (k : Nat → ClassId) (n : Nat → Nat) (f0 : Nat → Int32) (f1 : Nat → Int32) (f2 : Nat → Int32) (f3 : Nat → Int32) (p0 : Int32) (p1 : Int32)  : MU l yX11_longest cX11_longest 7 (some .int) 5 D k [.ref (n 0), .int p0, .int p1] [((n 0), .inr (11, [.int 0, .ref (n 1), .ref (n 2), .ref (n 3), .ref (n 4), .int 0, .ref (n 5), .int 0, .int 0, .int 0, .int 0, .int 0, .int 0, .int (-1), .ref (n 6), .ref (n 7), .ref (n 8), .ref (n 9), .ref (n 10), .ref (n 11), .ref (n 12), .int 0, .int 0, .int 0, .int 0, .ref (n 13), .ref (n 14), .ref (n 15), .int 0, .int 0, .int 0, .ref (n 16), .ref (n 17), .int 0, .ref (n 18), .long 0, .long 0, .ref (n 19), .int 0, .long 0, .long 0, .long 0, .ref (n 20), .ref (n 21), .ref (n 22), .ref (n 23)])), ((n 1), .inl (k 0, 99, .inl (fun _ => 0))), ((n 10), .inl (k 0, 12, .inl f0)), ((n 13), .inl (k 0, 17, .inl f1)), ((n 14), .inl (k 0, 17, .inl f2)), ((n 15), .inl (k 0, 17, .inl f3))] 0 0 (Ui D (fun (r : Int32) (u : Unit) => r = (-2)) (fun _ : Unit => [])) := by
  refine MU.of (by decide) (Nat.le_of_ble_eq_true rfl) ?_
  intro p e s m below meth c ls A args Q S hr hlk hnm hQ hK hP hD hA hS hl
  have hx := S.1
  have hb := S.2.1
  have hl : lv_has ls 7 [(0, .ref (n 0)), (1, .int p0), (2, .int p1)] := hl
  refine lv_aload_n hx hb dX11_longest_0 rfl (lv_at hl 0 rfl) ?_
  refine lv_iload_n hx hb dX11_longest_1 rfl (lv_at hl 2 rfl) ?_
  refine x_muVi (wr := []) (As := [.int p1]) S hK hP hD hS hA hl mwX11_asksHour lkX11_330 (ctX11_asksHour l D k n f0 f1 f2 f3 p1 ) [0, 1, 2, 3, 4, 5] [] rfl rfl (by decide) (by decide) (by decide) rfl rfl rfl rfl rfl ⟨Nat.le_of_ble_eq_true rfl, Nat.le_of_ble_eq_true rfl, Nat.le_of_ble_eq_true rfl⟩ dX11_longest_2 ⟨Nat.le_of_ble_eq_true rfl, Nat.le_of_ble_eq_true rfl⟩ (fun r_1 u_2 H locs hr_1 hP hD hS => ?_)
  have hP : va_P D vwCl [] H := hP
  have hD : va_D A [] := hD
  subst hr_1
  refine lv_if_eq (tgt := 16) hx hb dX11_longest_5 (by decide) (fun c_3 => ?_) (fun c_3 => absurd (by decide) c_3)
  refine lv_bipush (v := (-2)) hx hb dX11_longest_16 (by decide) ?_
  exact x_reti S hr hlk hQ hS () rfl (x_B P_nil D_nil) dX11_longest_18

set_option maxHeartbeats 4000000 in
set_option maxRecDepth 100000 in
theorem ctX11_pull (l : Launch) (D : va_G) (k : Nat → ClassId) (n : Nat → Nat) (f0 : Nat → Int32) (f1 : Nat → Int32) (f2 : Nat → Int32) (f3 : Nat → Int32) (p0 : Int32) (p1 : Int32)  : MU l yX11_pull cX11_pull 3 (some .int) 5 D k [.ref (n 0), .int p0, .int p1] [((n 0), .inr (11, [.int 0, .ref (n 1), .ref (n 2), .ref (n 3), .ref (n 4), .int 0, .ref (n 5), .int 0, .int 0, .int 0, .int 0, .int 0, .int 0, .int (-1), .ref (n 6), .ref (n 7), .ref (n 8), .ref (n 9), .ref (n 10), .ref (n 11), .ref (n 12), .int 0, .int 0, .int 0, .int 0, .ref (n 13), .ref (n 14), .ref (n 15), .int 0, .int 0, .int 0, .ref (n 16), .ref (n 17), .int 0, .ref (n 18), .long 0, .long 0, .ref (n 19), .int 0, .long 0, .long 0, .long 0, .ref (n 20), .ref (n 21), .ref (n 22), .ref (n 23)])), ((n 1), .inl (k 0, 99, .inl (fun _ => 0))), ((n 10), .inl (k 0, 12, .inl f0)), ((n 13), .inl (k 0, 17, .inl f1)), ((n 14), .inl (k 0, 17, .inl f2)), ((n 15), .inl (k 0, 17, .inl f3))] 0 0 (Ui D (fun (r : Int32) (u : Unit) => r = (-1000)) (fun _ : Unit => [])) := by
  refine MU.of (by decide) (Nat.le_of_ble_eq_true rfl) ?_
  intro p e s m below meth c ls A args Q S hr hlk hnm hQ hK hP hD hA hS hl
  have hx := S.1
  have hb := S.2.1
  have hl : lv_has ls 3 [(0, .ref (n 0)), (1, .int p0), (2, .int p1)] := hl
  refine lv_aload_n hx hb dX11_pull_0 rfl (lv_at hl 0 rfl) ?_
  refine lv_iload_n hx hb dX11_pull_1 rfl (lv_at hl 2 rfl) ?_
  refine x_muVi (wr := []) (As := [.int p1]) S hK hP hD hS hA hl mwX11_asksHour lkX11_330 (ctX11_asksHour l D k n f0 f1 f2 f3 p1 ) [0, 1, 2, 3, 4, 5] [] rfl rfl (by decide) (by decide) (by decide) rfl rfl rfl rfl rfl ⟨Nat.le_of_ble_eq_true rfl, Nat.le_of_ble_eq_true rfl, Nat.le_of_ble_eq_true rfl⟩ dX11_pull_2 ⟨Nat.le_of_ble_eq_true rfl, Nat.le_of_ble_eq_true rfl⟩ (fun r_1 u_2 H locs hr_1 hP hD hS => ?_)
  have hP : va_P D vwCl [] H := hP
  have hD : va_D A [] := hD
  subst hr_1
  refine lv_if_eq (tgt := 37) hx hb dX11_pull_5 (by decide) (fun c_3 => ?_) (fun c_3 => absurd (by decide) c_3)
  refine lv_sipush (v := (-1000)) hx hb dX11_pull_37 (by decide) ?_
  exact x_reti S hr hlk hQ hS () rfl (x_B P_nil D_nil) dX11_pull_40

set_option maxHeartbeats 4000000 in
set_option maxRecDepth 100000 in
theorem ctX11_tied (l : Launch) (D : va_G) (k : Nat → ClassId) (n : Nat → Nat) (f0 : Nat → Int32) (f1 : Nat → Int32) (f2 : Nat → Int32) (f3 : Nat → Int32) (p0 : Int32)  : MU l yX11_tied cX11_tied 4 (some .int) 5 D k [.ref (n 0), .int p0] [((n 0), .inr (11, [.int 0, .ref (n 1), .ref (n 2), .ref (n 3), .ref (n 4), .int 0, .ref (n 5), .int 0, .int 0, .int 0, .int 0, .int 0, .int 0, .int (-1), .ref (n 6), .ref (n 7), .ref (n 8), .ref (n 9), .ref (n 10), .ref (n 11), .ref (n 12), .int 0, .int 0, .int 0, .int 0, .ref (n 13), .ref (n 14), .ref (n 15), .int 0, .int 0, .int 0, .ref (n 16), .ref (n 17), .int 0, .ref (n 18), .long 0, .long 0, .ref (n 19), .int 0, .long 0, .long 0, .long 0, .ref (n 20), .ref (n 21), .ref (n 22), .ref (n 23)])), ((n 1), .inl (k 0, 99, .inl (fun _ => 0))), ((n 10), .inl (k 0, 12, .inl f0)), ((n 13), .inl (k 0, 17, .inl f1)), ((n 14), .inl (k 0, 17, .inl f2)), ((n 15), .inl (k 0, 17, .inl f3))] 0 0 (Ui D (fun (r : Int32) (u : Unit) => r = (-2)) (fun _ : Unit => [])) := by
  refine MU.of (by decide) (Nat.le_of_ble_eq_true rfl) ?_
  intro p e s m below meth c ls A args Q S hr hlk hnm hQ hK hP hD hA hS hl
  have hx := S.1
  have hb := S.2.1
  have hl : lv_has ls 4 [(0, .ref (n 0)), (1, .int p0)] := hl
  refine lv_aload_n hx hb dX11_tied_0 rfl (lv_at hl 0 rfl) ?_
  refine lv_iload_n hx hb dX11_tied_1 rfl (lv_at hl 1 rfl) ?_
  refine x_muVi (wr := []) (As := [.int p0]) S hK hP hD hS hA hl mwX11_asksHour lkX11_330 (ctX11_asksHour l D k n f0 f1 f2 f3 p0 ) [0, 1, 2, 3, 4, 5] [] rfl rfl (by decide) (by decide) (by decide) rfl rfl rfl rfl rfl ⟨Nat.le_of_ble_eq_true rfl, Nat.le_of_ble_eq_true rfl, Nat.le_of_ble_eq_true rfl⟩ dX11_tied_2 ⟨Nat.le_of_ble_eq_true rfl, Nat.le_of_ble_eq_true rfl⟩ (fun r_1 u_2 H locs hr_1 hP hD hS => ?_)
  have hP : va_P D vwCl [] H := hP
  have hD : va_D A [] := hD
  subst hr_1
  refine lv_if_ne (tgt := 11) hx hb dX11_tied_5 (by decide) (fun c_3 => absurd (by decide) c_3) (fun c_3 => ?_)
  refine lv_bipush (v := (-2)) hx hb dX11_tied_8 (by decide) ?_
  exact x_reti S hr hlk hQ hS () rfl (x_B P_nil D_nil) dX11_tied_10

set_option maxHeartbeats 4000000 in
set_option maxRecDepth 100000 in
theorem ctX11_since (l : Launch) (D : va_G) (k : Nat → ClassId) (n : Nat → Nat) (f0 : Nat → Int32) (f1 : Nat → Int32) (f2 : Nat → Int32) (f3 : Nat → Int32) (p0 : Int32)  : MU l yX11_since cX11_since 3 (some .int) 5 D k [.ref (n 0), .int p0] [((n 0), .inr (11, [.int 0, .ref (n 1), .ref (n 2), .ref (n 3), .ref (n 4), .int 0, .ref (n 5), .int 0, .int 0, .int 0, .int 0, .int 0, .int 0, .int (-1), .ref (n 6), .ref (n 7), .ref (n 8), .ref (n 9), .ref (n 10), .ref (n 11), .ref (n 12), .int 0, .int 0, .int 0, .int 0, .ref (n 13), .ref (n 14), .ref (n 15), .int 0, .int 0, .int 0, .ref (n 16), .ref (n 17), .int 0, .ref (n 18), .long 0, .long 0, .ref (n 19), .int 0, .long 0, .long 0, .long 0, .ref (n 20), .ref (n 21), .ref (n 22), .ref (n 23)])), ((n 1), .inl (k 0, 99, .inl (fun _ => 0))), ((n 10), .inl (k 0, 12, .inl f0)), ((n 13), .inl (k 0, 17, .inl f1)), ((n 14), .inl (k 0, 17, .inl f2)), ((n 15), .inl (k 0, 17, .inl f3))] 0 0 (Ui D (fun (r : Int32) (u : Unit) => r = (-2)) (fun _ : Unit => [])) := by
  refine MU.of (by decide) (Nat.le_of_ble_eq_true rfl) ?_
  intro p e s m below meth c ls A args Q S hr hlk hnm hQ hK hP hD hA hS hl
  have hx := S.1
  have hb := S.2.1
  have hl : lv_has ls 3 [(0, .ref (n 0)), (1, .int p0)] := hl
  refine lv_aload_n hx hb dX11_since_0 rfl (lv_at hl 0 rfl) ?_
  refine lv_iload_n hx hb dX11_since_1 rfl (lv_at hl 1 rfl) ?_
  refine x_muVi (wr := []) (As := [.int p0]) S hK hP hD hS hA hl mwX11_asksHead lkX11_342 (ctX11_asksHead l D k n f0 f1 f2 f3 p0 ) [0, 1, 2, 3, 4, 5] [] rfl rfl (by decide) (by decide) (by decide) rfl rfl rfl rfl rfl ⟨Nat.le_of_ble_eq_true rfl, Nat.le_of_ble_eq_true rfl, Nat.le_of_ble_eq_true rfl⟩ dX11_since_2 ⟨Nat.le_of_ble_eq_true rfl, Nat.le_of_ble_eq_true rfl⟩ (fun r_1 u_2 H locs hr_1 hP hD hS => ?_)
  have hP : va_P D vwCl [] H := hP
  have hD : va_D A [] := hD
  subst hr_1
  refine lv_if_ne (tgt := 11) hx hb dX11_since_5 (by decide) (fun c_3 => absurd (by decide) c_3) (fun c_3 => ?_)
  refine lv_bipush (v := (-2)) hx hb dX11_since_8 (by decide) ?_
  exact x_reti S hr hlk hQ hS () rfl (x_B P_nil D_nil) dX11_since_10

set_option maxHeartbeats 4000000 in
set_option maxRecDepth 100000 in
theorem ctX11_held (l : Launch) (D : va_G) (k : Nat → ClassId) (n : Nat → Nat) (f0 : Nat → Int32) (f1 : Nat → Int32) (f2 : Nat → Int32) (f3 : Nat → Int32) (p0 : Int32)  : MU l yX11_held cX11_held 6 (some .int) 5 D k [.ref (n 0), .int p0] [((n 0), .inr (11, [.int 0, .ref (n 1), .ref (n 2), .ref (n 3), .ref (n 4), .int 0, .ref (n 5), .int 0, .int 0, .int 0, .int 0, .int 0, .int 0, .int (-1), .ref (n 6), .ref (n 7), .ref (n 8), .ref (n 9), .ref (n 10), .ref (n 11), .ref (n 12), .int 0, .int 0, .int 0, .int 0, .ref (n 13), .ref (n 14), .ref (n 15), .int 0, .int 0, .int 0, .ref (n 16), .ref (n 17), .int 0, .ref (n 18), .long 0, .long 0, .ref (n 19), .int 0, .long 0, .long 0, .long 0, .ref (n 20), .ref (n 21), .ref (n 22), .ref (n 23)])), ((n 1), .inl (k 0, 99, .inl (fun _ => 0))), ((n 10), .inl (k 0, 12, .inl f0)), ((n 13), .inl (k 0, 17, .inl f1)), ((n 14), .inl (k 0, 17, .inl f2)), ((n 15), .inl (k 0, 17, .inl f3))] 0 0 (Ui D (fun (r : Int32) (u : Unit) => r = (-2)) (fun _ : Unit => [])) := by
  refine MU.of (by decide) (Nat.le_of_ble_eq_true rfl) ?_
  intro p e s m below meth c ls A args Q S hr hlk hnm hQ hK hP hD hA hS hl
  have hx := S.1
  have hb := S.2.1
  have hl : lv_has ls 6 [(0, .ref (n 0)), (1, .int p0)] := hl
  refine lv_aload_n hx hb dX11_held_0 rfl (lv_at hl 0 rfl) ?_
  refine lv_iload_n hx hb dX11_held_1 rfl (lv_at hl 1 rfl) ?_
  refine x_muVi (wr := []) (As := [.int p0]) S hK hP hD hS hA hl mwX11_asksHead lkX11_342 (ctX11_asksHead l D k n f0 f1 f2 f3 p0 ) [0, 1, 2, 3, 4, 5] [] rfl rfl (by decide) (by decide) (by decide) rfl rfl rfl rfl rfl ⟨Nat.le_of_ble_eq_true rfl, Nat.le_of_ble_eq_true rfl, Nat.le_of_ble_eq_true rfl⟩ dX11_held_2 ⟨Nat.le_of_ble_eq_true rfl, Nat.le_of_ble_eq_true rfl⟩ (fun r_1 u_2 H locs hr_1 hP hD hS => ?_)
  have hP : va_P D vwCl [] H := hP
  have hD : va_D A [] := hD
  subst hr_1
  refine lv_if_ne (tgt := 11) hx hb dX11_held_5 (by decide) (fun c_3 => absurd (by decide) c_3) (fun c_3 => ?_)
  refine lv_bipush (v := (-2)) hx hb dX11_held_8 (by decide) ?_
  exact x_reti S hr hlk hQ hS () rfl (x_B P_nil D_nil) dX11_held_10

set_option maxHeartbeats 4000000 in
set_option maxRecDepth 100000 in
theorem ctX11_hush (l : Launch) (D : va_G) (k : Nat → ClassId) (n : Nat → Nat) (f0 : Nat → Int32) (f1 : Nat → Int32) (f2 : Nat → Int32) (f3 : Nat → Int32) (p0 : Int32)  : MU l yX11_hush cX11_hush 5 (some .int) 5 D k [.ref (n 0), .int p0] [((n 0), .inr (11, [.int 0, .ref (n 1), .ref (n 2), .ref (n 3), .ref (n 4), .int 0, .ref (n 5), .int 0, .int 0, .int 0, .int 0, .int 0, .int 0, .int (-1), .ref (n 6), .ref (n 7), .ref (n 8), .ref (n 9), .ref (n 10), .ref (n 11), .ref (n 12), .int 0, .int 0, .int 0, .int 0, .ref (n 13), .ref (n 14), .ref (n 15), .int 0, .int 0, .int 0, .ref (n 16), .ref (n 17), .int 0, .ref (n 18), .long 0, .long 0, .ref (n 19), .int 0, .long 0, .long 0, .long 0, .ref (n 20), .ref (n 21), .ref (n 22), .ref (n 23)])), ((n 1), .inl (k 0, 99, .inl (fun _ => 0))), ((n 10), .inl (k 0, 12, .inl f0)), ((n 13), .inl (k 0, 17, .inl f1)), ((n 14), .inl (k 0, 17, .inl f2)), ((n 15), .inl (k 0, 17, .inl f3))] 0 0 (Ui D (fun (r : Int32) (u : Unit) => r = (-2)) (fun _ : Unit => [])) := by
  refine MU.of (by decide) (Nat.le_of_ble_eq_true rfl) ?_
  intro p e s m below meth c ls A args Q S hr hlk hnm hQ hK hP hD hA hS hl
  have hx := S.1
  have hb := S.2.1
  have hl : lv_has ls 5 [(0, .ref (n 0)), (1, .int p0)] := hl
  refine lv_aload_n hx hb dX11_hush_0 rfl (lv_at hl 0 rfl) ?_
  refine lv_iload_n hx hb dX11_hush_1 rfl (lv_at hl 1 rfl) ?_
  refine x_muVi (wr := []) (As := [.int p0]) S hK hP hD hS hA hl mwX11_asksHour lkX11_330 (ctX11_asksHour l D k n f0 f1 f2 f3 p0 ) [0, 1, 2, 3, 4, 5] [] rfl rfl (by decide) (by decide) (by decide) rfl rfl rfl rfl rfl ⟨Nat.le_of_ble_eq_true rfl, Nat.le_of_ble_eq_true rfl, Nat.le_of_ble_eq_true rfl⟩ dX11_hush_2 ⟨Nat.le_of_ble_eq_true rfl, Nat.le_of_ble_eq_true rfl⟩ (fun r_1 u_2 H locs hr_1 hP hD hS => ?_)
  have hP : va_P D vwCl [] H := hP
  have hD : va_D A [] := hD
  subst hr_1
  refine lv_if_ne (tgt := 11) hx hb dX11_hush_5 (by decide) (fun c_3 => absurd (by decide) c_3) (fun c_3 => ?_)
  refine lv_bipush (v := (-2)) hx hb dX11_hush_8 (by decide) ?_
  exact x_reti S hr hlk hQ hS () rfl (x_B P_nil D_nil) dX11_hush_10

set_option maxHeartbeats 4000000 in
set_option maxRecDepth 100000 in
theorem ctX11_lonely (l : Launch) (D : va_G) (k : Nat → ClassId) (n : Nat → Nat) (f0 : Nat → Int32) (f1 : Nat → Int32) (f2 : Nat → Int32) (f3 : Nat → Int32) (p0 : Int32)  : MU l yX11_lonely cX11_lonely 5 (some .int) 5 D k [.ref (n 0), .int p0] [((n 0), .inr (11, [.int 0, .ref (n 1), .ref (n 2), .ref (n 3), .ref (n 4), .int 0, .ref (n 5), .int 0, .int 0, .int 0, .int 0, .int 0, .int 0, .int (-1), .ref (n 6), .ref (n 7), .ref (n 8), .ref (n 9), .ref (n 10), .ref (n 11), .ref (n 12), .int 0, .int 0, .int 0, .int 0, .ref (n 13), .ref (n 14), .ref (n 15), .int 0, .int 0, .int 0, .ref (n 16), .ref (n 17), .int 0, .ref (n 18), .long 0, .long 0, .ref (n 19), .int 0, .long 0, .long 0, .long 0, .ref (n 20), .ref (n 21), .ref (n 22), .ref (n 23)])), ((n 1), .inl (k 0, 99, .inl (fun _ => 0))), ((n 10), .inl (k 0, 12, .inl f0)), ((n 13), .inl (k 0, 17, .inl f1)), ((n 14), .inl (k 0, 17, .inl f2)), ((n 15), .inl (k 0, 17, .inl f3))] 0 0 (Ui D (fun (r : Int32) (u : Unit) => r = (-2)) (fun _ : Unit => [])) := by
  refine MU.of (by decide) (Nat.le_of_ble_eq_true rfl) ?_
  intro p e s m below meth c ls A args Q S hr hlk hnm hQ hK hP hD hA hS hl
  have hx := S.1
  have hb := S.2.1
  have hl : lv_has ls 5 [(0, .ref (n 0)), (1, .int p0)] := hl
  refine lv_aload_n hx hb dX11_lonely_0 rfl (lv_at hl 0 rfl) ?_
  refine lv_iload_n hx hb dX11_lonely_1 rfl (lv_at hl 1 rfl) ?_
  refine x_muVi (wr := []) (As := [.int p0]) S hK hP hD hS hA hl mwX11_asksHour lkX11_330 (ctX11_asksHour l D k n f0 f1 f2 f3 p0 ) [0, 1, 2, 3, 4, 5] [] rfl rfl (by decide) (by decide) (by decide) rfl rfl rfl rfl rfl ⟨Nat.le_of_ble_eq_true rfl, Nat.le_of_ble_eq_true rfl, Nat.le_of_ble_eq_true rfl⟩ dX11_lonely_2 ⟨Nat.le_of_ble_eq_true rfl, Nat.le_of_ble_eq_true rfl⟩ (fun r_1 u_2 H locs hr_1 hP hD hS => ?_)
  have hP : va_P D vwCl [] H := hP
  have hD : va_D A [] := hD
  subst hr_1
  refine lv_if_ne (tgt := 11) hx hb dX11_lonely_5 (by decide) (fun c_3 => absurd (by decide) c_3) (fun c_3 => ?_)
  refine lv_bipush (v := (-2)) hx hb dX11_lonely_8 (by decide) ?_
  exact x_reti S hr hlk hQ hS () rfl (x_B P_nil D_nil) dX11_lonely_10

set_option maxHeartbeats 4000000 in
set_option maxRecDepth 100000 in
theorem ctX11_quarrels (l : Launch) (D : va_G) (k : Nat → ClassId) (n : Nat → Nat) (f0 : Nat → Int32) (f1 : Nat → Int32) (f2 : Nat → Int32) (f3 : Nat → Int32) (p0 : Int32)  : MU l yX11_quarrels cX11_quarrels 4 (some .int) 5 D k [.ref (n 0), .int p0] [((n 0), .inr (11, [.int 0, .ref (n 1), .ref (n 2), .ref (n 3), .ref (n 4), .int 0, .ref (n 5), .int 0, .int 0, .int 0, .int 0, .int 0, .int 0, .int (-1), .ref (n 6), .ref (n 7), .ref (n 8), .ref (n 9), .ref (n 10), .ref (n 11), .ref (n 12), .int 0, .int 0, .int 0, .int 0, .ref (n 13), .ref (n 14), .ref (n 15), .int 0, .int 0, .int 0, .ref (n 16), .ref (n 17), .int 0, .ref (n 18), .long 0, .long 0, .ref (n 19), .int 0, .long 0, .long 0, .long 0, .ref (n 20), .ref (n 21), .ref (n 22), .ref (n 23)])), ((n 1), .inl (k 0, 99, .inl (fun _ => 0))), ((n 10), .inl (k 0, 12, .inl f0)), ((n 13), .inl (k 0, 17, .inl f1)), ((n 14), .inl (k 0, 17, .inl f2)), ((n 15), .inl (k 0, 17, .inl f3))] 0 0 (Ui D (fun (r : Int32) (u : Unit) => r = (-2)) (fun _ : Unit => [])) := by
  refine MU.of (by decide) (Nat.le_of_ble_eq_true rfl) ?_
  intro p e s m below meth c ls A args Q S hr hlk hnm hQ hK hP hD hA hS hl
  have hx := S.1
  have hb := S.2.1
  have hl : lv_has ls 4 [(0, .ref (n 0)), (1, .int p0)] := hl
  refine lv_aload_n hx hb dX11_quarrels_0 rfl (lv_at hl 0 rfl) ?_
  refine lv_iload_n hx hb dX11_quarrels_1 rfl (lv_at hl 1 rfl) ?_
  refine x_muVi (wr := []) (As := [.int p0]) S hK hP hD hS hA hl mwX11_asksHour lkX11_330 (ctX11_asksHour l D k n f0 f1 f2 f3 p0 ) [0, 1, 2, 3, 4, 5] [] rfl rfl (by decide) (by decide) (by decide) rfl rfl rfl rfl rfl ⟨Nat.le_of_ble_eq_true rfl, Nat.le_of_ble_eq_true rfl, Nat.le_of_ble_eq_true rfl⟩ dX11_quarrels_2 ⟨Nat.le_of_ble_eq_true rfl, Nat.le_of_ble_eq_true rfl⟩ (fun r_1 u_2 H locs hr_1 hP hD hS => ?_)
  have hP : va_P D vwCl [] H := hP
  have hD : va_D A [] := hD
  subst hr_1
  refine lv_if_ne (tgt := 11) hx hb dX11_quarrels_5 (by decide) (fun c_3 => absurd (by decide) c_3) (fun c_3 => ?_)
  refine lv_bipush (v := (-2)) hx hb dX11_quarrels_8 (by decide) ?_
  exact x_reti S hr hlk hQ hS () rfl (x_B P_nil D_nil) dX11_quarrels_10

set_option maxHeartbeats 4000000 in
set_option maxRecDepth 100000 in
theorem ctX11_never (l : Launch) (D : va_G) (k : Nat → ClassId) (n : Nat → Nat) (f0 : Nat → Int32) (f1 : Nat → Int32) (f2 : Nat → Int32) (f3 : Nat → Int32) (p0 : Int32)  : MU l yX11_never cX11_never 4 (some .int) 4 D k [.ref (n 0), .int p0] [((n 0), .inr (11, [.int 0, .ref (n 1), .ref (n 2), .ref (n 3), .ref (n 4), .int 0, .ref (n 5), .int 0, .int 0, .int 0, .int 0, .int 0, .int 0, .int (-1), .ref (n 6), .ref (n 7), .ref (n 8), .ref (n 9), .ref (n 10), .ref (n 11), .ref (n 12), .int 0, .int 0, .int 0, .int 0, .ref (n 13), .ref (n 14), .ref (n 15), .int 0, .int 0, .int 0, .ref (n 16), .ref (n 17), .int 0, .ref (n 18), .long 0, .long 0, .ref (n 19), .int 0, .long 0, .long 0, .long 0, .ref (n 20), .ref (n 21), .ref (n 22), .ref (n 23)])), ((n 1), .inl (k 0, 99, .inl (fun _ => 0))), ((n 10), .inl (k 0, 12, .inl f0)), ((n 13), .inl (k 0, 17, .inl f1)), ((n 14), .inl (k 0, 17, .inl f2)), ((n 15), .inl (k 0, 17, .inl f3))] 0 0 (Ui D (fun (r : Int32) (u : Unit) => r = (-2)) (fun _ : Unit => [])) := by
  refine MU.of (by decide) (Nat.le_of_ble_eq_true rfl) ?_
  intro p e s m below meth c ls A args Q S hr hlk hnm hQ hK hP hD hA hS hl
  have hx := S.1
  have hb := S.2.1
  have hl : lv_has ls 4 [(0, .ref (n 0)), (1, .int p0)] := hl
  refine lv_aload_n hx hb dX11_never_0 rfl (lv_at hl 0 rfl) ?_
  refine x_muVi (wr := []) (As := []) S hK hP hD hS hA hl mwX11_asksGarden lkX11_315 (ctX11_asksGarden l D k n f0 f1 f2 f3 ) [0, 1, 2, 3, 4, 5] [] rfl rfl (by decide) (by decide) (by decide) rfl rfl rfl rfl rfl ⟨Nat.le_of_ble_eq_true rfl, Nat.le_of_ble_eq_true rfl, Nat.le_of_ble_eq_true rfl⟩ dX11_never_1 ⟨Nat.le_of_ble_eq_true rfl, Nat.le_of_ble_eq_true rfl⟩ (fun r_1 u_2 H locs hr_1 hP hD hS => ?_)
  have hP : va_P D vwCl [((n 0), .inr (11, [.int 0, .ref (n 1), .ref (n 2), .ref (n 3), .ref (n 4), .int 0, .ref (n 5), .int 0, .int 0, .int 0, .int 0, .int 0, .int 0, .int (-1), .ref (n 6), .ref (n 7), .ref (n 8), .ref (n 9), .ref (n 10), .ref (n 11), .ref (n 12), .int 0, .int 0, .int 0, .int 0, .ref (n 13), .ref (n 14), .ref (n 15), .int 0, .int 0, .int 0, .ref (n 16), .ref (n 17), .int 0, .ref (n 18), .long 0, .long 0, .ref (n 19), .int 0, .long 0, .long 0, .long 0, .ref (n 20), .ref (n 21), .ref (n 22), .ref (n 23)])), ((n 1), .inl (k 0, 99, .inl (fun _ => 0)))] H := hP
  have hD : va_D A [((n 0), .inr (11, [.int 0, .ref (n 1), .ref (n 2), .ref (n 3), .ref (n 4), .int 0, .ref (n 5), .int 0, .int 0, .int 0, .int 0, .int 0, .int 0, .int (-1), .ref (n 6), .ref (n 7), .ref (n 8), .ref (n 9), .ref (n 10), .ref (n 11), .ref (n 12), .int 0, .int 0, .int 0, .int 0, .ref (n 13), .ref (n 14), .ref (n 15), .int 0, .int 0, .int 0, .ref (n 16), .ref (n 17), .int 0, .ref (n 18), .long 0, .long 0, .ref (n 19), .int 0, .long 0, .long 0, .long 0, .ref (n 20), .ref (n 21), .ref (n 22), .ref (n 23)])), ((n 1), .inl (k 0, 99, .inl (fun _ => 0)))] := hD
  subst hr_1
  refine lv_if_eq (tgt := 15) hx hb dX11_never_4 (by decide) (fun c_3 => ?_) (fun c_3 => absurd (by decide) c_3)
  refine lv_bipush (v := (-2)) hx hb dX11_never_15 (by decide) ?_
  exact x_reti S hr hlk hQ hS () rfl (x_B P_nil D_nil) dX11_never_17

set_option maxHeartbeats 4000000 in
set_option maxRecDepth 100000 in
theorem ctX11_most (l : Launch) (D : va_G) (k : Nat → ClassId) (n : Nat → Nat) (f0 : Nat → Int32) (f1 : Nat → Int32) (f2 : Nat → Int32) (f3 : Nat → Int32) (p0 : Int32)  : MU l yX11_most cX11_most 4 (some .int) 4 D k [.ref (n 0), .int p0] [((n 0), .inr (11, [.int 0, .ref (n 1), .ref (n 2), .ref (n 3), .ref (n 4), .int 0, .ref (n 5), .int 0, .int 0, .int 0, .int 0, .int 0, .int 0, .int (-1), .ref (n 6), .ref (n 7), .ref (n 8), .ref (n 9), .ref (n 10), .ref (n 11), .ref (n 12), .int 0, .int 0, .int 0, .int 0, .ref (n 13), .ref (n 14), .ref (n 15), .int 0, .int 0, .int 0, .ref (n 16), .ref (n 17), .int 0, .ref (n 18), .long 0, .long 0, .ref (n 19), .int 0, .long 0, .long 0, .long 0, .ref (n 20), .ref (n 21), .ref (n 22), .ref (n 23)])), ((n 1), .inl (k 0, 99, .inl (fun _ => 0))), ((n 10), .inl (k 0, 12, .inl f0)), ((n 13), .inl (k 0, 17, .inl f1)), ((n 14), .inl (k 0, 17, .inl f2)), ((n 15), .inl (k 0, 17, .inl f3))] 0 0 (Ui D (fun (r : Int32) (u : Unit) => r = (-2)) (fun _ : Unit => [])) := by
  refine MU.of (by decide) (Nat.le_of_ble_eq_true rfl) ?_
  intro p e s m below meth c ls A args Q S hr hlk hnm hQ hK hP hD hA hS hl
  have hx := S.1
  have hb := S.2.1
  have hl : lv_has ls 4 [(0, .ref (n 0)), (1, .int p0)] := hl
  refine lv_aload_n hx hb dX11_most_0 rfl (lv_at hl 0 rfl) ?_
  refine x_muVi (wr := []) (As := []) S hK hP hD hS hA hl mwX11_asksGarden lkX11_315 (ctX11_asksGarden l D k n f0 f1 f2 f3 ) [0, 1, 2, 3, 4, 5] [] rfl rfl (by decide) (by decide) (by decide) rfl rfl rfl rfl rfl ⟨Nat.le_of_ble_eq_true rfl, Nat.le_of_ble_eq_true rfl, Nat.le_of_ble_eq_true rfl⟩ dX11_most_1 ⟨Nat.le_of_ble_eq_true rfl, Nat.le_of_ble_eq_true rfl⟩ (fun r_1 u_2 H locs hr_1 hP hD hS => ?_)
  have hP : va_P D vwCl [((n 0), .inr (11, [.int 0, .ref (n 1), .ref (n 2), .ref (n 3), .ref (n 4), .int 0, .ref (n 5), .int 0, .int 0, .int 0, .int 0, .int 0, .int 0, .int (-1), .ref (n 6), .ref (n 7), .ref (n 8), .ref (n 9), .ref (n 10), .ref (n 11), .ref (n 12), .int 0, .int 0, .int 0, .int 0, .ref (n 13), .ref (n 14), .ref (n 15), .int 0, .int 0, .int 0, .ref (n 16), .ref (n 17), .int 0, .ref (n 18), .long 0, .long 0, .ref (n 19), .int 0, .long 0, .long 0, .long 0, .ref (n 20), .ref (n 21), .ref (n 22), .ref (n 23)])), ((n 1), .inl (k 0, 99, .inl (fun _ => 0)))] H := hP
  have hD : va_D A [((n 0), .inr (11, [.int 0, .ref (n 1), .ref (n 2), .ref (n 3), .ref (n 4), .int 0, .ref (n 5), .int 0, .int 0, .int 0, .int 0, .int 0, .int 0, .int (-1), .ref (n 6), .ref (n 7), .ref (n 8), .ref (n 9), .ref (n 10), .ref (n 11), .ref (n 12), .int 0, .int 0, .int 0, .int 0, .ref (n 13), .ref (n 14), .ref (n 15), .int 0, .int 0, .int 0, .ref (n 16), .ref (n 17), .int 0, .ref (n 18), .long 0, .long 0, .ref (n 19), .int 0, .long 0, .long 0, .long 0, .ref (n 20), .ref (n 21), .ref (n 22), .ref (n 23)])), ((n 1), .inl (k 0, 99, .inl (fun _ => 0)))] := hD
  subst hr_1
  refine lv_if_eq (tgt := 15) hx hb dX11_most_4 (by decide) (fun c_3 => ?_) (fun c_3 => absurd (by decide) c_3)
  refine lv_bipush (v := (-2)) hx hb dX11_most_15 (by decide) ?_
  exact x_reti S hr hlk hQ hS () rfl (x_B P_nil D_nil) dX11_most_17

set_option maxHeartbeats 4000000 in
set_option maxRecDepth 100000 in
theorem ctX11_fewest (l : Launch) (D : va_G) (k : Nat → ClassId) (n : Nat → Nat) (f0 : Nat → Int32) (f1 : Nat → Int32) (f2 : Nat → Int32) (f3 : Nat → Int32) (p0 : Int32)  : MU l yX11_fewest cX11_fewest 3 (some .int) 4 D k [.ref (n 0), .int p0] [((n 0), .inr (11, [.int 0, .ref (n 1), .ref (n 2), .ref (n 3), .ref (n 4), .int 0, .ref (n 5), .int 0, .int 0, .int 0, .int 0, .int 0, .int 0, .int (-1), .ref (n 6), .ref (n 7), .ref (n 8), .ref (n 9), .ref (n 10), .ref (n 11), .ref (n 12), .int 0, .int 0, .int 0, .int 0, .ref (n 13), .ref (n 14), .ref (n 15), .int 0, .int 0, .int 0, .ref (n 16), .ref (n 17), .int 0, .ref (n 18), .long 0, .long 0, .ref (n 19), .int 0, .long 0, .long 0, .long 0, .ref (n 20), .ref (n 21), .ref (n 22), .ref (n 23)])), ((n 1), .inl (k 0, 99, .inl (fun _ => 0))), ((n 10), .inl (k 0, 12, .inl f0)), ((n 13), .inl (k 0, 17, .inl f1)), ((n 14), .inl (k 0, 17, .inl f2)), ((n 15), .inl (k 0, 17, .inl f3))] 0 0 (Ui D (fun (r : Int32) (u : Unit) => r = (-2)) (fun _ : Unit => [])) := by
  refine MU.of (by decide) (Nat.le_of_ble_eq_true rfl) ?_
  intro p e s m below meth c ls A args Q S hr hlk hnm hQ hK hP hD hA hS hl
  have hx := S.1
  have hb := S.2.1
  have hl : lv_has ls 3 [(0, .ref (n 0)), (1, .int p0)] := hl
  refine lv_aload_n hx hb dX11_fewest_0 rfl (lv_at hl 0 rfl) ?_
  refine x_muVi (wr := []) (As := []) S hK hP hD hS hA hl mwX11_asksGarden lkX11_315 (ctX11_asksGarden l D k n f0 f1 f2 f3 ) [0, 1, 2, 3, 4, 5] [] rfl rfl (by decide) (by decide) (by decide) rfl rfl rfl rfl rfl ⟨Nat.le_of_ble_eq_true rfl, Nat.le_of_ble_eq_true rfl, Nat.le_of_ble_eq_true rfl⟩ dX11_fewest_1 ⟨Nat.le_of_ble_eq_true rfl, Nat.le_of_ble_eq_true rfl⟩ (fun r_1 u_2 H locs hr_1 hP hD hS => ?_)
  have hP : va_P D vwCl [((n 0), .inr (11, [.int 0, .ref (n 1), .ref (n 2), .ref (n 3), .ref (n 4), .int 0, .ref (n 5), .int 0, .int 0, .int 0, .int 0, .int 0, .int 0, .int (-1), .ref (n 6), .ref (n 7), .ref (n 8), .ref (n 9), .ref (n 10), .ref (n 11), .ref (n 12), .int 0, .int 0, .int 0, .int 0, .ref (n 13), .ref (n 14), .ref (n 15), .int 0, .int 0, .int 0, .ref (n 16), .ref (n 17), .int 0, .ref (n 18), .long 0, .long 0, .ref (n 19), .int 0, .long 0, .long 0, .long 0, .ref (n 20), .ref (n 21), .ref (n 22), .ref (n 23)])), ((n 1), .inl (k 0, 99, .inl (fun _ => 0)))] H := hP
  have hD : va_D A [((n 0), .inr (11, [.int 0, .ref (n 1), .ref (n 2), .ref (n 3), .ref (n 4), .int 0, .ref (n 5), .int 0, .int 0, .int 0, .int 0, .int 0, .int 0, .int (-1), .ref (n 6), .ref (n 7), .ref (n 8), .ref (n 9), .ref (n 10), .ref (n 11), .ref (n 12), .int 0, .int 0, .int 0, .int 0, .ref (n 13), .ref (n 14), .ref (n 15), .int 0, .int 0, .int 0, .ref (n 16), .ref (n 17), .int 0, .ref (n 18), .long 0, .long 0, .ref (n 19), .int 0, .long 0, .long 0, .long 0, .ref (n 20), .ref (n 21), .ref (n 22), .ref (n 23)])), ((n 1), .inl (k 0, 99, .inl (fun _ => 0)))] := hD
  subst hr_1
  refine lv_if_eq (tgt := 15) hx hb dX11_fewest_4 (by decide) (fun c_3 => ?_) (fun c_3 => absurd (by decide) c_3)
  refine lv_bipush (v := (-2)) hx hb dX11_fewest_15 (by decide) ?_
  exact x_reti S hr hlk hQ hS () rfl (x_B P_nil D_nil) dX11_fewest_17

set_option maxHeartbeats 4000000 in
set_option maxRecDepth 100000 in
theorem ctX11_tell (l : Launch) (D : va_G) (k : Nat → ClassId) (n : Nat → Nat) (f0 : Nat → Int32) (f1 : Nat → Int32) (f2 : Nat → Int32) (f3 : Nat → Int32) (p0 : Int32)  : MU l yX11_tell cX11_tell 2 (some .int) 4 D k [.ref (n 0), .int p0] [((n 0), .inr (11, [.int 0, .ref (n 1), .ref (n 2), .ref (n 3), .ref (n 4), .int 0, .ref (n 5), .int 0, .int 0, .int 0, .int 0, .int 0, .int 0, .int (-1), .ref (n 6), .ref (n 7), .ref (n 8), .ref (n 9), .ref (n 10), .ref (n 11), .ref (n 12), .int 0, .int 0, .int 0, .int 0, .ref (n 13), .ref (n 14), .ref (n 15), .int 0, .int 0, .int 0, .ref (n 16), .ref (n 17), .int 0, .ref (n 18), .long 0, .long 0, .ref (n 19), .int 0, .long 0, .long 0, .long 0, .ref (n 20), .ref (n 21), .ref (n 22), .ref (n 23)])), ((n 1), .inl (k 0, 99, .inl (fun _ => 0))), ((n 10), .inl (k 0, 12, .inl f0)), ((n 13), .inl (k 0, 17, .inl f1)), ((n 14), .inl (k 0, 17, .inl f2)), ((n 15), .inl (k 0, 17, .inl f3))] 0 0 (Ui D (fun (r : Int32) (u : Unit) => r = (-2)) (fun _ : Unit => [])) := by
  refine MU.of (by decide) (Nat.le_of_ble_eq_true rfl) ?_
  intro p e s m below meth c ls A args Q S hr hlk hnm hQ hK hP hD hA hS hl
  have hx := S.1
  have hb := S.2.1
  have hl : lv_has ls 2 [(0, .ref (n 0)), (1, .int p0)] := hl
  refine lv_aload_n hx hb dX11_tell_0 rfl (lv_at hl 0 rfl) ?_
  refine x_muVi (wr := []) (As := []) S hK hP hD hS hA hl mwX11_asksGarden lkX11_315 (ctX11_asksGarden l D k n f0 f1 f2 f3 ) [0, 1, 2, 3, 4, 5] [] rfl rfl (by decide) (by decide) (by decide) rfl rfl rfl rfl rfl ⟨Nat.le_of_ble_eq_true rfl, Nat.le_of_ble_eq_true rfl, Nat.le_of_ble_eq_true rfl⟩ dX11_tell_1 ⟨Nat.le_of_ble_eq_true rfl, Nat.le_of_ble_eq_true rfl⟩ (fun r_1 u_2 H locs hr_1 hP hD hS => ?_)
  have hP : va_P D vwCl [((n 0), .inr (11, [.int 0, .ref (n 1), .ref (n 2), .ref (n 3), .ref (n 4), .int 0, .ref (n 5), .int 0, .int 0, .int 0, .int 0, .int 0, .int 0, .int (-1), .ref (n 6), .ref (n 7), .ref (n 8), .ref (n 9), .ref (n 10), .ref (n 11), .ref (n 12), .int 0, .int 0, .int 0, .int 0, .ref (n 13), .ref (n 14), .ref (n 15), .int 0, .int 0, .int 0, .ref (n 16), .ref (n 17), .int 0, .ref (n 18), .long 0, .long 0, .ref (n 19), .int 0, .long 0, .long 0, .long 0, .ref (n 20), .ref (n 21), .ref (n 22), .ref (n 23)])), ((n 1), .inl (k 0, 99, .inl (fun _ => 0)))] H := hP
  have hD : va_D A [((n 0), .inr (11, [.int 0, .ref (n 1), .ref (n 2), .ref (n 3), .ref (n 4), .int 0, .ref (n 5), .int 0, .int 0, .int 0, .int 0, .int 0, .int 0, .int (-1), .ref (n 6), .ref (n 7), .ref (n 8), .ref (n 9), .ref (n 10), .ref (n 11), .ref (n 12), .int 0, .int 0, .int 0, .int 0, .ref (n 13), .ref (n 14), .ref (n 15), .int 0, .int 0, .int 0, .ref (n 16), .ref (n 17), .int 0, .ref (n 18), .long 0, .long 0, .ref (n 19), .int 0, .long 0, .long 0, .long 0, .ref (n 20), .ref (n 21), .ref (n 22), .ref (n 23)])), ((n 1), .inl (k 0, 99, .inl (fun _ => 0)))] := hD
  subst hr_1
  refine lv_if_eq (tgt := 23) hx hb dX11_tell_4 (by decide) (fun c_3 => ?_) (fun c_3 => absurd (by decide) c_3)
  refine lv_bipush (v := (-2)) hx hb dX11_tell_23 (by decide) ?_
  exact x_reti S hr hlk hQ hS () rfl (x_B P_nil D_nil) dX11_tell_25

set_option maxHeartbeats 4000000 in
set_option maxRecDepth 100000 in
theorem ctX11_brings (l : Launch) (D : va_G) (k : Nat → ClassId) (n : Nat → Nat) (f0 : Nat → Int32) (f1 : Nat → Int32) (f2 : Nat → Int32) (f3 : Nat → Int32) (p0 : Int32) (p1 : Int32)  : MU l yX11_brings cX11_brings 3 (some .int) 4 D k [.ref (n 0), .int p0, .int p1] [((n 0), .inr (11, [.int 0, .ref (n 1), .ref (n 2), .ref (n 3), .ref (n 4), .int 0, .ref (n 5), .int 0, .int 0, .int 0, .int 0, .int 0, .int 0, .int (-1), .ref (n 6), .ref (n 7), .ref (n 8), .ref (n 9), .ref (n 10), .ref (n 11), .ref (n 12), .int 0, .int 0, .int 0, .int 0, .ref (n 13), .ref (n 14), .ref (n 15), .int 0, .int 0, .int 0, .ref (n 16), .ref (n 17), .int 0, .ref (n 18), .long 0, .long 0, .ref (n 19), .int 0, .long 0, .long 0, .long 0, .ref (n 20), .ref (n 21), .ref (n 22), .ref (n 23)])), ((n 1), .inl (k 0, 99, .inl (fun _ => 0))), ((n 10), .inl (k 0, 12, .inl f0)), ((n 13), .inl (k 0, 17, .inl f1)), ((n 14), .inl (k 0, 17, .inl f2)), ((n 15), .inl (k 0, 17, .inl f3))] 0 0 (Ui D (fun (r : Int32) (u : Unit) => r = (-2)) (fun _ : Unit => [])) := by
  refine MU.of (by decide) (Nat.le_of_ble_eq_true rfl) ?_
  intro p e s m below meth c ls A args Q S hr hlk hnm hQ hK hP hD hA hS hl
  have hx := S.1
  have hb := S.2.1
  have hl : lv_has ls 3 [(0, .ref (n 0)), (1, .int p0), (2, .int p1)] := hl
  refine lv_aload_n hx hb dX11_brings_0 rfl (lv_at hl 0 rfl) ?_
  refine x_muVi (wr := []) (As := []) S hK hP hD hS hA hl mwX11_asksGarden lkX11_315 (ctX11_asksGarden l D k n f0 f1 f2 f3 ) [0, 1, 2, 3, 4, 5] [] rfl rfl (by decide) (by decide) (by decide) rfl rfl rfl rfl rfl ⟨Nat.le_of_ble_eq_true rfl, Nat.le_of_ble_eq_true rfl, Nat.le_of_ble_eq_true rfl⟩ dX11_brings_1 ⟨Nat.le_of_ble_eq_true rfl, Nat.le_of_ble_eq_true rfl⟩ (fun r_1 u_2 H locs hr_1 hP hD hS => ?_)
  have hP : va_P D vwCl [((n 0), .inr (11, [.int 0, .ref (n 1), .ref (n 2), .ref (n 3), .ref (n 4), .int 0, .ref (n 5), .int 0, .int 0, .int 0, .int 0, .int 0, .int 0, .int (-1), .ref (n 6), .ref (n 7), .ref (n 8), .ref (n 9), .ref (n 10), .ref (n 11), .ref (n 12), .int 0, .int 0, .int 0, .int 0, .ref (n 13), .ref (n 14), .ref (n 15), .int 0, .int 0, .int 0, .ref (n 16), .ref (n 17), .int 0, .ref (n 18), .long 0, .long 0, .ref (n 19), .int 0, .long 0, .long 0, .long 0, .ref (n 20), .ref (n 21), .ref (n 22), .ref (n 23)])), ((n 1), .inl (k 0, 99, .inl (fun _ => 0)))] H := hP
  have hD : va_D A [((n 0), .inr (11, [.int 0, .ref (n 1), .ref (n 2), .ref (n 3), .ref (n 4), .int 0, .ref (n 5), .int 0, .int 0, .int 0, .int 0, .int 0, .int 0, .int (-1), .ref (n 6), .ref (n 7), .ref (n 8), .ref (n 9), .ref (n 10), .ref (n 11), .ref (n 12), .int 0, .int 0, .int 0, .int 0, .ref (n 13), .ref (n 14), .ref (n 15), .int 0, .int 0, .int 0, .ref (n 16), .ref (n 17), .int 0, .ref (n 18), .long 0, .long 0, .ref (n 19), .int 0, .long 0, .long 0, .long 0, .ref (n 20), .ref (n 21), .ref (n 22), .ref (n 23)])), ((n 1), .inl (k 0, 99, .inl (fun _ => 0)))] := hD
  subst hr_1
  refine lv_if_eq (tgt := 38) hx hb dX11_brings_4 (by decide) (fun c_3 => ?_) (fun c_3 => absurd (by decide) c_3)
  refine lv_bipush (v := (-2)) hx hb dX11_brings_38 (by decide) ?_
  exact x_reti S hr hlk hQ hS () rfl (x_B P_nil D_nil) dX11_brings_40

set_option maxHeartbeats 4000000 in
set_option maxRecDepth 100000 in
theorem ctX11_loud (l : Launch) (D : va_G) (k : Nat → ClassId) (n : Nat → Nat) (f0 : Nat → Int32) (f1 : Nat → Int32) (f2 : Nat → Int32) (f3 : Nat → Int32) (p0 : Int32)  : MU l yX11_loud cX11_loud 6 (some .int) 4 D k [.ref (n 0), .int p0] [((n 0), .inr (11, [.int 0, .ref (n 1), .ref (n 2), .ref (n 3), .ref (n 4), .int 0, .ref (n 5), .int 0, .int 0, .int 0, .int 0, .int 0, .int 0, .int (-1), .ref (n 6), .ref (n 7), .ref (n 8), .ref (n 9), .ref (n 10), .ref (n 11), .ref (n 12), .int 0, .int 0, .int 0, .int 0, .ref (n 13), .ref (n 14), .ref (n 15), .int 0, .int 0, .int 0, .ref (n 16), .ref (n 17), .int 0, .ref (n 18), .long 0, .long 0, .ref (n 19), .int 0, .long 0, .long 0, .long 0, .ref (n 20), .ref (n 21), .ref (n 22), .ref (n 23)])), ((n 1), .inl (k 0, 99, .inl (fun _ => 0))), ((n 10), .inl (k 0, 12, .inl f0)), ((n 13), .inl (k 0, 17, .inl f1)), ((n 14), .inl (k 0, 17, .inl f2)), ((n 15), .inl (k 0, 17, .inl f3))] 0 0 (Ui D (fun (r : Int32) (u : Unit) => r = (-2)) (fun _ : Unit => [])) := by
  refine MU.of (by decide) (Nat.le_of_ble_eq_true rfl) ?_
  intro p e s m below meth c ls A args Q S hr hlk hnm hQ hK hP hD hA hS hl
  have hx := S.1
  have hb := S.2.1
  have hl : lv_has ls 6 [(0, .ref (n 0)), (1, .int p0)] := hl
  refine lv_aload_n hx hb dX11_loud_0 rfl (lv_at hl 0 rfl) ?_
  refine x_muVi (wr := []) (As := []) S hK hP hD hS hA hl mwX11_asksGarden lkX11_315 (ctX11_asksGarden l D k n f0 f1 f2 f3 ) [0, 1, 2, 3, 4, 5] [] rfl rfl (by decide) (by decide) (by decide) rfl rfl rfl rfl rfl ⟨Nat.le_of_ble_eq_true rfl, Nat.le_of_ble_eq_true rfl, Nat.le_of_ble_eq_true rfl⟩ dX11_loud_1 ⟨Nat.le_of_ble_eq_true rfl, Nat.le_of_ble_eq_true rfl⟩ (fun r_1 u_2 H locs hr_1 hP hD hS => ?_)
  have hP : va_P D vwCl [((n 0), .inr (11, [.int 0, .ref (n 1), .ref (n 2), .ref (n 3), .ref (n 4), .int 0, .ref (n 5), .int 0, .int 0, .int 0, .int 0, .int 0, .int 0, .int (-1), .ref (n 6), .ref (n 7), .ref (n 8), .ref (n 9), .ref (n 10), .ref (n 11), .ref (n 12), .int 0, .int 0, .int 0, .int 0, .ref (n 13), .ref (n 14), .ref (n 15), .int 0, .int 0, .int 0, .ref (n 16), .ref (n 17), .int 0, .ref (n 18), .long 0, .long 0, .ref (n 19), .int 0, .long 0, .long 0, .long 0, .ref (n 20), .ref (n 21), .ref (n 22), .ref (n 23)])), ((n 1), .inl (k 0, 99, .inl (fun _ => 0)))] H := hP
  have hD : va_D A [((n 0), .inr (11, [.int 0, .ref (n 1), .ref (n 2), .ref (n 3), .ref (n 4), .int 0, .ref (n 5), .int 0, .int 0, .int 0, .int 0, .int 0, .int 0, .int (-1), .ref (n 6), .ref (n 7), .ref (n 8), .ref (n 9), .ref (n 10), .ref (n 11), .ref (n 12), .int 0, .int 0, .int 0, .int 0, .ref (n 13), .ref (n 14), .ref (n 15), .int 0, .int 0, .int 0, .ref (n 16), .ref (n 17), .int 0, .ref (n 18), .long 0, .long 0, .ref (n 19), .int 0, .long 0, .long 0, .long 0, .ref (n 20), .ref (n 21), .ref (n 22), .ref (n 23)])), ((n 1), .inl (k 0, 99, .inl (fun _ => 0)))] := hD
  subst hr_1
  refine lv_if_eq (tgt := 15) hx hb dX11_loud_4 (by decide) (fun c_3 => ?_) (fun c_3 => absurd (by decide) c_3)
  refine lv_bipush (v := (-2)) hx hb dX11_loud_15 (by decide) ?_
  exact x_reti S hr hlk hQ hS () rfl (x_B P_nil D_nil) dX11_loud_17

set_option maxHeartbeats 4000000 in
set_option maxRecDepth 100000 in
theorem ctX11_firm (l : Launch) (D : va_G) (k : Nat → ClassId) (n : Nat → Nat) (f0 : Nat → Int32) (f1 : Nat → Int32) (f2 : Nat → Int32) (f3 : Nat → Int32) (p0 : Int32)  : MU l yX11_firm cX11_firm 4 (some .int) 4 D k [.ref (n 0), .int p0] [((n 0), .inr (11, [.int 0, .ref (n 1), .ref (n 2), .ref (n 3), .ref (n 4), .int 0, .ref (n 5), .int 0, .int 0, .int 0, .int 0, .int 0, .int 0, .int (-1), .ref (n 6), .ref (n 7), .ref (n 8), .ref (n 9), .ref (n 10), .ref (n 11), .ref (n 12), .int 0, .int 0, .int 0, .int 0, .ref (n 13), .ref (n 14), .ref (n 15), .int 0, .int 0, .int 0, .ref (n 16), .ref (n 17), .int 0, .ref (n 18), .long 0, .long 0, .ref (n 19), .int 0, .long 0, .long 0, .long 0, .ref (n 20), .ref (n 21), .ref (n 22), .ref (n 23)])), ((n 1), .inl (k 0, 99, .inl (fun _ => 0))), ((n 10), .inl (k 0, 12, .inl f0)), ((n 13), .inl (k 0, 17, .inl f1)), ((n 14), .inl (k 0, 17, .inl f2)), ((n 15), .inl (k 0, 17, .inl f3))] 0 0 (Ui D (fun (r : Int32) (u : Unit) => r = (-2)) (fun _ : Unit => [])) := by
  refine MU.of (by decide) (Nat.le_of_ble_eq_true rfl) ?_
  intro p e s m below meth c ls A args Q S hr hlk hnm hQ hK hP hD hA hS hl
  have hx := S.1
  have hb := S.2.1
  have hl : lv_has ls 4 [(0, .ref (n 0)), (1, .int p0)] := hl
  refine lv_aload_n hx hb dX11_firm_0 rfl (lv_at hl 0 rfl) ?_
  refine x_muVi (wr := []) (As := []) S hK hP hD hS hA hl mwX11_asksGarden lkX11_315 (ctX11_asksGarden l D k n f0 f1 f2 f3 ) [0, 1, 2, 3, 4, 5] [] rfl rfl (by decide) (by decide) (by decide) rfl rfl rfl rfl rfl ⟨Nat.le_of_ble_eq_true rfl, Nat.le_of_ble_eq_true rfl, Nat.le_of_ble_eq_true rfl⟩ dX11_firm_1 ⟨Nat.le_of_ble_eq_true rfl, Nat.le_of_ble_eq_true rfl⟩ (fun r_1 u_2 H locs hr_1 hP hD hS => ?_)
  have hP : va_P D vwCl [((n 0), .inr (11, [.int 0, .ref (n 1), .ref (n 2), .ref (n 3), .ref (n 4), .int 0, .ref (n 5), .int 0, .int 0, .int 0, .int 0, .int 0, .int 0, .int (-1), .ref (n 6), .ref (n 7), .ref (n 8), .ref (n 9), .ref (n 10), .ref (n 11), .ref (n 12), .int 0, .int 0, .int 0, .int 0, .ref (n 13), .ref (n 14), .ref (n 15), .int 0, .int 0, .int 0, .ref (n 16), .ref (n 17), .int 0, .ref (n 18), .long 0, .long 0, .ref (n 19), .int 0, .long 0, .long 0, .long 0, .ref (n 20), .ref (n 21), .ref (n 22), .ref (n 23)])), ((n 1), .inl (k 0, 99, .inl (fun _ => 0)))] H := hP
  have hD : va_D A [((n 0), .inr (11, [.int 0, .ref (n 1), .ref (n 2), .ref (n 3), .ref (n 4), .int 0, .ref (n 5), .int 0, .int 0, .int 0, .int 0, .int 0, .int 0, .int (-1), .ref (n 6), .ref (n 7), .ref (n 8), .ref (n 9), .ref (n 10), .ref (n 11), .ref (n 12), .int 0, .int 0, .int 0, .int 0, .ref (n 13), .ref (n 14), .ref (n 15), .int 0, .int 0, .int 0, .ref (n 16), .ref (n 17), .int 0, .ref (n 18), .long 0, .long 0, .ref (n 19), .int 0, .long 0, .long 0, .long 0, .ref (n 20), .ref (n 21), .ref (n 22), .ref (n 23)])), ((n 1), .inl (k 0, 99, .inl (fun _ => 0)))] := hD
  subst hr_1
  refine lv_if_eq (tgt := 15) hx hb dX11_firm_4 (by decide) (fun c_3 => ?_) (fun c_3 => absurd (by decide) c_3)
  refine lv_bipush (v := (-2)) hx hb dX11_firm_15 (by decide) ?_
  exact x_reti S hr hlk hQ hS () rfl (x_B P_nil D_nil) dX11_firm_17

set_option maxHeartbeats 4000000 in
set_option maxRecDepth 100000 in
theorem ctX11_share (l : Launch) (D : va_G) (k : Nat → ClassId) (n : Nat → Nat) (f0 : Nat → Int32) (f1 : Nat → Int32) (f2 : Nat → Int32) (f3 : Nat → Int32) (p0 : Int32) (p1 : Int32) (p2 : Int32)  : MU l yX11_share cX11_share 8 (some .long) 5 D k [.ref (n 0), .int p0, .int p1, .int p2] [((n 0), .inr (11, [.int 0, .ref (n 1), .ref (n 2), .ref (n 3), .ref (n 4), .int 0, .ref (n 5), .int 0, .int 0, .int 0, .int 0, .int 0, .int 0, .int (-1), .ref (n 6), .ref (n 7), .ref (n 8), .ref (n 9), .ref (n 10), .ref (n 11), .ref (n 12), .int 0, .int 0, .int 0, .int 0, .ref (n 13), .ref (n 14), .ref (n 15), .int 0, .int 0, .int 0, .ref (n 16), .ref (n 17), .int 0, .ref (n 18), .long 0, .long 0, .ref (n 19), .int 0, .long 0, .long 0, .long 0, .ref (n 20), .ref (n 21), .ref (n 22), .ref (n 23)])), ((n 1), .inl (k 0, 99, .inl (fun _ => 0))), ((n 10), .inl (k 0, 12, .inl f0)), ((n 13), .inl (k 0, 17, .inl f1)), ((n 14), .inl (k 0, 17, .inl f2)), ((n 15), .inl (k 0, 17, .inl f3))] 0 0 (Ul D (fun (r : Int64) (u : Unit) => r = (-2)) (fun _ : Unit => [])) := by
  refine MU.of (by decide) (Nat.le_of_ble_eq_true rfl) ?_
  intro p e s m below meth c ls A args Q S hr hlk hnm hQ hK hP hD hA hS hl
  have hx := S.1
  have hb := S.2.1
  have hl : lv_has ls 8 [(0, .ref (n 0)), (1, .int p0), (2, .int p1), (3, .int p2)] := hl
  refine lv_aload_n hx hb dX11_share_0 rfl (lv_at hl 0 rfl) ?_
  refine lv_iload_n hx hb dX11_share_1 rfl (lv_at hl 1 rfl) ?_
  refine x_muVi (wr := []) (As := [.int p0]) S hK hP hD hS hA hl mwX11_asksHead lkX11_342 (ctX11_asksHead l D k n f0 f1 f2 f3 p0 ) [0, 1, 2, 3, 4, 5] [] rfl rfl (by decide) (by decide) (by decide) rfl rfl rfl rfl rfl ⟨Nat.le_of_ble_eq_true rfl, Nat.le_of_ble_eq_true rfl, Nat.le_of_ble_eq_true rfl⟩ dX11_share_2 ⟨Nat.le_of_ble_eq_true rfl, Nat.le_of_ble_eq_true rfl⟩ (fun r_1 u_2 H locs hr_1 hP hD hS => ?_)
  have hP : va_P D vwCl [] H := hP
  have hD : va_D A [] := hD
  subst hr_1
  refine lv_if_eq (tgt := 26) hx hb dX11_share_5 (by decide) (fun c_3 => ?_) (fun c_3 => absurd (by decide) c_3)
  refine lv_ldc2 hx hb S.2.2.2.1 (S.2.2.2.2 _ lkX11_389) dX11_share_26 ?_
  exact x_retl S hr hlk hQ hS () rfl (x_B P_nil D_nil) dX11_share_29

set_option maxHeartbeats 4000000 in
set_option maxRecDepth 100000 in
theorem ctX11_sample (l : Launch) (D : va_G) (k : Nat → ClassId) (n : Nat → Nat) (f0 : Nat → Int32) (f1 : Nat → Int32) (f2 : Nat → Int32) (f3 : Nat → Int32) (p0 : Int32) (p1 : Int32) (p2 : Int32)  : MU l yX11_sample cX11_sample 4 (some .long) 5 D k [.ref (n 0), .int p0, .int p1, .int p2] [((n 0), .inr (11, [.int 0, .ref (n 1), .ref (n 2), .ref (n 3), .ref (n 4), .int 0, .ref (n 5), .int 0, .int 0, .int 0, .int 0, .int 0, .int 0, .int (-1), .ref (n 6), .ref (n 7), .ref (n 8), .ref (n 9), .ref (n 10), .ref (n 11), .ref (n 12), .int 0, .int 0, .int 0, .int 0, .ref (n 13), .ref (n 14), .ref (n 15), .int 0, .int 0, .int 0, .ref (n 16), .ref (n 17), .int 0, .ref (n 18), .long 0, .long 0, .ref (n 19), .int 0, .long 0, .long 0, .long 0, .ref (n 20), .ref (n 21), .ref (n 22), .ref (n 23)])), ((n 1), .inl (k 0, 99, .inl (fun _ => 0))), ((n 10), .inl (k 0, 12, .inl f0)), ((n 13), .inl (k 0, 17, .inl f1)), ((n 14), .inl (k 0, 17, .inl f2)), ((n 15), .inl (k 0, 17, .inl f3))] 0 0 (Ul D (fun (r : Int64) (u : Unit) => r = (-2)) (fun _ : Unit => [])) := by
  refine MU.of (by decide) (Nat.le_of_ble_eq_true rfl) ?_
  intro p e s m below meth c ls A args Q S hr hlk hnm hQ hK hP hD hA hS hl
  have hx := S.1
  have hb := S.2.1
  have hl : lv_has ls 4 [(0, .ref (n 0)), (1, .int p0), (2, .int p1), (3, .int p2)] := hl
  refine lv_aload_n hx hb dX11_sample_0 rfl (lv_at hl 0 rfl) ?_
  refine lv_iload_n hx hb dX11_sample_1 rfl (lv_at hl 1 rfl) ?_
  refine x_muVi (wr := []) (As := [.int p0]) S hK hP hD hS hA hl mwX11_asksHour lkX11_330 (ctX11_asksHour l D k n f0 f1 f2 f3 p0 ) [0, 1, 2, 3, 4, 5] [] rfl rfl (by decide) (by decide) (by decide) rfl rfl rfl rfl rfl ⟨Nat.le_of_ble_eq_true rfl, Nat.le_of_ble_eq_true rfl, Nat.le_of_ble_eq_true rfl⟩ dX11_sample_2 ⟨Nat.le_of_ble_eq_true rfl, Nat.le_of_ble_eq_true rfl⟩ (fun r_1 u_2 H locs hr_1 hP hD hS => ?_)
  have hP : va_P D vwCl [] H := hP
  have hD : va_D A [] := hD
  subst hr_1
  refine lv_if_eq (tgt := 36) hx hb dX11_sample_5 (by decide) (fun c_3 => ?_) (fun c_3 => absurd (by decide) c_3)
  refine lv_ldc2 hx hb S.2.2.2.1 (S.2.2.2.2 _ lkX11_389) dX11_sample_36 ?_
  exact x_retl S hr hlk hQ hS () rfl (x_B P_nil D_nil) dX11_sample_39

set_option maxHeartbeats 4000000 in
set_option maxRecDepth 100000 in
theorem ctX11_sure (l : Launch) (D : va_G) (k : Nat → ClassId) (n : Nat → Nat) (f0 : Nat → Int32) (f1 : Nat → Int32) (f2 : Nat → Int32) (f3 : Nat → Int32) (p0 : Int32)  : MU l yX11_sure cX11_sure 3 (some .int) 5 D k [.ref (n 0), .int p0] [((n 0), .inr (11, [.int 0, .ref (n 1), .ref (n 2), .ref (n 3), .ref (n 4), .int 0, .ref (n 5), .int 0, .int 0, .int 0, .int 0, .int 0, .int 0, .int (-1), .ref (n 6), .ref (n 7), .ref (n 8), .ref (n 9), .ref (n 10), .ref (n 11), .ref (n 12), .int 0, .int 0, .int 0, .int 0, .ref (n 13), .ref (n 14), .ref (n 15), .int 0, .int 0, .int 0, .ref (n 16), .ref (n 17), .int 0, .ref (n 18), .long 0, .long 0, .ref (n 19), .int 0, .long 0, .long 0, .long 0, .ref (n 20), .ref (n 21), .ref (n 22), .ref (n 23)])), ((n 1), .inl (k 0, 99, .inl (fun _ => 0))), ((n 10), .inl (k 0, 12, .inl f0)), ((n 13), .inl (k 0, 17, .inl f1)), ((n 14), .inl (k 0, 17, .inl f2)), ((n 15), .inl (k 0, 17, .inl f3))] 0 0 (Ui D (fun (r : Int32) (u : Unit) => r = (-2)) (fun _ : Unit => [])) := by
  refine MU.of (by decide) (Nat.le_of_ble_eq_true rfl) ?_
  intro p e s m below meth c ls A args Q S hr hlk hnm hQ hK hP hD hA hS hl
  have hx := S.1
  have hb := S.2.1
  have hl : lv_has ls 3 [(0, .ref (n 0)), (1, .int p0)] := hl
  refine lv_aload_n hx hb dX11_sure_0 rfl (lv_at hl 0 rfl) ?_
  refine lv_iload_n hx hb dX11_sure_1 rfl (lv_at hl 1 rfl) ?_
  refine x_muVi (wr := []) (As := [.int p0]) S hK hP hD hS hA hl mwX11_asksHour lkX11_330 (ctX11_asksHour l D k n f0 f1 f2 f3 p0 ) [0, 1, 2, 3, 4, 5] [] rfl rfl (by decide) (by decide) (by decide) rfl rfl rfl rfl rfl ⟨Nat.le_of_ble_eq_true rfl, Nat.le_of_ble_eq_true rfl, Nat.le_of_ble_eq_true rfl⟩ dX11_sure_2 ⟨Nat.le_of_ble_eq_true rfl, Nat.le_of_ble_eq_true rfl⟩ (fun r_1 u_2 H locs hr_1 hP hD hS => ?_)
  have hP : va_P D vwCl [] H := hP
  have hD : va_D A [] := hD
  subst hr_1
  refine lv_if_ne (tgt := 11) hx hb dX11_sure_5 (by decide) (fun c_3 => absurd (by decide) c_3) (fun c_3 => ?_)
  refine lv_bipush (v := (-2)) hx hb dX11_sure_8 (by decide) ?_
  exact x_reti S hr hlk hQ hS () rfl (x_B P_nil D_nil) dX11_sure_10

set_option maxHeartbeats 4000000 in
set_option maxRecDepth 100000 in
theorem ctX11_worth (l : Launch) (D : va_G) (k : Nat → ClassId) (n : Nat → Nat) (f0 : Nat → Int32) (f1 : Nat → Int32) (f2 : Nat → Int32) (f3 : Nat → Int32)  : MU l yX11_worth cX11_worth 2 (some .int) 2 D k [.ref (n 0)] [((n 0), .inr (11, [.int 0, .ref (n 1), .ref (n 2), .ref (n 3), .ref (n 4), .int 0, .ref (n 5), .int 0, .int 0, .int 0, .int 0, .int 0, .int 0, .int (-1), .ref (n 6), .ref (n 7), .ref (n 8), .ref (n 9), .ref (n 10), .ref (n 11), .ref (n 12), .int 0, .int 0, .int 0, .int 0, .ref (n 13), .ref (n 14), .ref (n 15), .int 0, .int 0, .int 0, .ref (n 16), .ref (n 17), .int 0, .ref (n 18), .long 0, .long 0, .ref (n 19), .int 0, .long 0, .long 0, .long 0, .ref (n 20), .ref (n 21), .ref (n 22), .ref (n 23)])), ((n 1), .inl (k 0, 99, .inl (fun _ => 0))), ((n 10), .inl (k 0, 12, .inl f0)), ((n 13), .inl (k 0, 17, .inl f1)), ((n 14), .inl (k 0, 17, .inl f2)), ((n 15), .inl (k 0, 17, .inl f3))] 0 0 (Ui D (fun (r : Int32) (u : Unit) => r = (-1000)) (fun _ : Unit => [])) := by
  refine MU.of (by decide) (Nat.le_of_ble_eq_true rfl) ?_
  intro p e s m below meth c ls A args Q S hr hlk hnm hQ hK hP hD hA hS hl
  have hx := S.1
  have hb := S.2.1
  have hl : lv_has ls 2 [(0, .ref (n 0))] := hl
  refine lv_aload_n hx hb dX11_worth_0 rfl (lv_at hl 0 rfl) ?_
  refine x_muVv (wr := [((n 13), .inl (k 0, 17, .inl f1)), ((n 14), .inl (k 0, 17, .inl f2)), ((n 15), .inl (k 0, 17, .inl f3))]) (As := []) S hK hP hD hS hA hl mwX11_asItIs lkX11_309 (ctX11_asItIs l D k n f0 ) [0, 1, 2] [3, 4, 5] rfl rfl (by decide) (by decide) (by decide) rfl rfl rfl rfl rfl ⟨Nat.le_of_ble_eq_true rfl, Nat.le_of_ble_eq_true rfl, Nat.le_of_ble_eq_true rfl⟩ dX11_worth_1 ⟨Nat.le_of_ble_eq_true rfl, Nat.le_of_ble_eq_true rfl⟩ (fun u_2 H locs hr_1 hP hD hS => ?_)
  have hP : va_P D vwCl [((n 13), .inl (k 0, 17, .inl f1)), ((n 14), .inl (k 0, 17, .inl f2)), ((n 15), .inl (k 0, 17, .inl f3)), ((n 0), .inr (11, [.int 0, .ref (n 1), .ref (n 2), .ref (n 3), .ref (n 4), .int 0, .ref (n 5), .int 0, .int 0, .int 0, .int 0, .int 0, .int 0, .int (-1), .ref (n 6), .ref (n 7), .ref (n 8), .ref (n 9), .ref (n 10), .ref (n 11), .ref (n 12), .int 0, .int 0, .int 0, .int 0, .ref (n 13), .ref (n 14), .ref (n 15), .int 0, .int 0, .int 0, .ref (n 16), .ref (n 17), .int 0, .ref (n 18), .long 0, .long 0, .ref (n 19), .int 0, .long 0, .long 0, .long 0, .ref (n 20), .ref (n 21), .ref (n 22), .ref (n 23)])), ((n 1), .inl (k 0, 99, .inl (fun _ => 0))), ((n 10), .inl (k 0, 12, .inl u_2))] H := hP
  have hD : va_D A [((n 13), .inl (k 0, 17, .inl f1)), ((n 14), .inl (k 0, 17, .inl f2)), ((n 15), .inl (k 0, 17, .inl f3)), ((n 0), .inr (11, [.int 0, .ref (n 1), .ref (n 2), .ref (n 3), .ref (n 4), .int 0, .ref (n 5), .int 0, .int 0, .int 0, .int 0, .int 0, .int 0, .int (-1), .ref (n 6), .ref (n 7), .ref (n 8), .ref (n 9), .ref (n 10), .ref (n 11), .ref (n 12), .int 0, .int 0, .int 0, .int 0, .ref (n 13), .ref (n 14), .ref (n 15), .int 0, .int 0, .int 0, .ref (n 16), .ref (n 17), .int 0, .ref (n 18), .long 0, .long 0, .ref (n 19), .int 0, .long 0, .long 0, .long 0, .ref (n 20), .ref (n 21), .ref (n 22), .ref (n 23)])), ((n 1), .inl (k 0, 99, .inl (fun _ => 0))), ((n 10), .inl (k 0, 12, .inl u_2))] := hD
  refine lv_aload_n hx hb dX11_worth_4 rfl (lv_at hl 0 rfl) ?_
  refine x_roVi (As := []) S hK hP hS hA hl mwX11_headMany lkX11_95 (ctX11_headMany l D k n ) [3, 4] rfl ((hD.sub [3, 4] (by decide) rfl).weaken (fun _ _ _ _ => trivial)) rfl rfl rfl rfl rfl ⟨Nat.le_of_ble_eq_true rfl, Nat.le_of_ble_eq_true rfl, Nat.le_of_ble_eq_true rfl⟩ dX11_worth_5 ⟨Nat.le_of_ble_eq_true rfl, Nat.le_of_ble_eq_true rfl⟩ (fun r_3 H locs hr_3 hP hS => ?_)
  subst hr_3
  refine lv_if_ne (tgt := 15) hx hb dX11_worth_8 (by decide) (fun c_4 => absurd (by decide) c_4) (fun c_4 => ?_)
  refine lv_sipush (v := (-1000)) hx hb dX11_worth_11 (by decide) ?_
  exact x_reti S hr hlk hQ hS () rfl (x_B P_nil D_nil) dX11_worth_14

set_option maxHeartbeats 4000000 in
set_option maxRecDepth 100000 in
theorem ctX11_opens (l : Launch) (D : va_G) (k : Nat → ClassId) (n : Nat → Nat) (f0 : Nat → Int32) (f1 : Nat → Int32) (f2 : Nat → Int32) (f3 : Nat → Int32)  : MU l yX11_opens cX11_opens 1 (some .int) 2 D k [.ref (n 0)] [((n 0), .inr (11, [.int 0, .ref (n 1), .ref (n 2), .ref (n 3), .ref (n 4), .int 0, .ref (n 5), .int 0, .int 0, .int 0, .int 0, .int 0, .int 0, .int (-1), .ref (n 6), .ref (n 7), .ref (n 8), .ref (n 9), .ref (n 10), .ref (n 11), .ref (n 12), .int 0, .int 0, .int 0, .int 0, .ref (n 13), .ref (n 14), .ref (n 15), .int 0, .int 0, .int 0, .ref (n 16), .ref (n 17), .int 0, .ref (n 18), .long 0, .long 0, .ref (n 19), .int 0, .long 0, .long 0, .long 0, .ref (n 20), .ref (n 21), .ref (n 22), .ref (n 23)])), ((n 1), .inl (k 0, 99, .inl (fun _ => 0))), ((n 10), .inl (k 0, 12, .inl f0)), ((n 13), .inl (k 0, 17, .inl f1)), ((n 14), .inl (k 0, 17, .inl f2)), ((n 15), .inl (k 0, 17, .inl f3))] 0 0 (Ui D (fun (r : Int32) (u : Unit) => r = (-2)) (fun _ : Unit => [])) := by
  refine MU.of (by decide) (Nat.le_of_ble_eq_true rfl) ?_
  intro p e s m below meth c ls A args Q S hr hlk hnm hQ hK hP hD hA hS hl
  have hx := S.1
  have hb := S.2.1
  have hl : lv_has ls 1 [(0, .ref (n 0))] := hl
  refine lv_aload_n hx hb dX11_opens_0 rfl (lv_at hl 0 rfl) ?_
  refine x_muVv (wr := [((n 13), .inl (k 0, 17, .inl f1)), ((n 14), .inl (k 0, 17, .inl f2)), ((n 15), .inl (k 0, 17, .inl f3))]) (As := []) S hK hP hD hS hA hl mwX11_asItIs lkX11_309 (ctX11_asItIs l D k n f0 ) [0, 1, 2] [3, 4, 5] rfl rfl (by decide) (by decide) (by decide) rfl rfl rfl rfl rfl ⟨Nat.le_of_ble_eq_true rfl, Nat.le_of_ble_eq_true rfl, Nat.le_of_ble_eq_true rfl⟩ dX11_opens_1 ⟨Nat.le_of_ble_eq_true rfl, Nat.le_of_ble_eq_true rfl⟩ (fun u_2 H locs hr_1 hP hD hS => ?_)
  have hP : va_P D vwCl [((n 13), .inl (k 0, 17, .inl f1)), ((n 14), .inl (k 0, 17, .inl f2)), ((n 15), .inl (k 0, 17, .inl f3)), ((n 0), .inr (11, [.int 0, .ref (n 1), .ref (n 2), .ref (n 3), .ref (n 4), .int 0, .ref (n 5), .int 0, .int 0, .int 0, .int 0, .int 0, .int 0, .int (-1), .ref (n 6), .ref (n 7), .ref (n 8), .ref (n 9), .ref (n 10), .ref (n 11), .ref (n 12), .int 0, .int 0, .int 0, .int 0, .ref (n 13), .ref (n 14), .ref (n 15), .int 0, .int 0, .int 0, .ref (n 16), .ref (n 17), .int 0, .ref (n 18), .long 0, .long 0, .ref (n 19), .int 0, .long 0, .long 0, .long 0, .ref (n 20), .ref (n 21), .ref (n 22), .ref (n 23)])), ((n 1), .inl (k 0, 99, .inl (fun _ => 0))), ((n 10), .inl (k 0, 12, .inl u_2))] H := hP
  have hD : va_D A [((n 13), .inl (k 0, 17, .inl f1)), ((n 14), .inl (k 0, 17, .inl f2)), ((n 15), .inl (k 0, 17, .inl f3)), ((n 0), .inr (11, [.int 0, .ref (n 1), .ref (n 2), .ref (n 3), .ref (n 4), .int 0, .ref (n 5), .int 0, .int 0, .int 0, .int 0, .int 0, .int 0, .int (-1), .ref (n 6), .ref (n 7), .ref (n 8), .ref (n 9), .ref (n 10), .ref (n 11), .ref (n 12), .int 0, .int 0, .int 0, .int 0, .ref (n 13), .ref (n 14), .ref (n 15), .int 0, .int 0, .int 0, .ref (n 16), .ref (n 17), .int 0, .ref (n 18), .long 0, .long 0, .ref (n 19), .int 0, .long 0, .long 0, .long 0, .ref (n 20), .ref (n 21), .ref (n 22), .ref (n 23)])), ((n 1), .inl (k 0, 99, .inl (fun _ => 0))), ((n 10), .inl (k 0, 12, .inl u_2))] := hD
  refine lv_aload_n hx hb dX11_opens_4 rfl (lv_at hl 0 rfl) ?_
  refine x_roVi (As := []) S hK hP hS hA hl mwX11_isGarden lkX11_99 (ctX11_isGarden l D k n ) [3, 4] rfl ((hD.sub [3, 4] (by decide) rfl).weaken (fun _ _ _ _ => trivial)) rfl rfl rfl rfl rfl ⟨Nat.le_of_ble_eq_true rfl, Nat.le_of_ble_eq_true rfl, Nat.le_of_ble_eq_true rfl⟩ dX11_opens_5 ⟨Nat.le_of_ble_eq_true rfl, Nat.le_of_ble_eq_true rfl⟩ (fun r_3 H locs hr_3 hP hS => ?_)
  subst hr_3
  refine lv_if_eq (tgt := 18) hx hb dX11_opens_8 (by decide) (fun c_4 => ?_) (fun c_4 => absurd (by decide) c_4)
  refine lv_bipush (v := (-2)) hx hb dX11_opens_18 (by decide) ?_
  exact x_reti S hr hlk hQ hS () rfl (x_B P_nil D_nil) dX11_opens_20

set_option maxHeartbeats 4000000 in
set_option maxRecDepth 100000 in
theorem ctX11_replies (l : Launch) (D : va_G) (k : Nat → ClassId) (n : Nat → Nat) (f0 : Nat → Int32) (f1 : Nat → Int32) (f2 : Nat → Int32) (f3 : Nat → Int32) (p0 : Int32)  : MU l yX11_replies cX11_replies 2 (some .int) 2 D k [.ref (n 0), .int p0] [((n 0), .inr (11, [.int 0, .ref (n 1), .ref (n 2), .ref (n 3), .ref (n 4), .int 0, .ref (n 5), .int 0, .int 0, .int 0, .int 0, .int 0, .int 0, .int (-1), .ref (n 6), .ref (n 7), .ref (n 8), .ref (n 9), .ref (n 10), .ref (n 11), .ref (n 12), .int 0, .int 0, .int 0, .int 0, .ref (n 13), .ref (n 14), .ref (n 15), .int 0, .int 0, .int 0, .ref (n 16), .ref (n 17), .int 0, .ref (n 18), .long 0, .long 0, .ref (n 19), .int 0, .long 0, .long 0, .long 0, .ref (n 20), .ref (n 21), .ref (n 22), .ref (n 23)])), ((n 1), .inl (k 0, 99, .inl (fun _ => 0))), ((n 10), .inl (k 0, 12, .inl f0)), ((n 13), .inl (k 0, 17, .inl f1)), ((n 14), .inl (k 0, 17, .inl f2)), ((n 15), .inl (k 0, 17, .inl f3))] 0 0 (Ui D (fun (r : Int32) (u : Unit) => r = (-2)) (fun _ : Unit => [])) := by
  refine MU.of (by decide) (Nat.le_of_ble_eq_true rfl) ?_
  intro p e s m below meth c ls A args Q S hr hlk hnm hQ hK hP hD hA hS hl
  have hx := S.1
  have hb := S.2.1
  have hl : lv_has ls 2 [(0, .ref (n 0)), (1, .int p0)] := hl
  refine lv_aload_n hx hb dX11_replies_0 rfl (lv_at hl 0 rfl) ?_
  refine x_muVv (wr := [((n 13), .inl (k 0, 17, .inl f1)), ((n 14), .inl (k 0, 17, .inl f2)), ((n 15), .inl (k 0, 17, .inl f3))]) (As := []) S hK hP hD hS hA hl mwX11_asItIs lkX11_309 (ctX11_asItIs l D k n f0 ) [0, 1, 2] [3, 4, 5] rfl rfl (by decide) (by decide) (by decide) rfl rfl rfl rfl rfl ⟨Nat.le_of_ble_eq_true rfl, Nat.le_of_ble_eq_true rfl, Nat.le_of_ble_eq_true rfl⟩ dX11_replies_1 ⟨Nat.le_of_ble_eq_true rfl, Nat.le_of_ble_eq_true rfl⟩ (fun u_2 H locs hr_1 hP hD hS => ?_)
  have hP : va_P D vwCl [((n 13), .inl (k 0, 17, .inl f1)), ((n 14), .inl (k 0, 17, .inl f2)), ((n 15), .inl (k 0, 17, .inl f3)), ((n 0), .inr (11, [.int 0, .ref (n 1), .ref (n 2), .ref (n 3), .ref (n 4), .int 0, .ref (n 5), .int 0, .int 0, .int 0, .int 0, .int 0, .int 0, .int (-1), .ref (n 6), .ref (n 7), .ref (n 8), .ref (n 9), .ref (n 10), .ref (n 11), .ref (n 12), .int 0, .int 0, .int 0, .int 0, .ref (n 13), .ref (n 14), .ref (n 15), .int 0, .int 0, .int 0, .ref (n 16), .ref (n 17), .int 0, .ref (n 18), .long 0, .long 0, .ref (n 19), .int 0, .long 0, .long 0, .long 0, .ref (n 20), .ref (n 21), .ref (n 22), .ref (n 23)])), ((n 1), .inl (k 0, 99, .inl (fun _ => 0))), ((n 10), .inl (k 0, 12, .inl u_2))] H := hP
  have hD : va_D A [((n 13), .inl (k 0, 17, .inl f1)), ((n 14), .inl (k 0, 17, .inl f2)), ((n 15), .inl (k 0, 17, .inl f3)), ((n 0), .inr (11, [.int 0, .ref (n 1), .ref (n 2), .ref (n 3), .ref (n 4), .int 0, .ref (n 5), .int 0, .int 0, .int 0, .int 0, .int 0, .int 0, .int (-1), .ref (n 6), .ref (n 7), .ref (n 8), .ref (n 9), .ref (n 10), .ref (n 11), .ref (n 12), .int 0, .int 0, .int 0, .int 0, .ref (n 13), .ref (n 14), .ref (n 15), .int 0, .int 0, .int 0, .ref (n 16), .ref (n 17), .int 0, .ref (n 18), .long 0, .long 0, .ref (n 19), .int 0, .long 0, .long 0, .long 0, .ref (n 20), .ref (n 21), .ref (n 22), .ref (n 23)])), ((n 1), .inl (k 0, 99, .inl (fun _ => 0))), ((n 10), .inl (k 0, 12, .inl u_2))] := hD
  refine lv_aload_n hx hb dX11_replies_4 rfl (lv_at hl 0 rfl) ?_
  refine lv_iload_n hx hb dX11_replies_5 rfl (lv_at hl 1 rfl) ?_
  refine lv_i2l (v := p0.toInt64) hx hb dX11_replies_6 rfl ?_
  refine x_roVi (As := [.long (p0.toInt64)]) S hK hP hS hA hl mwX11_isHead lkX11_237 (ctX11_isHead l D k n (p0.toInt64) ) [3, 4] rfl ((hD.sub [3, 4] (by decide) rfl).weaken (fun _ _ _ _ => trivial)) rfl rfl rfl rfl rfl ⟨Nat.le_of_ble_eq_true rfl, Nat.le_of_ble_eq_true rfl, Nat.le_of_ble_eq_true rfl⟩ dX11_replies_7 ⟨Nat.le_of_ble_eq_true rfl, Nat.le_of_ble_eq_true rfl⟩ (fun r_3 H locs hr_3 hP hS => ?_)
  subst hr_3
  refine lv_if_eq (tgt := 21) hx hb dX11_replies_10 (by decide) (fun c_4 => ?_) (fun c_4 => absurd (by decide) c_4)
  refine lv_bipush (v := (-2)) hx hb dX11_replies_21 (by decide) ?_
  exact x_reti S hr hlk hQ hS () rfl (x_B P_nil D_nil) dX11_replies_23

set_option maxHeartbeats 4000000 in
set_option maxRecDepth 100000 in
theorem ctX11_whom (l : Launch) (D : va_G) (k : Nat → ClassId) (n : Nat → Nat) (p0 : Int32) (p1 : Int32)  : RO l yX11_whom cX11_whom 4 (some .int) 4 D k [.ref (n 0), .int p0, .int p1] [((n 0), .inr (11, [.int 0, .ref (n 1), .ref (n 2), .ref (n 3), .ref (n 4), .int 0, .ref (n 5), .int 0, .int 0, .int 0, .int 0, .int 0, .int 0, .int (-1), .ref (n 6), .ref (n 7), .ref (n 8), .ref (n 9), .ref (n 10), .ref (n 11), .ref (n 12), .int 0, .int 0, .int 0, .int 0, .ref (n 13), .ref (n 14), .ref (n 15), .int 0, .int 0, .int 0, .ref (n 16), .ref (n 17), .int 0, .ref (n 18), .long 0, .long 0, .ref (n 19), .int 0, .long 0, .long 0, .long 0, .ref (n 20), .ref (n 21), .ref (n 22), .ref (n 23)])), ((n 1), .inl (k 0, 99, .inl (fun _ => 0)))] (Qi (fun r : Int32 => r = (-2))) := by
  refine RO.of (by decide) (Nat.le_of_ble_eq_true rfl) ?_
  intro p e s m below meth c ls A args Q S hr hlk hQ hK hP hDW hA hS hl
  have hx := S.1
  have hb := S.2.1
  have hl : lv_has ls 4 [(0, .ref (n 0)), (1, .int p0), (2, .int p1)] := hl
  refine lv_aload_n hx hb dX11_whom_0 rfl (lv_at hl 0 rfl) ?_
  refine lv_iload_n hx hb dX11_whom_1 rfl (lv_at hl 1 rfl) ?_
  refine lv_iload_n hx hb dX11_whom_2 rfl (lv_at hl 2 rfl) ?_
  refine x_roVi (As := [.int p0, .int p1]) S hK hP hS hA hl mwX11_askWhom lkX11_440 (ctX11_askWhom l D k n p0 p1 ) [0, 1] rfl (hDW.sub [0, 1] (by decide) rfl) rfl rfl rfl rfl rfl ⟨Nat.le_of_ble_eq_true rfl, Nat.le_of_ble_eq_true rfl, Nat.le_of_ble_eq_true rfl⟩ dX11_whom_3 ⟨Nat.le_of_ble_eq_true rfl, Nat.le_of_ble_eq_true rfl⟩ (fun r_1 H locs hr_1 hP hS => ?_)
  subst hr_1
  refine lv_istore_n (lv' := [(3, .int (-2)), (0, .ref (n 0)), (1, .int p0), (2, .int p1)]) hx hb dX11_whom_6 rfl hl (by decide) rfl (fun ls hl => ?_)
  refine lv_iload_n hx hb dX11_whom_7 rfl (lv_at hl 0 rfl) ?_
  refine lv_if_ge (tgt := 15) hx hb dX11_whom_8 (by decide) (fun c_2 => absurd c_2 (by decide)) (fun c_2 => ?_)
  refine lv_iload_n hx hb dX11_whom_11 rfl (lv_at hl 0 rfl) ?_
  refine lv_goto (tgt := 21) hx hb dX11_whom_12 (by decide) ?_
  exact x_reti S hr hlk hQ hS () rfl x_T dX11_whom_21

set_option maxHeartbeats 4000000 in
set_option maxRecDepth 100000 in
theorem ctX11_ask (l : Launch) (D : va_G) (k : Nat → ClassId) (n : Nat → Nat) (p0 : Int32) (p1 : Int32)  : RO l yX11_ask cX11_ask 4 (some .int) 4 D k [.ref (n 0), .int p0, .int p1] [((n 0), .inr (11, [.int 0, .ref (n 1), .ref (n 2), .ref (n 3), .ref (n 4), .int 0, .ref (n 5), .int 0, .int 0, .int 0, .int 0, .int 0, .int 0, .int (-1), .ref (n 6), .ref (n 7), .ref (n 8), .ref (n 9), .ref (n 10), .ref (n 11), .ref (n 12), .int 0, .int 0, .int 0, .int 0, .ref (n 13), .ref (n 14), .ref (n 15), .int 0, .int 0, .int 0, .ref (n 16), .ref (n 17), .int 0, .ref (n 18), .long 0, .long 0, .ref (n 19), .int 0, .long 0, .long 0, .long 0, .ref (n 20), .ref (n 21), .ref (n 22), .ref (n 23)])), ((n 1), .inl (k 0, 99, .inl (fun _ => 0)))] (Qi (fun r : Int32 => r = (-2))) := by
  refine RO.of (by decide) (Nat.le_of_ble_eq_true rfl) ?_
  intro p e s m below meth c ls A args Q S hr hlk hQ hK hP hDW hA hS hl
  have hx := S.1
  have hb := S.2.1
  have hl : lv_has ls 4 [(0, .ref (n 0)), (1, .int p0), (2, .int p1)] := hl
  refine lv_aload_n hx hb dX11_ask_0 rfl (lv_at hl 0 rfl) ?_
  refine lv_iload_n hx hb dX11_ask_1 rfl (lv_at hl 1 rfl) ?_
  refine lv_iload_n hx hb dX11_ask_2 rfl (lv_at hl 2 rfl) ?_
  refine x_roVi (As := [.int p0, .int p1]) S hK hP hS hA hl mwX11_askWhom lkX11_440 (ctX11_askWhom l D k n p0 p1 ) [0, 1] rfl (hDW.sub [0, 1] (by decide) rfl) rfl rfl rfl rfl rfl ⟨Nat.le_of_ble_eq_true rfl, Nat.le_of_ble_eq_true rfl, Nat.le_of_ble_eq_true rfl⟩ dX11_ask_3 ⟨Nat.le_of_ble_eq_true rfl, Nat.le_of_ble_eq_true rfl⟩ (fun r_1 H locs hr_1 hP hS => ?_)
  subst hr_1
  refine lv_istore_n (lv' := [(3, .int (-2)), (0, .ref (n 0)), (1, .int p0), (2, .int p1)]) hx hb dX11_ask_6 rfl hl (by decide) rfl (fun ls hl => ?_)
  refine lv_iload_n hx hb dX11_ask_7 rfl (lv_at hl 0 rfl) ?_
  refine lv_if_ge (tgt := 15) hx hb dX11_ask_8 (by decide) (fun c_2 => absurd c_2 (by decide)) (fun c_2 => ?_)
  refine lv_iload_n hx hb dX11_ask_11 rfl (lv_at hl 0 rfl) ?_
  refine lv_goto (tgt := 25) hx hb dX11_ask_12 (by decide) ?_
  exact x_reti S hr hlk hQ hS () rfl x_T dX11_ask_25

set_option maxHeartbeats 4000000 in
set_option maxRecDepth 100000 in
theorem ctX11_leaves (l : Launch) (D : va_G) (k : Nat → ClassId) (n : Nat → Nat) (p0 : Int32) (p1 : Int32)  : RO l yX11_leaves cX11_leaves 4 (some .int) 4 D k [.ref (n 0), .int p0, .int p1] [((n 0), .inr (11, [.int 0, .ref (n 1), .ref (n 2), .ref (n 3), .ref (n 4), .int 0, .ref (n 5), .int 0, .int 0, .int 0, .int 0, .int 0, .int 0, .int (-1), .ref (n 6), .ref (n 7), .ref (n 8), .ref (n 9), .ref (n 10), .ref (n 11), .ref (n 12), .int 0, .int 0, .int 0, .int 0, .ref (n 13), .ref (n 14), .ref (n 15), .int 0, .int 0, .int 0, .ref (n 16), .ref (n 17), .int 0, .ref (n 18), .long 0, .long 0, .ref (n 19), .int 0, .long 0, .long 0, .long 0, .ref (n 20), .ref (n 21), .ref (n 22), .ref (n 23)])), ((n 1), .inl (k 0, 99, .inl (fun _ => 0)))] (Qi (fun r : Int32 => r = (-2))) := by
  refine RO.of (by decide) (Nat.le_of_ble_eq_true rfl) ?_
  intro p e s m below meth c ls A args Q S hr hlk hQ hK hP hDW hA hS hl
  have hx := S.1
  have hb := S.2.1
  have hl : lv_has ls 4 [(0, .ref (n 0)), (1, .int p0), (2, .int p1)] := hl
  refine lv_aload_n hx hb dX11_leaves_0 rfl (lv_at hl 0 rfl) ?_
  refine lv_iload_n hx hb dX11_leaves_1 rfl (lv_at hl 1 rfl) ?_
  refine lv_iload_n hx hb dX11_leaves_2 rfl (lv_at hl 2 rfl) ?_
  refine x_roVi (As := [.int p0, .int p1]) S hK hP hS hA hl mwX11_askWhom lkX11_440 (ctX11_askWhom l D k n p0 p1 ) [0, 1] rfl (hDW.sub [0, 1] (by decide) rfl) rfl rfl rfl rfl rfl ⟨Nat.le_of_ble_eq_true rfl, Nat.le_of_ble_eq_true rfl, Nat.le_of_ble_eq_true rfl⟩ dX11_leaves_3 ⟨Nat.le_of_ble_eq_true rfl, Nat.le_of_ble_eq_true rfl⟩ (fun r_1 H locs hr_1 hP hS => ?_)
  subst hr_1
  refine lv_istore_n (lv' := [(3, .int (-2)), (0, .ref (n 0)), (1, .int p0), (2, .int p1)]) hx hb dX11_leaves_6 rfl hl (by decide) rfl (fun ls hl => ?_)
  refine lv_iload_n hx hb dX11_leaves_7 rfl (lv_at hl 0 rfl) ?_
  refine lv_if_ge (tgt := 13) hx hb dX11_leaves_8 (by decide) (fun c_2 => absurd c_2 (by decide)) (fun c_2 => ?_)
  refine lv_iload_n hx hb dX11_leaves_11 rfl (lv_at hl 0 rfl) ?_
  exact x_reti S hr hlk hQ hS () rfl x_T dX11_leaves_12

set_option maxHeartbeats 4000000 in
set_option maxRecDepth 100000 in
theorem ctX11_laws (l : Launch) (D : va_G) (k : Nat → ClassId) (n : Nat → Nat) (p0 : Int32)  : RO l yX11_laws cX11_laws 4 (some .int) 3 D k [.ref (n 0), .int p0] [((n 0), .inr (11, [.int 0, .ref (n 1), .ref (n 2), .ref (n 3), .ref (n 4), .int 0, .ref (n 5), .int 0, .int 0, .int 0, .int 0, .int 0, .int 0, .int (-1), .ref (n 6), .ref (n 7), .ref (n 8), .ref (n 9), .ref (n 10), .ref (n 11), .ref (n 12), .int 0, .int 0, .int 0, .int 0, .ref (n 13), .ref (n 14), .ref (n 15), .int 0, .int 0, .int 0, .ref (n 16), .ref (n 17), .int 0, .ref (n 18), .long 0, .long 0, .ref (n 19), .int 0, .long 0, .long 0, .long 0, .ref (n 20), .ref (n 21), .ref (n 22), .ref (n 23)])), ((n 1), .inl (k 0, 99, .inl (fun _ => 0)))] (Qi (fun r : Int32 => r = (-2))) := by
  refine RO.of (by decide) (Nat.le_of_ble_eq_true rfl) ?_
  intro p e s m below meth c ls A args Q S hr hlk hQ hK hP hDW hA hS hl
  have hx := S.1
  have hb := S.2.1
  have hl : lv_has ls 4 [(0, .ref (n 0)), (1, .int p0)] := hl
  refine lv_aload_n hx hb dX11_laws_0 rfl (lv_at hl 0 rfl) ?_
  refine lv_iload_n hx hb dX11_laws_1 rfl (lv_at hl 1 rfl) ?_
  refine x_roVi (As := [.int p0]) S hK hP hS hA hl mwX11_askSeen lkX11_437 (ctX11_askSeen l D k n p0 ) [0, 1] rfl (hDW.sub [0, 1] (by decide) rfl) rfl rfl rfl rfl rfl ⟨Nat.le_of_ble_eq_true rfl, Nat.le_of_ble_eq_true rfl, Nat.le_of_ble_eq_true rfl⟩ dX11_laws_2 ⟨Nat.le_of_ble_eq_true rfl, Nat.le_of_ble_eq_true rfl⟩ (fun r_1 H locs hr_1 hP hS => ?_)
  subst hr_1
  refine lv_istore_n (lv' := [(2, .int (-2)), (0, .ref (n 0)), (1, .int p0)]) hx hb dX11_laws_5 rfl hl (by decide) rfl (fun ls hl => ?_)
  refine lv_iload_n hx hb dX11_laws_6 rfl (lv_at hl 0 rfl) ?_
  refine lv_if_ge (tgt := 12) hx hb dX11_laws_7 (by decide) (fun c_2 => absurd c_2 (by decide)) (fun c_2 => ?_)
  refine lv_iload_n hx hb dX11_laws_10 rfl (lv_at hl 0 rfl) ?_
  exact x_reti S hr hlk hQ hS () rfl x_T dX11_laws_11

set_option maxHeartbeats 4000000 in
set_option maxRecDepth 100000 in
theorem ctX11_by (l : Launch) (D : va_G) (k : Nat → ClassId) (n : Nat → Nat) (f0 : Nat → Int32) (f1 : Nat → Int32) (f2 : Nat → Int32) (f3 : Nat → Int32) (p0 : Int32)  : MU l yX11_by cX11_by 2 (some .int) 4 D k [.ref (n 0), .int p0] [((n 0), .inr (11, [.int 0, .ref (n 1), .ref (n 2), .ref (n 3), .ref (n 4), .int 0, .ref (n 5), .int 0, .int 0, .int 0, .int 0, .int 0, .int 0, .int (-1), .ref (n 6), .ref (n 7), .ref (n 8), .ref (n 9), .ref (n 10), .ref (n 11), .ref (n 12), .int 0, .int 0, .int 0, .int 0, .ref (n 13), .ref (n 14), .ref (n 15), .int 0, .int 0, .int 0, .ref (n 16), .ref (n 17), .int 0, .ref (n 18), .long 0, .long 0, .ref (n 19), .int 0, .long 0, .long 0, .long 0, .ref (n 20), .ref (n 21), .ref (n 22), .ref (n 23)])), ((n 1), .inl (k 0, 99, .inl (fun _ => 0))), ((n 10), .inl (k 0, 12, .inl f0)), ((n 13), .inl (k 0, 17, .inl f1)), ((n 14), .inl (k 0, 17, .inl f2)), ((n 15), .inl (k 0, 17, .inl f3))] 0 0 (Ui D (fun (r : Int32) (u : Unit) => r = (-2)) (fun _ : Unit => [])) := by
  refine MU.of (by decide) (Nat.le_of_ble_eq_true rfl) ?_
  intro p e s m below meth c ls A args Q S hr hlk hnm hQ hK hP hD hA hS hl
  have hx := S.1
  have hb := S.2.1
  have hl : lv_has ls 2 [(0, .ref (n 0)), (1, .int p0)] := hl
  refine lv_aload_n hx hb dX11_by_0 rfl (lv_at hl 0 rfl) ?_
  refine x_muVi (wr := []) (As := []) S hK hP hD hS hA hl mwX11_asksGarden lkX11_315 (ctX11_asksGarden l D k n f0 f1 f2 f3 ) [0, 1, 2, 3, 4, 5] [] rfl rfl (by decide) (by decide) (by decide) rfl rfl rfl rfl rfl ⟨Nat.le_of_ble_eq_true rfl, Nat.le_of_ble_eq_true rfl, Nat.le_of_ble_eq_true rfl⟩ dX11_by_1 ⟨Nat.le_of_ble_eq_true rfl, Nat.le_of_ble_eq_true rfl⟩ (fun r_1 u_2 H locs hr_1 hP hD hS => ?_)
  have hP : va_P D vwCl [((n 0), .inr (11, [.int 0, .ref (n 1), .ref (n 2), .ref (n 3), .ref (n 4), .int 0, .ref (n 5), .int 0, .int 0, .int 0, .int 0, .int 0, .int 0, .int (-1), .ref (n 6), .ref (n 7), .ref (n 8), .ref (n 9), .ref (n 10), .ref (n 11), .ref (n 12), .int 0, .int 0, .int 0, .int 0, .ref (n 13), .ref (n 14), .ref (n 15), .int 0, .int 0, .int 0, .ref (n 16), .ref (n 17), .int 0, .ref (n 18), .long 0, .long 0, .ref (n 19), .int 0, .long 0, .long 0, .long 0, .ref (n 20), .ref (n 21), .ref (n 22), .ref (n 23)])), ((n 1), .inl (k 0, 99, .inl (fun _ => 0)))] H := hP
  have hD : va_D A [((n 0), .inr (11, [.int 0, .ref (n 1), .ref (n 2), .ref (n 3), .ref (n 4), .int 0, .ref (n 5), .int 0, .int 0, .int 0, .int 0, .int 0, .int 0, .int (-1), .ref (n 6), .ref (n 7), .ref (n 8), .ref (n 9), .ref (n 10), .ref (n 11), .ref (n 12), .int 0, .int 0, .int 0, .int 0, .ref (n 13), .ref (n 14), .ref (n 15), .int 0, .int 0, .int 0, .ref (n 16), .ref (n 17), .int 0, .ref (n 18), .long 0, .long 0, .ref (n 19), .int 0, .long 0, .long 0, .long 0, .ref (n 20), .ref (n 21), .ref (n 22), .ref (n 23)])), ((n 1), .inl (k 0, 99, .inl (fun _ => 0)))] := hD
  subst hr_1
  refine lv_if_eq (tgt := 27) hx hb dX11_by_4 (by decide) (fun c_3 => ?_) (fun c_3 => absurd (by decide) c_3)
  refine lv_bipush (v := (-2)) hx hb dX11_by_27 (by decide) ?_
  exact x_reti S hr hlk hQ hS () rfl (x_B P_nil D_nil) dX11_by_29

set_option maxHeartbeats 4000000 in
set_option maxRecDepth 100000 in
theorem ctX11_law (l : Launch) (D : va_G) (k : Nat → ClassId) (n : Nat → Nat) (f0 : Nat → Int32) (f1 : Nat → Int32) (f2 : Nat → Int32) (f3 : Nat → Int32)  : MU l yX11_law cX11_law 3 (some .int) 4 D k [.ref (n 0)] [((n 0), .inr (11, [.int 0, .ref (n 1), .ref (n 2), .ref (n 3), .ref (n 4), .int 0, .ref (n 5), .int 0, .int 0, .int 0, .int 0, .int 0, .int 0, .int (-1), .ref (n 6), .ref (n 7), .ref (n 8), .ref (n 9), .ref (n 10), .ref (n 11), .ref (n 12), .int 0, .int 0, .int 0, .int 0, .ref (n 13), .ref (n 14), .ref (n 15), .int 0, .int 0, .int 0, .ref (n 16), .ref (n 17), .int 0, .ref (n 18), .long 0, .long 0, .ref (n 19), .int 0, .long 0, .long 0, .long 0, .ref (n 20), .ref (n 21), .ref (n 22), .ref (n 23)])), ((n 1), .inl (k 0, 99, .inl (fun _ => 0))), ((n 10), .inl (k 0, 12, .inl f0)), ((n 13), .inl (k 0, 17, .inl f1)), ((n 14), .inl (k 0, 17, .inl f2)), ((n 15), .inl (k 0, 17, .inl f3))] 0 0 (Ui D (fun (r : Int32) (u : Unit) => r = (-2)) (fun _ : Unit => [])) := by
  refine MU.of (by decide) (Nat.le_of_ble_eq_true rfl) ?_
  intro p e s m below meth c ls A args Q S hr hlk hnm hQ hK hP hD hA hS hl
  have hx := S.1
  have hb := S.2.1
  have hl : lv_has ls 3 [(0, .ref (n 0))] := hl
  refine lv_aload_n hx hb dX11_law_0 rfl (lv_at hl 0 rfl) ?_
  refine x_muVi (wr := []) (As := []) S hK hP hD hS hA hl mwX11_asksGarden lkX11_315 (ctX11_asksGarden l D k n f0 f1 f2 f3 ) [0, 1, 2, 3, 4, 5] [] rfl rfl (by decide) (by decide) (by decide) rfl rfl rfl rfl rfl ⟨Nat.le_of_ble_eq_true rfl, Nat.le_of_ble_eq_true rfl, Nat.le_of_ble_eq_true rfl⟩ dX11_law_1 ⟨Nat.le_of_ble_eq_true rfl, Nat.le_of_ble_eq_true rfl⟩ (fun r_1 u_2 H locs hr_1 hP hD hS => ?_)
  have hP : va_P D vwCl [((n 0), .inr (11, [.int 0, .ref (n 1), .ref (n 2), .ref (n 3), .ref (n 4), .int 0, .ref (n 5), .int 0, .int 0, .int 0, .int 0, .int 0, .int 0, .int (-1), .ref (n 6), .ref (n 7), .ref (n 8), .ref (n 9), .ref (n 10), .ref (n 11), .ref (n 12), .int 0, .int 0, .int 0, .int 0, .ref (n 13), .ref (n 14), .ref (n 15), .int 0, .int 0, .int 0, .ref (n 16), .ref (n 17), .int 0, .ref (n 18), .long 0, .long 0, .ref (n 19), .int 0, .long 0, .long 0, .long 0, .ref (n 20), .ref (n 21), .ref (n 22), .ref (n 23)])), ((n 1), .inl (k 0, 99, .inl (fun _ => 0)))] H := hP
  have hD : va_D A [((n 0), .inr (11, [.int 0, .ref (n 1), .ref (n 2), .ref (n 3), .ref (n 4), .int 0, .ref (n 5), .int 0, .int 0, .int 0, .int 0, .int 0, .int 0, .int (-1), .ref (n 6), .ref (n 7), .ref (n 8), .ref (n 9), .ref (n 10), .ref (n 11), .ref (n 12), .int 0, .int 0, .int 0, .int 0, .ref (n 13), .ref (n 14), .ref (n 15), .int 0, .int 0, .int 0, .ref (n 16), .ref (n 17), .int 0, .ref (n 18), .long 0, .long 0, .ref (n 19), .int 0, .long 0, .long 0, .long 0, .ref (n 20), .ref (n 21), .ref (n 22), .ref (n 23)])), ((n 1), .inl (k 0, 99, .inl (fun _ => 0)))] := hD
  subst hr_1
  refine lv_if_ne (tgt := 10) hx hb dX11_law_4 (by decide) (fun c_3 => absurd (by decide) c_3) (fun c_3 => ?_)
  refine lv_bipush (v := (-2)) hx hb dX11_law_7 (by decide) ?_
  exact x_reti S hr hlk hQ hS () rfl (x_B P_nil D_nil) dX11_law_9

set_option maxHeartbeats 4000000 in
set_option maxRecDepth 100000 in
theorem ctX11_rests (l : Launch) (D : va_G) (k : Nat → ClassId) (n : Nat → Nat) (p0 : Int32) (p1 : Int32)  : RO l yX11_rests cX11_rests 8 (some .int) 3 D k [.ref (n 0), .int p0, .int p1] [((n 0), .inr (11, [.int 0, .ref (n 1), .ref (n 2), .ref (n 3), .ref (n 4), .int 0, .ref (n 5), .int 0, .int 0, .int 0, .int 0, .int 0, .int 0, .int (-1), .ref (n 6), .ref (n 7), .ref (n 8), .ref (n 9), .ref (n 10), .ref (n 11), .ref (n 12), .int 0, .int 0, .int 0, .int 0, .ref (n 13), .ref (n 14), .ref (n 15), .int 0, .int 0, .int 0, .ref (n 16), .ref (n 17), .int 0, .ref (n 18), .long 0, .long 0, .ref (n 19), .int 0, .long 0, .long 0, .long 0, .ref (n 20), .ref (n 21), .ref (n 22), .ref (n 23)])), ((n 1), .inl (k 0, 99, .inl (fun _ => 0)))] (Qi (fun r : Int32 => r = (-2))) := by
  refine RO.of (by decide) (Nat.le_of_ble_eq_true rfl) ?_
  intro p e s m below meth c ls A args Q S hr hlk hQ hK hP hDW hA hS hl
  have hx := S.1
  have hb := S.2.1
  have hl : lv_has ls 8 [(0, .ref (n 0)), (1, .int p0), (2, .int p1)] := hl
  refine lv_aload_n hx hb dX11_rests_0 rfl (lv_at hl 0 rfl) ?_
  refine lv_iload_n hx hb dX11_rests_1 rfl (lv_at hl 1 rfl) ?_
  refine lv_iload_n hx hb dX11_rests_2 rfl (lv_at hl 2 rfl) ?_
  refine x_roVi (As := [.int p0, .int p1]) S hK hP hS hA hl mwX11_areTwo lkX11_458 (ctX11_areTwo l D k n p0 p1 ) [0, 1] rfl (hDW.sub [0, 1] (by decide) rfl) rfl rfl rfl rfl rfl ⟨Nat.le_of_ble_eq_true rfl, Nat.le_of_ble_eq_true rfl, Nat.le_of_ble_eq_true rfl⟩ dX11_rests_3 ⟨Nat.le_of_ble_eq_true rfl, Nat.le_of_ble_eq_true rfl⟩ (fun r_1 H locs hr_1 hP hS => ?_)
  subst hr_1
  refine lv_if_ne (tgt := 12) hx hb dX11_rests_6 (by decide) (fun c_2 => absurd (by decide) c_2) (fun c_2 => ?_)
  refine lv_bipush (v := (-2)) hx hb dX11_rests_9 (by decide) ?_
  exact x_reti S hr hlk hQ hS () rfl x_T dX11_rests_11

set_option maxHeartbeats 4000000 in
set_option maxRecDepth 100000 in
theorem ctX11_gets (l : Launch) (D : va_G) (k : Nat → ClassId) (n : Nat → Nat) (p0 : Int32) (p1 : Int32) (p2 : Int32) (p3 : Int32)  : RO l yX11_gets cX11_gets 5 (some .int) 3 D k [.ref (n 0), .int p0, .int p1, .int p2, .int p3] [((n 0), .inr (11, [.int 0, .ref (n 1), .ref (n 2), .ref (n 3), .ref (n 4), .int 0, .ref (n 5), .int 0, .int 0, .int 0, .int 0, .int 0, .int 0, .int (-1), .ref (n 6), .ref (n 7), .ref (n 8), .ref (n 9), .ref (n 10), .ref (n 11), .ref (n 12), .int 0, .int 0, .int 0, .int 0, .ref (n 13), .ref (n 14), .ref (n 15), .int 0, .int 0, .int 0, .ref (n 16), .ref (n 17), .int 0, .ref (n 18), .long 0, .long 0, .ref (n 19), .int 0, .long 0, .long 0, .long 0, .ref (n 20), .ref (n 21), .ref (n 22), .ref (n 23)])), ((n 1), .inl (k 0, 99, .inl (fun _ => 0)))] (Qi (fun r : Int32 => r = (-1000))) := by
  refine RO.of (by decide) (Nat.le_of_ble_eq_true rfl) ?_
  intro p e s m below meth c ls A args Q S hr hlk hQ hK hP hDW hA hS hl
  have hx := S.1
  have hb := S.2.1
  have hl : lv_has ls 5 [(0, .ref (n 0)), (1, .int p0), (2, .int p1), (3, .int p2), (4, .int p3)] := hl
  refine lv_aload_n hx hb dX11_gets_0 rfl (lv_at hl 0 rfl) ?_
  refine lv_iload_n hx hb dX11_gets_1 rfl (lv_at hl 1 rfl) ?_
  refine lv_iload_n hx hb dX11_gets_2 rfl (lv_at hl 2 rfl) ?_
  refine x_roVi (As := [.int p0, .int p1]) S hK hP hS hA hl mwX11_areTwo lkX11_458 (ctX11_areTwo l D k n p0 p1 ) [0, 1] rfl (hDW.sub [0, 1] (by decide) rfl) rfl rfl rfl rfl rfl ⟨Nat.le_of_ble_eq_true rfl, Nat.le_of_ble_eq_true rfl, Nat.le_of_ble_eq_true rfl⟩ dX11_gets_3 ⟨Nat.le_of_ble_eq_true rfl, Nat.le_of_ble_eq_true rfl⟩ (fun r_1 H locs hr_1 hP hS => ?_)
  subst hr_1
  refine lv_if_eq (tgt := 43) hx hb dX11_gets_6 (by decide) (fun c_2 => ?_) (fun c_2 => absurd (by decide) c_2)
  refine lv_sipush (v := (-1000)) hx hb dX11_gets_43 (by decide) ?_
  exact x_reti S hr hlk hQ hS () rfl x_T dX11_gets_46

set_option maxHeartbeats 4000000 in
set_option maxRecDepth 100000 in
theorem ctX11_chance (l : Launch) (D : va_G) (k : Nat → ClassId) (n : Nat → Nat) (p0 : Int32) (p1 : Int32) (p2 : Int32) (p3 : Int32)  : RO l yX11_chance cX11_chance 5 (some .long) 2 D k [.ref (n 0), .int p0, .int p1, .int p2, .int p3] [((n 0), .inr (11, [.int 0, .ref (n 1), .ref (n 2), .ref (n 3), .ref (n 4), .int 0, .ref (n 5), .int 0, .int 0, .int 0, .int 0, .int 0, .int 0, .int (-1), .ref (n 6), .ref (n 7), .ref (n 8), .ref (n 9), .ref (n 10), .ref (n 11), .ref (n 12), .int 0, .int 0, .int 0, .int 0, .ref (n 13), .ref (n 14), .ref (n 15), .int 0, .int 0, .int 0, .ref (n 16), .ref (n 17), .int 0, .ref (n 18), .long 0, .long 0, .ref (n 19), .int 0, .long 0, .long 0, .long 0, .ref (n 20), .ref (n 21), .ref (n 22), .ref (n 23)])), ((n 1), .inl (k 0, 99, .inl (fun _ => 0)))] (Ql (fun r : Int64 => r = (-2))) := by
  refine RO.of (by decide) (Nat.le_of_ble_eq_true rfl) ?_
  intro p e s m below meth c ls A args Q S hr hlk hQ hK hP hDW hA hS hl
  have hx := S.1
  have hb := S.2.1
  have hl : lv_has ls 5 [(0, .ref (n 0)), (1, .int p0), (2, .int p1), (3, .int p2), (4, .int p3)] := hl
  refine lv_aload_n hx hb dX11_chance_0 rfl (lv_at hl 0 rfl) ?_
  refine lv_iload_n hx hb dX11_chance_1 rfl (lv_at hl 1 rfl) ?_
  refine lv_i2l (v := p0.toInt64) hx hb dX11_chance_2 rfl ?_
  refine x_roVi (As := [.long (p0.toInt64)]) S hK hP hS hA hl mwX11_isHead lkX11_237 (ctX11_isHead l D k n (p0.toInt64) ) [0, 1] rfl (hDW.sub [0, 1] (by decide) rfl) rfl rfl rfl rfl rfl ⟨Nat.le_of_ble_eq_true rfl, Nat.le_of_ble_eq_true rfl, Nat.le_of_ble_eq_true rfl⟩ dX11_chance_3 ⟨Nat.le_of_ble_eq_true rfl, Nat.le_of_ble_eq_true rfl⟩ (fun r_1 H locs hr_1 hP hS => ?_)
  subst hr_1
  refine lv_if_eq (tgt := 27) hx hb dX11_chance_6 (by decide) (fun c_2 => ?_) (fun c_2 => absurd (by decide) c_2)
  refine lv_ldc2 hx hb S.2.2.2.1 (S.2.2.2.2 _ lkX11_389) dX11_chance_27 ?_
  exact x_retl S hr hlk hQ hS () rfl x_T dX11_chance_30

set_option maxHeartbeats 4000000 in
set_option maxRecDepth 100000 in
theorem ctX11_mean (l : Launch) (D : va_G) (k : Nat → ClassId) (n : Nat → Nat) (p0 : Int32) (p1 : Int32)  : RO l yX11_mean cX11_mean 3 (some .long) 2 D k [.ref (n 0), .int p0, .int p1] [((n 0), .inr (11, [.int 0, .ref (n 1), .ref (n 2), .ref (n 3), .ref (n 4), .int 0, .ref (n 5), .int 0, .int 0, .int 0, .int 0, .int 0, .int 0, .int (-1), .ref (n 6), .ref (n 7), .ref (n 8), .ref (n 9), .ref (n 10), .ref (n 11), .ref (n 12), .int 0, .int 0, .int 0, .int 0, .ref (n 13), .ref (n 14), .ref (n 15), .int 0, .int 0, .int 0, .ref (n 16), .ref (n 17), .int 0, .ref (n 18), .long 0, .long 0, .ref (n 19), .int 0, .long 0, .long 0, .long 0, .ref (n 20), .ref (n 21), .ref (n 22), .ref (n 23)])), ((n 1), .inl (k 0, 99, .inl (fun _ => 0)))] (Ql (fun r : Int64 => r = (-2))) := by
  refine RO.of (by decide) (Nat.le_of_ble_eq_true rfl) ?_
  intro p e s m below meth c ls A args Q S hr hlk hQ hK hP hDW hA hS hl
  have hx := S.1
  have hb := S.2.1
  have hl : lv_has ls 3 [(0, .ref (n 0)), (1, .int p0), (2, .int p1)] := hl
  refine lv_aload_n hx hb dX11_mean_0 rfl (lv_at hl 0 rfl) ?_
  refine lv_iload_n hx hb dX11_mean_1 rfl (lv_at hl 1 rfl) ?_
  refine lv_iload_n hx hb dX11_mean_2 rfl (lv_at hl 2 rfl) ?_
  refine x_roVi (As := [.int p0, .int p1]) S hK hP hS hA hl mwX11_isWet lkX11_476 (ctX11_isWet l D k n p0 p1 ) [0, 1] rfl (hDW.sub [0, 1] (by decide) rfl) rfl rfl rfl rfl rfl ⟨Nat.le_of_ble_eq_true rfl, Nat.le_of_ble_eq_true rfl, Nat.le_of_ble_eq_true rfl⟩ dX11_mean_3 ⟨Nat.le_of_ble_eq_true rfl, Nat.le_of_ble_eq_true rfl⟩ (fun r_1 H locs hr_1 hP hS => ?_)
  subst hr_1
  refine lv_if_ne (tgt := 13) hx hb dX11_mean_6 (by decide) (fun c_2 => absurd (by decide) c_2) (fun c_2 => ?_)
  refine lv_ldc2 hx hb S.2.2.2.1 (S.2.2.2.2 _ lkX11_389) dX11_mean_9 ?_
  exact x_retl S hr hlk hQ hS () rfl x_T dX11_mean_12

set_option maxHeartbeats 4000000 in
set_option maxRecDepth 100000 in
theorem ctX11_say (l : Launch) (D : va_G) (k : Nat → ClassId) (n : Nat → Nat) (p0 : Int32) (p1 : Int32) (p2 : Int32)  : RO l yX11_say cX11_say 4 (some .int) 2 D k [.ref (n 0), .int p0, .int p1, .int p2] [((n 0), .inr (11, [.int 0, .ref (n 1), .ref (n 2), .ref (n 3), .ref (n 4), .int 0, .ref (n 5), .int 0, .int 0, .int 0, .int 0, .int 0, .int 0, .int (-1), .ref (n 6), .ref (n 7), .ref (n 8), .ref (n 9), .ref (n 10), .ref (n 11), .ref (n 12), .int 0, .int 0, .int 0, .int 0, .ref (n 13), .ref (n 14), .ref (n 15), .int 0, .int 0, .int 0, .ref (n 16), .ref (n 17), .int 0, .ref (n 18), .long 0, .long 0, .ref (n 19), .int 0, .long 0, .long 0, .long 0, .ref (n 20), .ref (n 21), .ref (n 22), .ref (n 23)])), ((n 1), .inl (k 0, 99, .inl (fun _ => 0)))] (Qi (fun r : Int32 => r = (-2))) := by
  refine RO.of (by decide) (Nat.le_of_ble_eq_true rfl) ?_
  intro p e s m below meth c ls A args Q S hr hlk hQ hK hP hDW hA hS hl
  have hx := S.1
  have hb := S.2.1
  have hl : lv_has ls 4 [(0, .ref (n 0)), (1, .int p0), (2, .int p1), (3, .int p2)] := hl
  refine lv_iload_n hx hb dX11_say_0 rfl (lv_at hl 1 rfl) ?_
  refine lv_i2l (v := p0.toInt64) hx hb dX11_say_1 rfl ?_
  refine x_roSi (As := [.long (p0.toInt64)]) S hK hP hS hA hl mwX11_isView lkX11_348 (ctX11_isView l D k (p0.toInt64) ) [] rfl D_nil rfl rfl ⟨Nat.le_of_ble_eq_true rfl, Nat.le_of_ble_eq_true rfl, Nat.le_of_ble_eq_true rfl⟩ dX11_say_2 ⟨Nat.le_of_ble_eq_true rfl, Nat.le_of_ble_eq_true rfl⟩ (fun r_1 H locs hr_1 hP hS => ?_)
  subst hr_1
  refine lv_if_eq (tgt := 26) hx hb dX11_say_5 (by decide) (fun c_2 => ?_) (fun c_2 => ?_)
  · skip
    have c_2 : ¬ (1 ≤ p0.toInt64 ∧ p0.toInt64 ≤ 2) := bo_0.mp c_2
    refine lv_bipush (v := (-2)) hx hb dX11_say_26 (by decide) ?_
    exact x_reti S hr hlk hQ hS () rfl x_T dX11_say_28
  · skip
    have c_2 : 1 ≤ p0.toInt64 ∧ p0.toInt64 ≤ 2 := bo_1.mp c_2
    refine lv_aload_n hx hb dX11_say_8 rfl (lv_at hl 0 rfl) ?_
    refine lv_iload_n hx hb dX11_say_9 rfl (lv_at hl 2 rfl) ?_
    refine lv_i2l (v := p1.toInt64) hx hb dX11_say_10 rfl ?_
    refine x_roVi (As := [.long (p1.toInt64)]) S hK hP hS hA hl mwX11_isHead lkX11_237 (ctX11_isHead l D k n (p1.toInt64) ) [0, 1] rfl (hDW.sub [0, 1] (by decide) rfl) rfl rfl rfl rfl rfl ⟨Nat.le_of_ble_eq_true rfl, Nat.le_of_ble_eq_true rfl, Nat.le_of_ble_eq_true rfl⟩ dX11_say_11 ⟨Nat.le_of_ble_eq_true rfl, Nat.le_of_ble_eq_true rfl⟩ (fun r_3 H locs hr_3 hP hS => ?_)
    subst hr_3
    refine lv_if_eq (tgt := 26) hx hb dX11_say_14 (by decide) (fun c_4 => ?_) (fun c_4 => absurd (by decide) c_4)
    refine lv_bipush (v := (-2)) hx hb dX11_say_26 (by decide) ?_
    exact x_reti S hr hlk hQ hS () rfl x_T dX11_say_28

set_option maxHeartbeats 4000000 in
set_option maxRecDepth 100000 in
theorem ctX11_slug (l : Launch) (D : va_G) (k : Nat → ClassId) (n : Nat → Nat) (p0 : Int32) (p1 : Int32)  : RO l yX11_slug cX11_slug 3 (some .int) 2 D k [.ref (n 0), .int p0, .int p1] [((n 0), .inr (11, [.int 0, .ref (n 1), .ref (n 2), .ref (n 3), .ref (n 4), .int 0, .ref (n 5), .int 0, .int 0, .int 0, .int 0, .int 0, .int 0, .int (-1), .ref (n 6), .ref (n 7), .ref (n 8), .ref (n 9), .ref (n 10), .ref (n 11), .ref (n 12), .int 0, .int 0, .int 0, .int 0, .ref (n 13), .ref (n 14), .ref (n 15), .int 0, .int 0, .int 0, .ref (n 16), .ref (n 17), .int 0, .ref (n 18), .long 0, .long 0, .ref (n 19), .int 0, .long 0, .long 0, .long 0, .ref (n 20), .ref (n 21), .ref (n 22), .ref (n 23)])), ((n 1), .inl (k 0, 99, .inl (fun _ => 0)))] (Qi (fun r : Int32 => r = (-2))) := by
  refine RO.of (by decide) (Nat.le_of_ble_eq_true rfl) ?_
  intro p e s m below meth c ls A args Q S hr hlk hQ hK hP hDW hA hS hl
  have hx := S.1
  have hb := S.2.1
  have hl : lv_has ls 3 [(0, .ref (n 0)), (1, .int p0), (2, .int p1)] := hl
  refine lv_aload_n hx hb dX11_slug_0 rfl (lv_at hl 0 rfl) ?_
  refine lv_iload_n hx hb dX11_slug_1 rfl (lv_at hl 1 rfl) ?_
  refine lv_i2l (v := p0.toInt64) hx hb dX11_slug_2 rfl ?_
  refine x_roVi (As := [.long (p0.toInt64)]) S hK hP hS hA hl mwX11_isHead lkX11_237 (ctX11_isHead l D k n (p0.toInt64) ) [0, 1] rfl (hDW.sub [0, 1] (by decide) rfl) rfl rfl rfl rfl rfl ⟨Nat.le_of_ble_eq_true rfl, Nat.le_of_ble_eq_true rfl, Nat.le_of_ble_eq_true rfl⟩ dX11_slug_3 ⟨Nat.le_of_ble_eq_true rfl, Nat.le_of_ble_eq_true rfl⟩ (fun r_1 H locs hr_1 hP hS => ?_)
  subst hr_1
  refine lv_if_eq (tgt := 18) hx hb dX11_slug_6 (by decide) (fun c_2 => ?_) (fun c_2 => absurd (by decide) c_2)
  refine lv_bipush (v := (-2)) hx hb dX11_slug_18 (by decide) ?_
  exact x_reti S hr hlk hQ hS () rfl x_T dX11_slug_20

set_option maxHeartbeats 4000000 in
set_option maxRecDepth 100000 in
theorem ctX11_undo (l : Launch) (D : va_G) (k : Nat → ClassId) (n : Nat → Nat)  : RO l yX11_undo cX11_undo 1 (some .int) 1 D k [.ref (n 0)] [((n 0), .inr (11, [.int 0, .ref (n 1), .ref (n 2), .ref (n 3), .ref (n 4), .int 0, .ref (n 5), .int 0, .int 0, .int 0, .int 0, .int 0, .int 0, .int (-1), .ref (n 6), .ref (n 7), .ref (n 8), .ref (n 9), .ref (n 10), .ref (n 11), .ref (n 12), .int 0, .int 0, .int 0, .int 0, .ref (n 13), .ref (n 14), .ref (n 15), .int 0, .int 0, .int 0, .ref (n 16), .ref (n 17), .int 0, .ref (n 18), .long 0, .long 0, .ref (n 19), .int 0, .long 0, .long 0, .long 0, .ref (n 20), .ref (n 21), .ref (n 22), .ref (n 23)])), ((n 1), .inl (k 0, 99, .inl (fun _ => 0)))] (Qi (fun r : Int32 => r = (-2))) := by
  refine RO.of (by decide) (Nat.le_of_ble_eq_true rfl) ?_
  intro p e s m below meth c ls A args Q S hr hlk hQ hK hP hDW hA hS hl
  have hx := S.1
  have hb := S.2.1
  have hl : lv_has ls 1 [(0, .ref (n 0))] := hl
  refine lv_aload_n hx hb dX11_undo_0 rfl (lv_at hl 0 rfl) ?_
  refine x_roVi (As := []) S hK hP hS hA hl mwX11_isGarden lkX11_99 (ctX11_isGarden l D k n ) [0, 1] rfl (hDW.sub [0, 1] (by decide) rfl) rfl rfl rfl rfl rfl ⟨Nat.le_of_ble_eq_true rfl, Nat.le_of_ble_eq_true rfl, Nat.le_of_ble_eq_true rfl⟩ dX11_undo_1 ⟨Nat.le_of_ble_eq_true rfl, Nat.le_of_ble_eq_true rfl⟩ (fun r_1 H locs hr_1 hP hS => ?_)
  subst hr_1
  refine lv_if_ne (tgt := 10) hx hb dX11_undo_4 (by decide) (fun c_2 => absurd (by decide) c_2) (fun c_2 => ?_)
  refine lv_bipush (v := (-2)) hx hb dX11_undo_7 (by decide) ?_
  exact x_reti S hr hlk hQ hS () rfl x_T dX11_undo_9

set_option maxHeartbeats 4000000 in
set_option maxRecDepth 100000 in
theorem ctX11_anew (l : Launch) (D : va_G) (k : Nat → ClassId) (n : Nat → Nat)  : RO l yX11_anew cX11_anew 2 (some .int) 1 D k [.ref (n 0)] [((n 0), .inr (11, [.int 0, .ref (n 1), .ref (n 2), .ref (n 3), .ref (n 4), .int 0, .ref (n 5), .int 0, .int 0, .int 0, .int 0, .int 0, .int 0, .int (-1), .ref (n 6), .ref (n 7), .ref (n 8), .ref (n 9), .ref (n 10), .ref (n 11), .ref (n 12), .int 0, .int 0, .int 0, .int 0, .ref (n 13), .ref (n 14), .ref (n 15), .int 0, .int 0, .int 0, .ref (n 16), .ref (n 17), .int 0, .ref (n 18), .long 0, .long 0, .ref (n 19), .int 0, .long 0, .long 0, .long 0, .ref (n 20), .ref (n 21), .ref (n 22), .ref (n 23)])), ((n 1), .inl (k 0, 99, .inl (fun _ => 0)))] (Qi (fun r : Int32 => r = (-2))) := by
  refine RO.of (by decide) (Nat.le_of_ble_eq_true rfl) ?_
  intro p e s m below meth c ls A args Q S hr hlk hQ hK hP hDW hA hS hl
  have hx := S.1
  have hb := S.2.1
  have hl : lv_has ls 2 [(0, .ref (n 0))] := hl
  refine lv_aload_n hx hb dX11_anew_0 rfl (lv_at hl 0 rfl) ?_
  refine x_roVi (As := []) S hK hP hS hA hl mwX11_isGarden lkX11_99 (ctX11_isGarden l D k n ) [0, 1] rfl (hDW.sub [0, 1] (by decide) rfl) rfl rfl rfl rfl rfl ⟨Nat.le_of_ble_eq_true rfl, Nat.le_of_ble_eq_true rfl, Nat.le_of_ble_eq_true rfl⟩ dX11_anew_1 ⟨Nat.le_of_ble_eq_true rfl, Nat.le_of_ble_eq_true rfl⟩ (fun r_1 H locs hr_1 hP hS => ?_)
  subst hr_1
  refine lv_if_ne (tgt := 10) hx hb dX11_anew_4 (by decide) (fun c_2 => absurd (by decide) c_2) (fun c_2 => ?_)
  refine lv_bipush (v := (-2)) hx hb dX11_anew_7 (by decide) ?_
  exact x_reti S hr hlk hQ hS () rfl x_T dX11_anew_9

set_option maxHeartbeats 4000000 in
set_option maxRecDepth 100000 in
theorem ctX11_drawn (l : Launch) (D : va_G) (k : Nat → ClassId) (n : Nat → Nat) (p0 : Int32) (p1 : Int32)  : RO l yX11_drawn cX11_drawn 3 (some .int) 1 D k [.ref (n 0), .int p0, .int p1] [((n 0), .inr (11, [.int 0, .ref (n 1), .ref (n 2), .ref (n 3), .ref (n 4), .int 0, .ref (n 5), .int 0, .int 0, .int 0, .int 0, .int 0, .int 0, .int (-1), .ref (n 6), .ref (n 7), .ref (n 8), .ref (n 9), .ref (n 10), .ref (n 11), .ref (n 12), .int 0, .int 0, .int 0, .int 0, .ref (n 13), .ref (n 14), .ref (n 15), .int 0, .int 0, .int 0, .ref (n 16), .ref (n 17), .int 0, .ref (n 18), .long 0, .long 0, .ref (n 19), .int 0, .long 0, .long 0, .long 0, .ref (n 20), .ref (n 21), .ref (n 22), .ref (n 23)])), ((n 1), .inl (k 0, 99, .inl (fun _ => 0)))] (Qi (fun r : Int32 => r = (-2))) := by
  refine RO.of (by decide) (Nat.le_of_ble_eq_true rfl) ?_
  intro p e s m below meth c ls A args Q S hr hlk hQ hK hP hDW hA hS hl
  have hx := S.1
  have hb := S.2.1
  have hl : lv_has ls 3 [(0, .ref (n 0)), (1, .int p0), (2, .int p1)] := hl
  refine lv_aload_n hx hb dX11_drawn_0 rfl (lv_at hl 0 rfl) ?_
  refine x_roVi (As := []) S hK hP hS hA hl mwX11_isGarden lkX11_99 (ctX11_isGarden l D k n ) [0, 1] rfl (hDW.sub [0, 1] (by decide) rfl) rfl rfl rfl rfl rfl ⟨Nat.le_of_ble_eq_true rfl, Nat.le_of_ble_eq_true rfl, Nat.le_of_ble_eq_true rfl⟩ dX11_drawn_1 ⟨Nat.le_of_ble_eq_true rfl, Nat.le_of_ble_eq_true rfl⟩ (fun r_1 H locs hr_1 hP hS => ?_)
  subst hr_1
  refine lv_if_eq (tgt := 26) hx hb dX11_drawn_4 (by decide) (fun c_2 => ?_) (fun c_2 => absurd (by decide) c_2)
  refine lv_bipush (v := (-2)) hx hb dX11_drawn_26 (by decide) ?_
  exact x_reti S hr hlk hQ hS () rfl x_T dX11_drawn_28

set_option maxHeartbeats 4000000 in
set_option maxRecDepth 100000 in
theorem ctX11_luck (l : Launch) (D : va_G) (k : Nat → ClassId) (n : Nat → Nat) (p0 : Int32) (p1 : Int32) (p2 : Int32) (p3 : Int32)  : RO l yX11_luck cX11_luck 7 (some .int) 2 D k [.ref (n 0), .int p0, .int p1, .int p2, .int p3] [((n 0), .inr (11, [.int 0, .ref (n 1), .ref (n 2), .ref (n 3), .ref (n 4), .int 0, .ref (n 5), .int 0, .int 0, .int 0, .int 0, .int 0, .int 0, .int (-1), .ref (n 6), .ref (n 7), .ref (n 8), .ref (n 9), .ref (n 10), .ref (n 11), .ref (n 12), .int 0, .int 0, .int 0, .int 0, .ref (n 13), .ref (n 14), .ref (n 15), .int 0, .int 0, .int 0, .ref (n 16), .ref (n 17), .int 0, .ref (n 18), .long 0, .long 0, .ref (n 19), .int 0, .long 0, .long 0, .long 0, .ref (n 20), .ref (n 21), .ref (n 22), .ref (n 23)])), ((n 1), .inl (k 0, 99, .inl (fun _ => 0)))] (Qi (fun r : Int32 => r = (-2))) := by
  refine RO.of (by decide) (Nat.le_of_ble_eq_true rfl) ?_
  intro p e s m below meth c ls A args Q S hr hlk hQ hK hP hDW hA hS hl
  have hx := S.1
  have hb := S.2.1
  have hl : lv_has ls 7 [(0, .ref (n 0)), (1, .int p0), (2, .int p1), (3, .int p2), (4, .int p3)] := hl
  refine lv_iload_n hx hb dX11_luck_0 rfl (lv_at hl 1 rfl) ?_
  refine x_roSi (As := [.int p0]) S hK hP hS hA hl mwX11_isSeed lkX11_498 (ctX11_isSeed l D k p0 ) [] rfl D_nil rfl rfl ⟨Nat.le_of_ble_eq_true rfl, Nat.le_of_ble_eq_true rfl, Nat.le_of_ble_eq_true rfl⟩ dX11_luck_1 ⟨Nat.le_of_ble_eq_true rfl, Nat.le_of_ble_eq_true rfl⟩ (fun r_1 H locs hr_1 hP hS => ?_)
  subst hr_1
  refine lv_if_eq (tgt := 37) hx hb dX11_luck_4 (by decide) (fun c_2 => ?_) (fun c_2 => ?_)
  · skip
    have c_2 : ¬ (0 ≤ p0.toInt64 ∧ p0.toInt64 ≤ 2000000000) := bo_0.mp c_2
    refine lv_bipush (v := (-2)) hx hb dX11_luck_37 (by decide) ?_
    exact x_reti S hr hlk hQ hS () rfl x_T dX11_luck_39
  · skip
    have c_2 : 0 ≤ p0.toInt64 ∧ p0.toInt64 ≤ 2000000000 := bo_1.mp c_2
    refine lv_iload_n hx hb dX11_luck_7 rfl (lv_at hl 2 rfl) ?_
    refine lv_i2l (v := p1.toInt64) hx hb dX11_luck_8 rfl ?_
    refine lv_lconst (v := 1) hx hb dX11_luck_9 (by decide) ?_
    refine lv_ldc2 hx hb S.2.2.2.1 (S.2.2.2.2 _ lkX11_505) dX11_luck_10 ?_
    refine x_roSi (As := [.long (p1.toInt64), .long 1, .long 20]) S hK hP hS hA hl mwX11_in lkX11_91 (ctX11_in l D k (p1.toInt64) 1 20 ) [] rfl D_nil rfl rfl ⟨Nat.le_of_ble_eq_true rfl, Nat.le_of_ble_eq_true rfl, Nat.le_of_ble_eq_true rfl⟩ dX11_luck_13 ⟨Nat.le_of_ble_eq_true rfl, Nat.le_of_ble_eq_true rfl⟩ (fun r_3 H locs hr_3 hP hS => ?_)
    subst hr_3
    refine lv_if_eq (tgt := 37) hx hb dX11_luck_16 (by decide) (fun c_4 => ?_) (fun c_4 => ?_)
    · skip
      have c_4 : ¬ (1 ≤ p1.toInt64 ∧ p1.toInt64 ≤ 20) := bo_0.mp c_4
      refine lv_bipush (v := (-2)) hx hb dX11_luck_37 (by decide) ?_
      exact x_reti S hr hlk hQ hS () rfl x_T dX11_luck_39
    · skip
      have c_4 : 1 ≤ p1.toInt64 ∧ p1.toInt64 ≤ 20 := bo_1.mp c_4
      refine lv_aload_n hx hb dX11_luck_19 rfl (lv_at hl 0 rfl) ?_
      refine lv_iload_n hx hb dX11_luck_20 rfl (lv_at hl 3 rfl) ?_
      refine lv_i2l (v := p2.toInt64) hx hb dX11_luck_21 rfl ?_
      refine x_roVi (As := [.long (p2.toInt64)]) S hK hP hS hA hl mwX11_isHead lkX11_237 (ctX11_isHead l D k n (p2.toInt64) ) [0, 1] rfl (hDW.sub [0, 1] (by decide) rfl) rfl rfl rfl rfl rfl ⟨Nat.le_of_ble_eq_true rfl, Nat.le_of_ble_eq_true rfl, Nat.le_of_ble_eq_true rfl⟩ dX11_luck_22 ⟨Nat.le_of_ble_eq_true rfl, Nat.le_of_ble_eq_true rfl⟩ (fun r_5 H locs hr_5 hP hS => ?_)
      subst hr_5
      refine lv_if_eq (tgt := 37) hx hb dX11_luck_25 (by decide) (fun c_6 => ?_) (fun c_6 => absurd (by decide) c_6)
      refine lv_bipush (v := (-2)) hx hb dX11_luck_37 (by decide) ?_
      exact x_reti S hr hlk hQ hS () rfl x_T dX11_luck_39

set_option maxHeartbeats 4000000 in
set_option maxRecDepth 100000 in
theorem ctX11_rate (l : Launch) (D : va_G) (k : Nat → ClassId) (n : Nat → Nat) (p0 : Int32) (p1 : Int32)  : RO l yX11_rate cX11_rate 4 (some .int) 2 D k [.ref (n 0), .int p0, .int p1] [((n 0), .inr (11, [.int 0, .ref (n 1), .ref (n 2), .ref (n 3), .ref (n 4), .int 0, .ref (n 5), .int 0, .int 0, .int 0, .int 0, .int 0, .int 0, .int (-1), .ref (n 6), .ref (n 7), .ref (n 8), .ref (n 9), .ref (n 10), .ref (n 11), .ref (n 12), .int 0, .int 0, .int 0, .int 0, .ref (n 13), .ref (n 14), .ref (n 15), .int 0, .int 0, .int 0, .ref (n 16), .ref (n 17), .int 0, .ref (n 18), .long 0, .long 0, .ref (n 19), .int 0, .long 0, .long 0, .long 0, .ref (n 20), .ref (n 21), .ref (n 22), .ref (n 23)])), ((n 1), .inl (k 0, 99, .inl (fun _ => 0)))] (Qi (fun r : Int32 => r = (-2))) := by
  refine RO.of (by decide) (Nat.le_of_ble_eq_true rfl) ?_
  intro p e s m below meth c ls A args Q S hr hlk hQ hK hP hDW hA hS hl
  have hx := S.1
  have hb := S.2.1
  have hl : lv_has ls 4 [(0, .ref (n 0)), (1, .int p0), (2, .int p1)] := hl
  refine lv_aload_n hx hb dX11_rate_0 rfl (lv_at hl 0 rfl) ?_
  refine lv_iload_n hx hb dX11_rate_1 rfl (lv_at hl 1 rfl) ?_
  refine lv_i2l (v := p0.toInt64) hx hb dX11_rate_2 rfl ?_
  refine x_roVi (As := [.long (p0.toInt64)]) S hK hP hS hA hl mwX11_isHead lkX11_237 (ctX11_isHead l D k n (p0.toInt64) ) [0, 1] rfl (hDW.sub [0, 1] (by decide) rfl) rfl rfl rfl rfl rfl ⟨Nat.le_of_ble_eq_true rfl, Nat.le_of_ble_eq_true rfl, Nat.le_of_ble_eq_true rfl⟩ dX11_rate_3 ⟨Nat.le_of_ble_eq_true rfl, Nat.le_of_ble_eq_true rfl⟩ (fun r_1 H locs hr_1 hP hS => ?_)
  subst hr_1
  refine lv_if_eq (tgt := 21) hx hb dX11_rate_6 (by decide) (fun c_2 => ?_) (fun c_2 => absurd (by decide) c_2)
  refine lv_bipush (v := (-2)) hx hb dX11_rate_21 (by decide) ?_
  exact x_reti S hr hlk hQ hS () rfl x_T dX11_rate_23
