theorem dX11_head_0 : decode cX11_head 0 = .ok (.aload_n 0, 1) := by decide +kernel
theorem dX11_head_1 : decode cX11_head 1 = .ok (.iload_n 1, 1) := by decide +kernel
theorem dX11_head_2 : decode cX11_head 2 = .ok (.i2l, 1) := by decide +kernel
theorem dX11_head_3 : decode cX11_head 3 = .ok (.invokevirtual 237, 3) := by decide +kernel
theorem dX11_head_6 : decode cX11_head 6 = .ok (.ifCond .eq 15, 3) := by decide +kernel
theorem dX11_head_9 : decode cX11_head 9 = .ok (.iload_n 2, 1) := by decide +kernel
theorem dX11_head_10 : decode cX11_head 10 = .ok (.i2l, 1) := by decide +kernel
theorem dX11_head_11 : decode cX11_head 11 = .ok (.lconst 0, 1) := by decide +kernel
theorem dX11_head_12 : decode cX11_head 12 = .ok (.ldc2_w 241, 3) := by decide +kernel
theorem dX11_head_15 : decode cX11_head 15 = .ok (.invokestatic 91, 3) := by decide +kernel
theorem dX11_head_18 : decode cX11_head 18 = .ok (.ifCond .ne 6, 3) := by decide +kernel
theorem dX11_head_21 : decode cX11_head 21 = .ok (.bipush (-2), 2) := by decide +kernel
theorem dX11_head_23 : decode cX11_head 23 = .ok (.ireturn, 1) := by decide +kernel
theorem dX11_head_24 : decode cX11_head 24 = .ok (.aload_n 0, 1) := by decide +kernel
theorem dX11_head_25 : decode cX11_head 25 = .ok (.invokevirtual 243, 3) := by decide +kernel
theorem dX11_head_28 : decode cX11_head 28 = .ok (.iload_n 2, 1) := by decide +kernel
theorem dX11_head_29 : decode cX11_head 29 = .ok (.ifCond .ne 11, 3) := by decide +kernel
theorem dX11_head_32 : decode cX11_head 32 = .ok (.aload_n 0, 1) := by decide +kernel
theorem dX11_head_33 : decode cX11_head 33 = .ok (.iload_n 1, 1) := by decide +kernel
theorem dX11_head_34 : decode cX11_head 34 = .ok (.invokevirtual 246, 3) := by decide +kernel
theorem dX11_head_37 : decode cX11_head 37 = .ok (.goto 36, 3) := by decide +kernel
theorem dX11_head_40 : decode cX11_head 40 = .ok (.iload_n 2, 1) := by decide +kernel
theorem dX11_head_41 : decode cX11_head 41 = .ok (.iconst 1, 1) := by decide +kernel
theorem dX11_head_42 : decode cX11_head 42 = .ok (.if_icmp .ne 11, 3) := by decide +kernel
theorem dX11_head_45 : decode cX11_head 45 = .ok (.aload_n 0, 1) := by decide +kernel
theorem dX11_head_46 : decode cX11_head 46 = .ok (.iload_n 1, 1) := by decide +kernel
theorem dX11_head_47 : decode cX11_head 47 = .ok (.invokevirtual 249, 3) := by decide +kernel
theorem dX11_head_50 : decode cX11_head 50 = .ok (.goto 23, 3) := by decide +kernel
theorem dX11_head_53 : decode cX11_head 53 = .ok (.iload_n 2, 1) := by decide +kernel
theorem dX11_head_54 : decode cX11_head 54 = .ok (.iconst 2, 1) := by decide +kernel
theorem dX11_head_55 : decode cX11_head 55 = .ok (.if_icmp .ne 12, 3) := by decide +kernel
theorem dX11_head_58 : decode cX11_head 58 = .ok (.aload_n 0, 1) := by decide +kernel
theorem dX11_head_59 : decode cX11_head 59 = .ok (.getfield 34, 3) := by decide +kernel
theorem dX11_head_62 : decode cX11_head 62 = .ok (.iload_n 1, 1) := by decide +kernel
theorem dX11_head_63 : decode cX11_head 63 = .ok (.iaload, 1) := by decide +kernel
theorem dX11_head_64 : decode cX11_head 64 = .ok (.goto 9, 3) := by decide +kernel
theorem dX11_head_67 : decode cX11_head 67 = .ok (.aload_n 0, 1) := by decide +kernel
theorem dX11_head_68 : decode cX11_head 68 = .ok (.getfield 37, 3) := by decide +kernel
theorem dX11_head_71 : decode cX11_head 71 = .ok (.iload_n 1, 1) := by decide +kernel
theorem dX11_head_72 : decode cX11_head 72 = .ok (.iaload, 1) := by decide +kernel
theorem dX11_head_73 : decode cX11_head 73 = .ok (.ireturn, 1) := by decide +kernel
theorem dX11_near_0 : decode cX11_near 0 = .ok (.aload_n 0, 1) := by decide +kernel
theorem dX11_near_1 : decode cX11_near 1 = .ok (.iload_n 1, 1) := by decide +kernel
theorem dX11_near_2 : decode cX11_near 2 = .ok (.i2l, 1) := by decide +kernel
theorem dX11_near_3 : decode cX11_near 3 = .ok (.invokevirtual 237, 3) := by decide +kernel
theorem dX11_near_6 : decode cX11_near 6 = .ok (.ifCond .ne 6, 3) := by decide +kernel
theorem dX11_near_9 : decode cX11_near 9 = .ok (.bipush (-2), 2) := by decide +kernel
theorem dX11_near_11 : decode cX11_near 11 = .ok (.ireturn, 1) := by decide +kernel
theorem dX11_near_12 : decode cX11_near 12 = .ok (.aload_n 0, 1) := by decide +kernel
theorem dX11_near_13 : decode cX11_near 13 = .ok (.invokevirtual 243, 3) := by decide +kernel
theorem dX11_near_16 : decode cX11_near 16 = .ok (.aload_n 0, 1) := by decide +kernel
theorem dX11_near_17 : decode cX11_near 17 = .ok (.iload_n 1, 1) := by decide +kernel
theorem dX11_near_18 : decode cX11_near 18 = .ok (.invokevirtual 252, 3) := by decide +kernel
theorem dX11_near_21 : decode cX11_near 21 = .ok (.aload_n 0, 1) := by decide +kernel
theorem dX11_near_22 : decode cX11_near 22 = .ok (.iload_n 1, 1) := by decide +kernel
theorem dX11_near_23 : decode cX11_near 23 = .ok (.invokevirtual 255, 3) := by decide +kernel
theorem dX11_near_26 : decode cX11_near 26 = .ok (.ior, 1) := by decide +kernel
theorem dX11_near_27 : decode cX11_near 27 = .ok (.ireturn, 1) := by decide +kernel
theorem dX11_heads_0 : decode cX11_heads 0 = .ok (.aload_n 0, 1) := by decide +kernel
theorem dX11_heads_1 : decode cX11_heads 1 = .ok (.invokevirtual 243, 3) := by decide +kernel
theorem dX11_heads_4 : decode cX11_heads 4 = .ok (.aload_n 0, 1) := by decide +kernel
theorem dX11_heads_5 : decode cX11_heads 5 = .ok (.iload_n 1, 1) := by decide +kernel
theorem dX11_heads_6 : decode cX11_heads 6 = .ok (.invokevirtual 227, 3) := by decide +kernel
theorem dX11_heads_9 : decode cX11_heads 9 = .ok (.ifCond .eq 11, 3) := by decide +kernel
theorem dX11_heads_12 : decode cX11_heads 12 = .ok (.aload_n 0, 1) := by decide +kernel
theorem dX11_heads_13 : decode cX11_heads 13 = .ok (.iload_n 1, 1) := by decide +kernel
theorem dX11_heads_14 : decode cX11_heads 14 = .ok (.invokevirtual 258, 3) := by decide +kernel
theorem dX11_heads_17 : decode cX11_heads 17 = .ok (.goto 5, 3) := by decide +kernel
theorem dX11_heads_20 : decode cX11_heads 20 = .ok (.bipush (-2), 2) := by decide +kernel
theorem dX11_heads_22 : decode cX11_heads 22 = .ok (.ireturn, 1) := by decide +kernel
theorem dX11_view_0 : decode cX11_view 0 = .ok (.aload_n 0, 1) := by decide +kernel
theorem dX11_view_1 : decode cX11_view 1 = .ok (.iload_n 2, 1) := by decide +kernel
theorem dX11_view_2 : decode cX11_view 2 = .ok (.invokevirtual 330, 3) := by decide +kernel
theorem dX11_view_5 : decode cX11_view 5 = .ok (.ifCond .eq 21, 3) := by decide +kernel
theorem dX11_view_8 : decode cX11_view 8 = .ok (.aload_n 0, 1) := by decide +kernel
theorem dX11_view_9 : decode cX11_view 9 = .ok (.iload_n 1, 1) := by decide +kernel
theorem dX11_view_10 : decode cX11_view 10 = .ok (.i2l, 1) := by decide +kernel
theorem dX11_view_11 : decode cX11_view 11 = .ok (.invokevirtual 237, 3) := by decide +kernel
theorem dX11_view_14 : decode cX11_view 14 = .ok (.ifCond .eq 12, 3) := by decide +kernel
theorem dX11_view_17 : decode cX11_view 17 = .ok (.aload_n 0, 1) := by decide +kernel
theorem dX11_view_18 : decode cX11_view 18 = .ok (.iload_n 1, 1) := by decide +kernel
theorem dX11_view_19 : decode cX11_view 19 = .ok (.iload_n 2, 1) := by decide +kernel
theorem dX11_view_20 : decode cX11_view 20 = .ok (.invokevirtual 333, 3) := by decide +kernel
theorem dX11_view_23 : decode cX11_view 23 = .ok (.goto 5, 3) := by decide +kernel
theorem dX11_view_26 : decode cX11_view 26 = .ok (.bipush (-2), 2) := by decide +kernel
theorem dX11_view_28 : decode cX11_view 28 = .ok (.ireturn, 1) := by decide +kernel
theorem dX11_holding_0 : decode cX11_holding 0 = .ok (.aload_n 0, 1) := by decide +kernel
theorem dX11_holding_1 : decode cX11_holding 1 = .ok (.iload_n 2, 1) := by decide +kernel
theorem dX11_holding_2 : decode cX11_holding 2 = .ok (.invokevirtual 330, 3) := by decide +kernel
theorem dX11_holding_5 : decode cX11_holding 5 = .ok (.ifCond .eq 20, 3) := by decide +kernel
theorem dX11_holding_8 : decode cX11_holding 8 = .ok (.iload_n 1, 1) := by decide +kernel
theorem dX11_holding_9 : decode cX11_holding 9 = .ok (.i2l, 1) := by decide +kernel
theorem dX11_holding_10 : decode cX11_holding 10 = .ok (.invokestatic 336, 3) := by decide +kernel
theorem dX11_holding_13 : decode cX11_holding 13 = .ok (.ifCond .eq 12, 3) := by decide +kernel
theorem dX11_holding_16 : decode cX11_holding 16 = .ok (.aload_n 0, 1) := by decide +kernel
theorem dX11_holding_17 : decode cX11_holding 17 = .ok (.iload_n 1, 1) := by decide +kernel
theorem dX11_holding_18 : decode cX11_holding 18 = .ok (.iload_n 2, 1) := by decide +kernel
theorem dX11_holding_19 : decode cX11_holding 19 = .ok (.invokevirtual 327, 3) := by decide +kernel
theorem dX11_holding_22 : decode cX11_holding 22 = .ok (.goto 5, 3) := by decide +kernel
theorem dX11_holding_25 : decode cX11_holding 25 = .ok (.bipush (-2), 2) := by decide +kernel
theorem dX11_holding_27 : decode cX11_holding 27 = .ok (.ireturn, 1) := by decide +kernel
theorem dX11_eaten_0 : decode cX11_eaten 0 = .ok (.aload_n 0, 1) := by decide +kernel
theorem dX11_eaten_1 : decode cX11_eaten 1 = .ok (.iload_n 1, 1) := by decide +kernel
theorem dX11_eaten_2 : decode cX11_eaten 2 = .ok (.invokevirtual 330, 3) := by decide +kernel
theorem dX11_eaten_5 : decode cX11_eaten 5 = .ok (.ifCond .eq 12, 3) := by decide +kernel
theorem dX11_eaten_8 : decode cX11_eaten 8 = .ok (.aload_n 0, 1) := by decide +kernel
theorem dX11_eaten_9 : decode cX11_eaten 9 = .ok (.getfield 58, 3) := by decide +kernel
theorem dX11_eaten_12 : decode cX11_eaten 12 = .ok (.iload_n 1, 1) := by decide +kernel
theorem dX11_eaten_13 : decode cX11_eaten 13 = .ok (.iaload, 1) := by decide +kernel
theorem dX11_eaten_14 : decode cX11_eaten 14 = .ok (.goto 5, 3) := by decide +kernel
theorem dX11_eaten_17 : decode cX11_eaten 17 = .ok (.bipush (-2), 2) := by decide +kernel
theorem dX11_eaten_19 : decode cX11_eaten 19 = .ok (.ireturn, 1) := by decide +kernel
theorem dX11_turned_0 : decode cX11_turned 0 = .ok (.aload_n 0, 1) := by decide +kernel
theorem dX11_turned_1 : decode cX11_turned 1 = .ok (.iload_n 1, 1) := by decide +kernel
theorem dX11_turned_2 : decode cX11_turned 2 = .ok (.invokevirtual 330, 3) := by decide +kernel
theorem dX11_turned_5 : decode cX11_turned 5 = .ok (.ifCond .eq 11, 3) := by decide +kernel
theorem dX11_turned_8 : decode cX11_turned 8 = .ok (.aload_n 0, 1) := by decide +kernel
theorem dX11_turned_9 : decode cX11_turned 9 = .ok (.iload_n 1, 1) := by decide +kernel
theorem dX11_turned_10 : decode cX11_turned 10 = .ok (.invokevirtual 339, 3) := by decide +kernel
theorem dX11_turned_13 : decode cX11_turned 13 = .ok (.goto 5, 3) := by decide +kernel
theorem dX11_turned_16 : decode cX11_turned 16 = .ok (.bipush (-2), 2) := by decide +kernel
theorem dX11_turned_18 : decode cX11_turned 18 = .ok (.ireturn, 1) := by decide +kernel
theorem dX11_sways_0 : decode cX11_sways 0 = .ok (.aload_n 0, 1) := by decide +kernel
theorem dX11_sways_1 : decode cX11_sways 1 = .ok (.iload_n 1, 1) := by decide +kernel
theorem dX11_sways_2 : decode cX11_sways 2 = .ok (.invokevirtual 342, 3) := by decide +kernel
theorem dX11_sways_5 : decode cX11_sways 5 = .ok (.ifCond .eq 11, 3) := by decide +kernel
theorem dX11_sways_8 : decode cX11_sways 8 = .ok (.aload_n 0, 1) := by decide +kernel
theorem dX11_sways_9 : decode cX11_sways 9 = .ok (.iload_n 1, 1) := by decide +kernel
theorem dX11_sways_10 : decode cX11_sways 10 = .ok (.invokevirtual 345, 3) := by decide +kernel
theorem dX11_sways_13 : decode cX11_sways 13 = .ok (.goto 5, 3) := by decide +kernel
theorem dX11_sways_16 : decode cX11_sways 16 = .ok (.bipush (-2), 2) := by decide +kernel
theorem dX11_sways_18 : decode cX11_sways 18 = .ok (.ireturn, 1) := by decide +kernel
theorem dX11_when_0 : decode cX11_when 0 = .ok (.aload_n 0, 1) := by decide +kernel
theorem dX11_when_1 : decode cX11_when 1 = .ok (.iload_n 1, 1) := by decide +kernel
theorem dX11_when_2 : decode cX11_when 2 = .ok (.invokevirtual 342, 3) := by decide +kernel
theorem dX11_when_5 : decode cX11_when 5 = .ok (.ifCond .eq 11, 3) := by decide +kernel
theorem dX11_when_8 : decode cX11_when 8 = .ok (.iload_n 2, 1) := by decide +kernel
theorem dX11_when_9 : decode cX11_when 9 = .ok (.i2l, 1) := by decide +kernel
theorem dX11_when_10 : decode cX11_when 10 = .ok (.invokestatic 348, 3) := by decide +kernel
theorem dX11_when_13 : decode cX11_when 13 = .ok (.ifCond .ne 6, 3) := by decide +kernel
theorem dX11_when_16 : decode cX11_when 16 = .ok (.bipush (-2), 2) := by decide +kernel
theorem dX11_when_18 : decode cX11_when 18 = .ok (.ireturn, 1) := by decide +kernel
theorem dX11_when_19 : decode cX11_when 19 = .ok (.iconst 0, 1) := by decide +kernel
theorem dX11_when_20 : decode cX11_when 20 = .ok (.istore_n 3, 1) := by decide +kernel
theorem dX11_when_21 : decode cX11_when 21 = .ok (.iload_n 3, 1) := by decide +kernel
theorem dX11_when_22 : decode cX11_when 22 = .ok (.aload_n 0, 1) := by decide +kernel
theorem dX11_when_23 : decode cX11_when 23 = .ok (.invokevirtual 103, 3) := by decide +kernel
theorem dX11_when_26 : decode cX11_when 26 = .ok (.if_icmp .gt 21, 3) := by decide +kernel
theorem dX11_when_29 : decode cX11_when 29 = .ok (.aload_n 0, 1) := by decide +kernel
theorem dX11_when_30 : decode cX11_when 30 = .ok (.iload_n 1, 1) := by decide +kernel
theorem dX11_when_31 : decode cX11_when 31 = .ok (.iload_n 3, 1) := by decide +kernel
theorem dX11_when_32 : decode cX11_when 32 = .ok (.invokevirtual 333, 3) := by decide +kernel
theorem dX11_when_35 : decode cX11_when 35 = .ok (.iload_n 2, 1) := by decide +kernel
theorem dX11_when_36 : decode cX11_when 36 = .ok (.if_icmp .ne 5, 3) := by decide +kernel
theorem dX11_when_39 : decode cX11_when 39 = .ok (.iload_n 3, 1) := by decide +kernel
theorem dX11_when_40 : decode cX11_when 40 = .ok (.ireturn, 1) := by decide +kernel
theorem dX11_when_41 : decode cX11_when 41 = .ok (.iinc 3 1, 3) := by decide +kernel
theorem dX11_when_44 : decode cX11_when 44 = .ok (.goto (-23), 3) := by decide +kernel
theorem dX11_when_47 : decode cX11_when 47 = .ok (.iconst (-1), 1) := by decide +kernel
theorem dX11_when_48 : decode cX11_when 48 = .ok (.ireturn, 1) := by decide +kernel
theorem dX11_often_0 : decode cX11_often 0 = .ok (.aload_n 0, 1) := by decide +kernel
theorem dX11_often_1 : decode cX11_often 1 = .ok (.iload_n 1, 1) := by decide +kernel
theorem dX11_often_2 : decode cX11_often 2 = .ok (.invokevirtual 342, 3) := by decide +kernel
theorem dX11_often_5 : decode cX11_often 5 = .ok (.ifCond .eq 11, 3) := by decide +kernel
theorem dX11_often_8 : decode cX11_often 8 = .ok (.iload_n 2, 1) := by decide +kernel
theorem dX11_often_9 : decode cX11_often 9 = .ok (.i2l, 1) := by decide +kernel
theorem dX11_often_10 : decode cX11_often 10 = .ok (.invokestatic 348, 3) := by decide +kernel
theorem dX11_often_13 : decode cX11_often 13 = .ok (.ifCond .ne 6, 3) := by decide +kernel
theorem dX11_often_16 : decode cX11_often 16 = .ok (.bipush (-2), 2) := by decide +kernel
theorem dX11_often_18 : decode cX11_often 18 = .ok (.ireturn, 1) := by decide +kernel
theorem dX11_often_19 : decode cX11_often 19 = .ok (.iconst 0, 1) := by decide +kernel
theorem dX11_often_20 : decode cX11_often 20 = .ok (.istore_n 3, 1) := by decide +kernel
theorem dX11_often_21 : decode cX11_often 21 = .ok (.iconst 0, 1) := by decide +kernel
theorem dX11_often_22 : decode cX11_often 22 = .ok (.istore 4, 2) := by decide +kernel
theorem dX11_often_24 : decode cX11_often 24 = .ok (.iload 4, 2) := by decide +kernel
theorem dX11_often_26 : decode cX11_often 26 = .ok (.aload_n 0, 1) := by decide +kernel
theorem dX11_often_27 : decode cX11_often 27 = .ok (.invokevirtual 103, 3) := by decide +kernel
theorem dX11_often_30 : decode cX11_often 30 = .ok (.if_icmp .gt 28, 3) := by decide +kernel
theorem dX11_often_33 : decode cX11_often 33 = .ok (.iload_n 3, 1) := by decide +kernel
theorem dX11_often_34 : decode cX11_often 34 = .ok (.aload_n 0, 1) := by decide +kernel
theorem dX11_often_35 : decode cX11_often 35 = .ok (.iload_n 1, 1) := by decide +kernel
theorem dX11_often_36 : decode cX11_often 36 = .ok (.iload 4, 2) := by decide +kernel
theorem dX11_often_38 : decode cX11_often 38 = .ok (.invokevirtual 333, 3) := by decide +kernel
theorem dX11_often_41 : decode cX11_often 41 = .ok (.iload_n 2, 1) := by decide +kernel
theorem dX11_often_42 : decode cX11_often 42 = .ok (.if_icmp .ne 7, 3) := by decide +kernel
theorem dX11_often_45 : decode cX11_often 45 = .ok (.iconst 1, 1) := by decide +kernel
theorem dX11_often_46 : decode cX11_often 46 = .ok (.goto 4, 3) := by decide +kernel
theorem dX11_often_49 : decode cX11_often 49 = .ok (.iconst 0, 1) := by decide +kernel
theorem dX11_often_50 : decode cX11_often 50 = .ok (.iadd, 1) := by decide +kernel
theorem dX11_often_51 : decode cX11_often 51 = .ok (.istore_n 3, 1) := by decide +kernel
theorem dX11_often_52 : decode cX11_often 52 = .ok (.iinc 4 1, 3) := by decide +kernel
theorem dX11_often_55 : decode cX11_often 55 = .ok (.goto (-31), 3) := by decide +kernel
theorem dX11_often_58 : decode cX11_often 58 = .ok (.iload_n 3, 1) := by decide +kernel
theorem dX11_often_59 : decode cX11_often 59 = .ok (.ireturn, 1) := by decide +kernel
theorem dX11_heart_0 : decode cX11_heart 0 = .ok (.aload_n 0, 1) := by decide +kernel
theorem dX11_heart_1 : decode cX11_heart 1 = .ok (.iload_n 1, 1) := by decide +kernel
theorem dX11_heart_2 : decode cX11_heart 2 = .ok (.invokevirtual 342, 3) := by decide +kernel
theorem dX11_heart_5 : decode cX11_heart 5 = .ok (.ifCond .ne 6, 3) := by decide +kernel
theorem dX11_heart_8 : decode cX11_heart 8 = .ok (.bipush (-2), 2) := by decide +kernel
theorem dX11_heart_10 : decode cX11_heart 10 = .ok (.ireturn, 1) := by decide +kernel
theorem dX11_heart_11 : decode cX11_heart 11 = .ok (.iconst 0, 1) := by decide +kernel
theorem dX11_heart_12 : decode cX11_heart 12 = .ok (.istore_n 2, 1) := by decide +kernel
theorem dX11_heart_13 : decode cX11_heart 13 = .ok (.iload_n 2, 1) := by decide +kernel
theorem dX11_heart_14 : decode cX11_heart 14 = .ok (.aload_n 0, 1) := by decide +kernel
theorem dX11_heart_15 : decode cX11_heart 15 = .ok (.invokevirtual 103, 3) := by decide +kernel
theorem dX11_heart_18 : decode cX11_heart 18 = .ok (.if_icmp .gt 25, 3) := by decide +kernel
theorem dX11_heart_21 : decode cX11_heart 21 = .ok (.aload_n 0, 1) := by decide +kernel
theorem dX11_heart_22 : decode cX11_heart 22 = .ok (.iload_n 1, 1) := by decide +kernel
theorem dX11_heart_23 : decode cX11_heart 23 = .ok (.iload_n 2, 1) := by decide +kernel
theorem dX11_heart_24 : decode cX11_heart 24 = .ok (.invokevirtual 333, 3) := by decide +kernel
theorem dX11_heart_27 : decode cX11_heart 27 = .ok (.ifCond .le 10, 3) := by decide +kernel
theorem dX11_heart_30 : decode cX11_heart 30 = .ok (.aload_n 0, 1) := by decide +kernel
theorem dX11_heart_31 : decode cX11_heart 31 = .ok (.iload_n 1, 1) := by decide +kernel
theorem dX11_heart_32 : decode cX11_heart 32 = .ok (.iload_n 2, 1) := by decide +kernel
theorem dX11_heart_33 : decode cX11_heart 33 = .ok (.invokevirtual 333, 3) := by decide +kernel
theorem dX11_heart_36 : decode cX11_heart 36 = .ok (.ireturn, 1) := by decide +kernel
theorem dX11_heart_37 : decode cX11_heart 37 = .ok (.iinc 2 1, 3) := by decide +kernel
theorem dX11_heart_40 : decode cX11_heart 40 = .ok (.goto (-27), 3) := by decide +kernel
theorem dX11_heart_43 : decode cX11_heart 43 = .ok (.iconst 0, 1) := by decide +kernel
theorem dX11_heart_44 : decode cX11_heart 44 = .ok (.ireturn, 1) := by decide +kernel
theorem dX11_fickle_0 : decode cX11_fickle 0 = .ok (.aload_n 0, 1) := by decide +kernel
theorem dX11_fickle_1 : decode cX11_fickle 1 = .ok (.invokevirtual 315, 3) := by decide +kernel
theorem dX11_fickle_4 : decode cX11_fickle 4 = .ok (.ifCond .ne 6, 3) := by decide +kernel
theorem dX11_fickle_7 : decode cX11_fickle 7 = .ok (.bipush (-2), 2) := by decide +kernel
theorem dX11_fickle_9 : decode cX11_fickle 9 = .ok (.ireturn, 1) := by decide +kernel
theorem dX11_fickle_10 : decode cX11_fickle 10 = .ok (.iconst (-1), 1) := by decide +kernel
theorem dX11_fickle_11 : decode cX11_fickle 11 = .ok (.istore_n 1, 1) := by decide +kernel
theorem dX11_fickle_12 : decode cX11_fickle 12 = .ok (.iconst 0, 1) := by decide +kernel
theorem dX11_fickle_13 : decode cX11_fickle 13 = .ok (.istore_n 2, 1) := by decide +kernel
theorem dX11_fickle_14 : decode cX11_fickle 14 = .ok (.iload_n 2, 1) := by decide +kernel
theorem dX11_fickle_15 : decode cX11_fickle 15 = .ok (.aload_n 0, 1) := by decide +kernel
theorem dX11_fickle_16 : decode cX11_fickle 16 = .ok (.invokevirtual 95, 3) := by decide +kernel
theorem dX11_fickle_19 : decode cX11_fickle 19 = .ok (.if_icmp .ge 33, 3) := by decide +kernel
theorem dX11_fickle_22 : decode cX11_fickle 22 = .ok (.aload_n 0, 1) := by decide +kernel
theorem dX11_fickle_23 : decode cX11_fickle 23 = .ok (.iload_n 2, 1) := by decide +kernel
theorem dX11_fickle_24 : decode cX11_fickle 24 = .ok (.invokevirtual 345, 3) := by decide +kernel
theorem dX11_fickle_27 : decode cX11_fickle 27 = .ok (.iload_n 1, 1) := by decide +kernel
theorem dX11_fickle_28 : decode cX11_fickle 28 = .ok (.iconst (-1), 1) := by decide +kernel
theorem dX11_fickle_29 : decode cX11_fickle 29 = .ok (.if_icmp .ne 7, 3) := by decide +kernel
theorem dX11_fickle_32 : decode cX11_fickle 32 = .ok (.iconst 0, 1) := by decide +kernel
theorem dX11_fickle_33 : decode cX11_fickle 33 = .ok (.goto 8, 3) := by decide +kernel
theorem dX11_fickle_36 : decode cX11_fickle 36 = .ok (.aload_n 0, 1) := by decide +kernel
theorem dX11_fickle_37 : decode cX11_fickle 37 = .ok (.iload_n 1, 1) := by decide +kernel
theorem dX11_fickle_38 : decode cX11_fickle 38 = .ok (.invokevirtual 345, 3) := by decide +kernel
theorem dX11_fickle_41 : decode cX11_fickle 41 = .ok (.if_icmp .le 5, 3) := by decide +kernel
theorem dX11_fickle_44 : decode cX11_fickle 44 = .ok (.iload_n 2, 1) := by decide +kernel
theorem dX11_fickle_45 : decode cX11_fickle 45 = .ok (.istore_n 1, 1) := by decide +kernel
theorem dX11_fickle_46 : decode cX11_fickle 46 = .ok (.iinc 2 1, 3) := by decide +kernel
theorem dX11_fickle_49 : decode cX11_fickle 49 = .ok (.goto (-35), 3) := by decide +kernel
theorem dX11_fickle_52 : decode cX11_fickle 52 = .ok (.iload_n 1, 1) := by decide +kernel
theorem dX11_fickle_53 : decode cX11_fickle 53 = .ok (.ireturn, 1) := by decide +kernel
theorem dX11_agree_0 : decode cX11_agree 0 = .ok (.aload_n 0, 1) := by decide +kernel
theorem dX11_agree_1 : decode cX11_agree 1 = .ok (.invokevirtual 315, 3) := by decide +kernel
theorem dX11_agree_4 : decode cX11_agree 4 = .ok (.ifCond .ne 6, 3) := by decide +kernel
theorem dX11_agree_7 : decode cX11_agree 7 = .ok (.bipush (-2), 2) := by decide +kernel
theorem dX11_agree_9 : decode cX11_agree 9 = .ok (.ireturn, 1) := by decide +kernel
theorem dX11_agree_10 : decode cX11_agree 10 = .ok (.iconst 0, 1) := by decide +kernel
theorem dX11_agree_11 : decode cX11_agree 11 = .ok (.istore_n 1, 1) := by decide +kernel
theorem dX11_agree_12 : decode cX11_agree 12 = .ok (.iload_n 1, 1) := by decide +kernel
theorem dX11_agree_13 : decode cX11_agree 13 = .ok (.aload_n 0, 1) := by decide +kernel
theorem dX11_agree_14 : decode cX11_agree 14 = .ok (.invokevirtual 103, 3) := by decide +kernel
theorem dX11_agree_17 : decode cX11_agree 17 = .ok (.if_icmp .gt 45, 3) := by decide +kernel
theorem dX11_agree_20 : decode cX11_agree 20 = .ok (.aload_n 0, 1) := by decide +kernel
theorem dX11_agree_21 : decode cX11_agree 21 = .ok (.iload_n 1, 1) := by decide +kernel
theorem dX11_agree_22 : decode cX11_agree 22 = .ok (.invokevirtual 324, 3) := by decide +kernel
theorem dX11_agree_25 : decode cX11_agree 25 = .ok (.aload_n 0, 1) := by decide +kernel
theorem dX11_agree_26 : decode cX11_agree 26 = .ok (.getfield 52, 3) := by decide +kernel
theorem dX11_agree_29 : decode cX11_agree 29 = .ok (.iload_n 1, 1) := by decide +kernel
theorem dX11_agree_30 : decode cX11_agree 30 = .ok (.iaload, 1) := by decide +kernel
theorem dX11_agree_31 : decode cX11_agree 31 = .ok (.invokestatic 351, 3) := by decide +kernel
theorem dX11_agree_34 : decode cX11_agree 34 = .ok (.ifCond .ne 20, 3) := by decide +kernel
theorem dX11_agree_37 : decode cX11_agree 37 = .ok (.aload_n 0, 1) := by decide +kernel
theorem dX11_agree_38 : decode cX11_agree 38 = .ok (.iload_n 1, 1) := by decide +kernel
theorem dX11_agree_39 : decode cX11_agree 39 = .ok (.invokevirtual 324, 3) := by decide +kernel
theorem dX11_agree_42 : decode cX11_agree 42 = .ok (.aload_n 0, 1) := by decide +kernel
theorem dX11_agree_43 : decode cX11_agree 43 = .ok (.getfield 55, 3) := by decide +kernel
theorem dX11_agree_46 : decode cX11_agree 46 = .ok (.iload_n 1, 1) := by decide +kernel
theorem dX11_agree_47 : decode cX11_agree 47 = .ok (.iaload, 1) := by decide +kernel
theorem dX11_agree_48 : decode cX11_agree 48 = .ok (.invokestatic 351, 3) := by decide +kernel
theorem dX11_agree_51 : decode cX11_agree 51 = .ok (.ifCond .eq 5, 3) := by decide +kernel
theorem dX11_agree_54 : decode cX11_agree 54 = .ok (.iload_n 1, 1) := by decide +kernel
theorem dX11_agree_55 : decode cX11_agree 55 = .ok (.ireturn, 1) := by decide +kernel
theorem dX11_agree_56 : decode cX11_agree 56 = .ok (.iinc 1 1, 3) := by decide +kernel
theorem dX11_agree_59 : decode cX11_agree 59 = .ok (.goto (-47), 3) := by decide +kernel
theorem dX11_agree_62 : decode cX11_agree 62 = .ok (.iconst (-1), 1) := by decide +kernel
theorem dX11_agree_63 : decode cX11_agree 63 = .ok (.ireturn, 1) := by decide +kernel
theorem dX11_still_0 : decode cX11_still 0 = .ok (.aload_n 0, 1) := by decide +kernel
theorem dX11_still_1 : decode cX11_still 1 = .ok (.invokevirtual 315, 3) := by decide +kernel
theorem dX11_still_4 : decode cX11_still 4 = .ok (.ifCond .ne 6, 3) := by decide +kernel
theorem dX11_still_7 : decode cX11_still 7 = .ok (.bipush (-2), 2) := by decide +kernel
theorem dX11_still_9 : decode cX11_still 9 = .ok (.ireturn, 1) := by decide +kernel
theorem dX11_still_10 : decode cX11_still 10 = .ok (.aload_n 0, 1) := by decide +kernel
theorem dX11_still_11 : decode cX11_still 11 = .ok (.invokevirtual 103, 3) := by decide +kernel
theorem dX11_still_14 : decode cX11_still 14 = .ok (.istore_n 1, 1) := by decide +kernel
theorem dX11_still_15 : decode cX11_still 15 = .ok (.iload_n 1, 1) := by decide +kernel
theorem dX11_still_16 : decode cX11_still 16 = .ok (.ifCond .le 17, 3) := by decide +kernel
theorem dX11_still_19 : decode cX11_still 19 = .ok (.aload_n 0, 1) := by decide +kernel
theorem dX11_still_20 : decode cX11_still 20 = .ok (.iload_n 1, 1) := by decide +kernel
theorem dX11_still_21 : decode cX11_still 21 = .ok (.invokevirtual 339, 3) := by decide +kernel
theorem dX11_still_24 : decode cX11_still 24 = .ok (.ifCond .ne 9, 3) := by decide +kernel
theorem dX11_still_27 : decode cX11_still 27 = .ok (.iinc 1 (-1), 3) := by decide +kernel
theorem dX11_still_30 : decode cX11_still 30 = .ok (.goto (-15), 3) := by decide +kernel
theorem dX11_still_33 : decode cX11_still 33 = .ok (.iload_n 1, 1) := by decide +kernel
theorem dX11_still_34 : decode cX11_still 34 = .ok (.ireturn, 1) := by decide +kernel
theorem dX11_quiet_0 : decode cX11_quiet 0 = .ok (.aload_n 0, 1) := by decide +kernel
theorem dX11_quiet_1 : decode cX11_quiet 1 = .ok (.invokevirtual 315, 3) := by decide +kernel
theorem dX11_quiet_4 : decode cX11_quiet 4 = .ok (.ifCond .ne 6, 3) := by decide +kernel
theorem dX11_quiet_7 : decode cX11_quiet 7 = .ok (.bipush (-2), 2) := by decide +kernel
theorem dX11_quiet_9 : decode cX11_quiet 9 = .ok (.ireturn, 1) := by decide +kernel
theorem dX11_quiet_10 : decode cX11_quiet 10 = .ok (.iconst 0, 1) := by decide +kernel
theorem dX11_quiet_11 : decode cX11_quiet 11 = .ok (.istore_n 1, 1) := by decide +kernel
theorem dX11_quiet_12 : decode cX11_quiet 12 = .ok (.iconst 0, 1) := by decide +kernel
theorem dX11_quiet_13 : decode cX11_quiet 13 = .ok (.istore_n 2, 1) := by decide +kernel
theorem dX11_quiet_14 : decode cX11_quiet 14 = .ok (.iconst 1, 1) := by decide +kernel
theorem dX11_quiet_15 : decode cX11_quiet 15 = .ok (.istore_n 3, 1) := by decide +kernel
theorem dX11_quiet_16 : decode cX11_quiet 16 = .ok (.iload_n 3, 1) := by decide +kernel
theorem dX11_quiet_17 : decode cX11_quiet 17 = .ok (.aload_n 0, 1) := by decide +kernel
theorem dX11_quiet_18 : decode cX11_quiet 18 = .ok (.invokevirtual 103, 3) := by decide +kernel
theorem dX11_quiet_21 : decode cX11_quiet 21 = .ok (.if_icmp .gt 31, 3) := by decide +kernel
theorem dX11_quiet_24 : decode cX11_quiet 24 = .ok (.aload_n 0, 1) := by decide +kernel
theorem dX11_quiet_25 : decode cX11_quiet 25 = .ok (.iload_n 3, 1) := by decide +kernel
theorem dX11_quiet_26 : decode cX11_quiet 26 = .ok (.invokevirtual 339, 3) := by decide +kernel
theorem dX11_quiet_29 : decode cX11_quiet 29 = .ok (.ifCond .ne 9, 3) := by decide +kernel
theorem dX11_quiet_32 : decode cX11_quiet 32 = .ok (.iload_n 2, 1) := by decide +kernel
theorem dX11_quiet_33 : decode cX11_quiet 33 = .ok (.iconst 1, 1) := by decide +kernel
theorem dX11_quiet_34 : decode cX11_quiet 34 = .ok (.iadd, 1) := by decide +kernel
theorem dX11_quiet_35 : decode cX11_quiet 35 = .ok (.goto 4, 3) := by decide +kernel
theorem dX11_quiet_38 : decode cX11_quiet 38 = .ok (.iconst 0, 1) := by decide +kernel
theorem dX11_quiet_39 : decode cX11_quiet 39 = .ok (.istore_n 2, 1) := by decide +kernel
theorem dX11_quiet_40 : decode cX11_quiet 40 = .ok (.iload_n 1, 1) := by decide +kernel
theorem dX11_quiet_41 : decode cX11_quiet 41 = .ok (.iload_n 2, 1) := by decide +kernel
theorem dX11_quiet_42 : decode cX11_quiet 42 = .ok (.invokestatic 355, 3) := by decide +kernel
theorem dX11_quiet_45 : decode cX11_quiet 45 = .ok (.istore_n 1, 1) := by decide +kernel
theorem dX11_quiet_46 : decode cX11_quiet 46 = .ok (.iinc 3 1, 3) := by decide +kernel
theorem dX11_quiet_49 : decode cX11_quiet 49 = .ok (.goto (-33), 3) := by decide +kernel
theorem dX11_quiet_52 : decode cX11_quiet 52 = .ok (.iload_n 1, 1) := by decide +kernel
theorem dX11_quiet_53 : decode cX11_quiet 53 = .ok (.ireturn, 1) := by decide +kernel
theorem dX11_settlesOf_0 : decode cX11_settlesOf 0 = .ok (.aload_n 0, 1) := by decide +kernel
theorem dX11_settlesOf_1 : decode cX11_settlesOf 1 = .ok (.iconst 1, 1) := by decide +kernel
theorem dX11_settlesOf_2 : decode cX11_settlesOf 2 = .ok (.putfield 270, 3) := by decide +kernel
theorem dX11_settlesOf_5 : decode cX11_settlesOf 5 = .ok (.aload_n 0, 1) := by decide +kernel
theorem dX11_settlesOf_6 : decode cX11_settlesOf 6 = .ok (.aload_n 0, 1) := by decide +kernel
theorem dX11_settlesOf_7 : decode cX11_settlesOf 7 = .ok (.getfield 52, 3) := by decide +kernel
theorem dX11_settlesOf_10 : decode cX11_settlesOf 10 = .ok (.aload_n 0, 1) := by decide +kernel
theorem dX11_settlesOf_11 : decode cX11_settlesOf 11 = .ok (.invokevirtual 103, 3) := by decide +kernel
theorem dX11_settlesOf_14 : decode cX11_settlesOf 14 = .ok (.iaload, 1) := by decide +kernel
theorem dX11_settlesOf_15 : decode cX11_settlesOf 15 = .ok (.putfield 284, 3) := by decide +kernel
theorem dX11_settlesOf_18 : decode cX11_settlesOf 18 = .ok (.aload_n 0, 1) := by decide +kernel
theorem dX11_settlesOf_19 : decode cX11_settlesOf 19 = .ok (.aload_n 0, 1) := by decide +kernel
theorem dX11_settlesOf_20 : decode cX11_settlesOf 20 = .ok (.getfield 55, 3) := by decide +kernel
theorem dX11_settlesOf_23 : decode cX11_settlesOf 23 = .ok (.aload_n 0, 1) := by decide +kernel
theorem dX11_settlesOf_24 : decode cX11_settlesOf 24 = .ok (.invokevirtual 103, 3) := by decide +kernel
theorem dX11_settlesOf_27 : decode cX11_settlesOf 27 = .ok (.iaload, 1) := by decide +kernel
theorem dX11_settlesOf_28 : decode cX11_settlesOf 28 = .ok (.putfield 287, 3) := by decide +kernel
theorem dX11_settlesOf_31 : decode cX11_settlesOf 31 = .ok (.aload_n 0, 1) := by decide +kernel
theorem dX11_settlesOf_32 : decode cX11_settlesOf 32 = .ok (.aload_n 0, 1) := by decide +kernel
theorem dX11_settlesOf_33 : decode cX11_settlesOf 33 = .ok (.getfield 58, 3) := by decide +kernel
theorem dX11_settlesOf_36 : decode cX11_settlesOf 36 = .ok (.aload_n 0, 1) := by decide +kernel
theorem dX11_settlesOf_37 : decode cX11_settlesOf 37 = .ok (.invokevirtual 103, 3) := by decide +kernel
theorem dX11_settlesOf_40 : decode cX11_settlesOf 40 = .ok (.iaload, 1) := by decide +kernel
theorem dX11_settlesOf_41 : decode cX11_settlesOf 41 = .ok (.putfield 281, 3) := by decide +kernel
theorem dX11_settlesOf_44 : decode cX11_settlesOf 44 = .ok (.iconst 0, 1) := by decide +kernel
theorem dX11_settlesOf_45 : decode cX11_settlesOf 45 = .ok (.istore_n 1, 1) := by decide +kernel
theorem dX11_settlesOf_46 : decode cX11_settlesOf 46 = .ok (.iload_n 1, 1) := by decide +kernel
theorem dX11_settlesOf_47 : decode cX11_settlesOf 47 = .ok (.sipush 4000, 3) := by decide +kernel
theorem dX11_settlesOf_50 : decode cX11_settlesOf 50 = .ok (.if_icmp .ge 85, 3) := by decide +kernel
theorem dX11_settlesOf_53 : decode cX11_settlesOf 53 = .ok (.iconst 0, 1) := by decide +kernel
theorem dX11_settlesOf_54 : decode cX11_settlesOf 54 = .ok (.istore_n 2, 1) := by decide +kernel
theorem dX11_settlesOf_55 : decode cX11_settlesOf 55 = .ok (.iload_n 2, 1) := by decide +kernel
theorem dX11_settlesOf_56 : decode cX11_settlesOf 56 = .ok (.iload_n 1, 1) := by decide +kernel
theorem dX11_settlesOf_57 : decode cX11_settlesOf 57 = .ok (.if_icmp .ge 47, 3) := by decide +kernel
theorem dX11_settlesOf_60 : decode cX11_settlesOf 60 = .ok (.aload_n 0, 1) := by decide +kernel
theorem dX11_settlesOf_61 : decode cX11_settlesOf 61 = .ok (.getfield 61, 3) := by decide +kernel
theorem dX11_settlesOf_64 : decode cX11_settlesOf 64 = .ok (.iload_n 2, 1) := by decide +kernel
theorem dX11_settlesOf_65 : decode cX11_settlesOf 65 = .ok (.iaload, 1) := by decide +kernel
theorem dX11_settlesOf_66 : decode cX11_settlesOf 66 = .ok (.aload_n 0, 1) := by decide +kernel
theorem dX11_settlesOf_67 : decode cX11_settlesOf 67 = .ok (.getfield 284, 3) := by decide +kernel
theorem dX11_settlesOf_70 : decode cX11_settlesOf 70 = .ok (.if_icmp .ne 28, 3) := by decide +kernel
theorem dX11_settlesOf_73 : decode cX11_settlesOf 73 = .ok (.aload_n 0, 1) := by decide +kernel
theorem dX11_settlesOf_74 : decode cX11_settlesOf 74 = .ok (.getfield 64, 3) := by decide +kernel
theorem dX11_settlesOf_77 : decode cX11_settlesOf 77 = .ok (.iload_n 2, 1) := by decide +kernel
theorem dX11_settlesOf_78 : decode cX11_settlesOf 78 = .ok (.iaload, 1) := by decide +kernel
theorem dX11_settlesOf_79 : decode cX11_settlesOf 79 = .ok (.aload_n 0, 1) := by decide +kernel
theorem dX11_settlesOf_80 : decode cX11_settlesOf 80 = .ok (.getfield 287, 3) := by decide +kernel
theorem dX11_settlesOf_83 : decode cX11_settlesOf 83 = .ok (.if_icmp .eq 6, 3) := by decide +kernel
theorem dX11_settlesOf_86 : decode cX11_settlesOf 86 = .ok (.goto 12, 3) := by decide +kernel
theorem dX11_settlesOf_89 : decode cX11_settlesOf 89 = .ok (.aload_n 0, 1) := by decide +kernel
theorem dX11_settlesOf_90 : decode cX11_settlesOf 90 = .ok (.iload_n 1, 1) := by decide +kernel
theorem dX11_settlesOf_91 : decode cX11_settlesOf 91 = .ok (.iload_n 2, 1) := by decide +kernel
theorem dX11_settlesOf_92 : decode cX11_settlesOf 92 = .ok (.isub, 1) := by decide +kernel
theorem dX11_settlesOf_93 : decode cX11_settlesOf 93 = .ok (.putfield 358, 3) := by decide +kernel
theorem dX11_settlesOf_96 : decode cX11_settlesOf 96 = .ok (.iload_n 1, 1) := by decide +kernel
theorem dX11_settlesOf_97 : decode cX11_settlesOf 97 = .ok (.ireturn, 1) := by decide +kernel
theorem dX11_settlesOf_98 : decode cX11_settlesOf 98 = .ok (.iinc 2 1, 3) := by decide +kernel
theorem dX11_settlesOf_101 : decode cX11_settlesOf 101 = .ok (.goto (-46), 3) := by decide +kernel
theorem dX11_settlesOf_104 : decode cX11_settlesOf 104 = .ok (.aload_n 0, 1) := by decide +kernel
theorem dX11_settlesOf_105 : decode cX11_settlesOf 105 = .ok (.getfield 61, 3) := by decide +kernel
theorem dX11_settlesOf_108 : decode cX11_settlesOf 108 = .ok (.iload_n 1, 1) := by decide +kernel
theorem dX11_settlesOf_109 : decode cX11_settlesOf 109 = .ok (.aload_n 0, 1) := by decide +kernel
theorem dX11_settlesOf_110 : decode cX11_settlesOf 110 = .ok (.getfield 284, 3) := by decide +kernel
theorem dX11_settlesOf_113 : decode cX11_settlesOf 113 = .ok (.iastore, 1) := by decide +kernel
theorem dX11_settlesOf_114 : decode cX11_settlesOf 114 = .ok (.aload_n 0, 1) := by decide +kernel
theorem dX11_settlesOf_115 : decode cX11_settlesOf 115 = .ok (.getfield 64, 3) := by decide +kernel
theorem dX11_settlesOf_118 : decode cX11_settlesOf 118 = .ok (.iload_n 1, 1) := by decide +kernel
theorem dX11_settlesOf_119 : decode cX11_settlesOf 119 = .ok (.aload_n 0, 1) := by decide +kernel
theorem dX11_settlesOf_120 : decode cX11_settlesOf 120 = .ok (.getfield 287, 3) := by decide +kernel
theorem dX11_settlesOf_123 : decode cX11_settlesOf 123 = .ok (.iastore, 1) := by decide +kernel
theorem dX11_settlesOf_124 : decode cX11_settlesOf 124 = .ok (.aload_n 0, 1) := by decide +kernel
theorem dX11_settlesOf_125 : decode cX11_settlesOf 125 = .ok (.iconst 0, 1) := by decide +kernel
theorem dX11_settlesOf_126 : decode cX11_settlesOf 126 = .ok (.invokevirtual 306, 3) := by decide +kernel
theorem dX11_settlesOf_129 : decode cX11_settlesOf 129 = .ok (.iinc 1 1, 3) := by decide +kernel
theorem dX11_settlesOf_132 : decode cX11_settlesOf 132 = .ok (.goto (-86), 3) := by decide +kernel
theorem dX11_settlesOf_135 : decode cX11_settlesOf 135 = .ok (.iload_n 1, 1) := by decide +kernel
theorem dX11_settlesOf_136 : decode cX11_settlesOf 136 = .ok (.ireturn, 1) := by decide +kernel
theorem dX11_settles_0 : decode cX11_settles 0 = .ok (.aload_n 0, 1) := by decide +kernel
theorem dX11_settles_1 : decode cX11_settles 1 = .ok (.invokevirtual 315, 3) := by decide +kernel
theorem dX11_settles_4 : decode cX11_settles 4 = .ok (.ifCond .eq 10, 3) := by decide +kernel
theorem dX11_settles_7 : decode cX11_settles 7 = .ok (.aload_n 0, 1) := by decide +kernel
theorem dX11_settles_8 : decode cX11_settles 8 = .ok (.invokevirtual 361, 3) := by decide +kernel
theorem dX11_settles_11 : decode cX11_settles 11 = .ok (.goto 5, 3) := by decide +kernel
theorem dX11_settles_14 : decode cX11_settles 14 = .ok (.bipush (-2), 2) := by decide +kernel
theorem dX11_settles_16 : decode cX11_settles 16 = .ok (.ireturn, 1) := by decide +kernel
theorem dX11_round_0 : decode cX11_round 0 = .ok (.aload_n 0, 1) := by decide +kernel
theorem dX11_round_1 : decode cX11_round 1 = .ok (.invokevirtual 315, 3) := by decide +kernel
theorem dX11_round_4 : decode cX11_round 4 = .ok (.ifCond .ne 6, 3) := by decide +kernel
theorem dX11_round_7 : decode cX11_round 7 = .ok (.bipush (-2), 2) := by decide +kernel
theorem dX11_round_9 : decode cX11_round 9 = .ok (.ireturn, 1) := by decide +kernel
theorem dX11_round_10 : decode cX11_round 10 = .ok (.aload_n 0, 1) := by decide +kernel
theorem dX11_round_11 : decode cX11_round 11 = .ok (.invokevirtual 361, 3) := by decide +kernel
theorem dX11_round_14 : decode cX11_round 14 = .ok (.pop, 1) := by decide +kernel
theorem dX11_round_15 : decode cX11_round 15 = .ok (.aload_n 0, 1) := by decide +kernel
theorem dX11_round_16 : decode cX11_round 16 = .ok (.getfield 358, 3) := by decide +kernel
theorem dX11_round_19 : decode cX11_round 19 = .ok (.ireturn, 1) := by decide +kernel
theorem dX11_mindOf_0 : decode cX11_mindOf 0 = .ok (.aload_n 0, 1) := by decide +kernel
theorem dX11_mindOf_1 : decode cX11_mindOf 1 = .ok (.getfield 52, 3) := by decide +kernel
theorem dX11_mindOf_4 : decode cX11_mindOf 4 = .ok (.iload_n 2, 1) := by decide +kernel
theorem dX11_mindOf_5 : decode cX11_mindOf 5 = .ok (.iaload, 1) := by decide +kernel
theorem dX11_mindOf_6 : decode cX11_mindOf 6 = .ok (.aload_n 0, 1) := by decide +kernel
theorem dX11_mindOf_7 : decode cX11_mindOf 7 = .ok (.iload_n 1, 1) := by decide +kernel
theorem dX11_mindOf_8 : decode cX11_mindOf 8 = .ok (.invokevirtual 258, 3) := by decide +kernel
theorem dX11_mindOf_11 : decode cX11_mindOf 11 = .ok (.iand, 1) := by decide +kernel
theorem dX11_mindOf_12 : decode cX11_mindOf 12 = .ok (.invokestatic 296, 3) := by decide +kernel
theorem dX11_mindOf_15 : decode cX11_mindOf 15 = .ok (.aload_n 0, 1) := by decide +kernel
theorem dX11_mindOf_16 : decode cX11_mindOf 16 = .ok (.getfield 55, 3) := by decide +kernel
theorem dX11_mindOf_19 : decode cX11_mindOf 19 = .ok (.iload_n 2, 1) := by decide +kernel
theorem dX11_mindOf_20 : decode cX11_mindOf 20 = .ok (.iaload, 1) := by decide +kernel
theorem dX11_mindOf_21 : decode cX11_mindOf 21 = .ok (.aload_n 0, 1) := by decide +kernel
theorem dX11_mindOf_22 : decode cX11_mindOf 22 = .ok (.iload_n 1, 1) := by decide +kernel
theorem dX11_mindOf_23 : decode cX11_mindOf 23 = .ok (.invokevirtual 258, 3) := by decide +kernel
theorem dX11_mindOf_26 : decode cX11_mindOf 26 = .ok (.iand, 1) := by decide +kernel
theorem dX11_mindOf_27 : decode cX11_mindOf 27 = .ok (.invokestatic 296, 3) := by decide +kernel
theorem dX11_mindOf_30 : decode cX11_mindOf 30 = .ok (.isub, 1) := by decide +kernel
theorem dX11_mindOf_31 : decode cX11_mindOf 31 = .ok (.istore_n 3, 1) := by decide +kernel
theorem dX11_mindOf_32 : decode cX11_mindOf 32 = .ok (.iload_n 3, 1) := by decide +kernel
theorem dX11_mindOf_33 : decode cX11_mindOf 33 = .ok (.ifCond .le 7, 3) := by decide +kernel
theorem dX11_mindOf_36 : decode cX11_mindOf 36 = .ok (.iconst 1, 1) := by decide +kernel
theorem dX11_mindOf_37 : decode cX11_mindOf 37 = .ok (.goto 12, 3) := by decide +kernel
theorem dX11_mindOf_40 : decode cX11_mindOf 40 = .ok (.iload_n 3, 1) := by decide +kernel
theorem dX11_mindOf_41 : decode cX11_mindOf 41 = .ok (.ifCond .ge 7, 3) := by decide +kernel
theorem dX11_mindOf_44 : decode cX11_mindOf 44 = .ok (.iconst 2, 1) := by decide +kernel
theorem dX11_mindOf_45 : decode cX11_mindOf 45 = .ok (.goto 4, 3) := by decide +kernel
theorem dX11_mindOf_48 : decode cX11_mindOf 48 = .ok (.iconst 0, 1) := by decide +kernel
theorem dX11_mindOf_49 : decode cX11_mindOf 49 = .ok (.ireturn, 1) := by decide +kernel
theorem dX11_mind_0 : decode cX11_mind 0 = .ok (.aload_n 0, 1) := by decide +kernel
theorem dX11_mind_1 : decode cX11_mind 1 = .ok (.iload_n 2, 1) := by decide +kernel
theorem dX11_mind_2 : decode cX11_mind 2 = .ok (.invokevirtual 330, 3) := by decide +kernel
theorem dX11_mind_5 : decode cX11_mind 5 = .ok (.ifCond .eq 20, 3) := by decide +kernel
theorem dX11_mind_8 : decode cX11_mind 8 = .ok (.aload_n 0, 1) := by decide +kernel
theorem dX11_mind_9 : decode cX11_mind 9 = .ok (.iload_n 1, 1) := by decide +kernel
theorem dX11_mind_10 : decode cX11_mind 10 = .ok (.invokevirtual 227, 3) := by decide +kernel
theorem dX11_mind_13 : decode cX11_mind 13 = .ok (.ifCond .eq 12, 3) := by decide +kernel
theorem dX11_mind_16 : decode cX11_mind 16 = .ok (.aload_n 0, 1) := by decide +kernel
theorem dX11_mind_17 : decode cX11_mind 17 = .ok (.iload_n 1, 1) := by decide +kernel
theorem dX11_mind_18 : decode cX11_mind 18 = .ok (.iload_n 2, 1) := by decide +kernel
theorem dX11_mind_19 : decode cX11_mind 19 = .ok (.invokevirtual 364, 3) := by decide +kernel
theorem dX11_mind_22 : decode cX11_mind 22 = .ok (.goto 5, 3) := by decide +kernel
theorem dX11_mind_25 : decode cX11_mind 25 = .ok (.bipush (-2), 2) := by decide +kernel
theorem dX11_mind_27 : decode cX11_mind 27 = .ok (.ireturn, 1) := by decide +kernel
theorem dX11_rows_0 : decode cX11_rows 0 = .ok (.aload_n 0, 1) := by decide +kernel
theorem dX11_rows_1 : decode cX11_rows 1 = .ok (.iload_n 2, 1) := by decide +kernel
theorem dX11_rows_2 : decode cX11_rows 2 = .ok (.invokevirtual 330, 3) := by decide +kernel
theorem dX11_rows_5 : decode cX11_rows 5 = .ok (.ifCond .eq 11, 3) := by decide +kernel
theorem dX11_rows_8 : decode cX11_rows 8 = .ok (.iload_n 1, 1) := by decide +kernel
theorem dX11_rows_9 : decode cX11_rows 9 = .ok (.i2l, 1) := by decide +kernel
theorem dX11_rows_10 : decode cX11_rows 10 = .ok (.invokestatic 348, 3) := by decide +kernel
theorem dX11_rows_13 : decode cX11_rows 13 = .ok (.ifCond .ne 6, 3) := by decide +kernel
theorem dX11_rows_16 : decode cX11_rows 16 = .ok (.bipush (-2), 2) := by decide +kernel
theorem dX11_rows_18 : decode cX11_rows 18 = .ok (.ireturn, 1) := by decide +kernel
theorem dX11_rows_19 : decode cX11_rows 19 = .ok (.iconst 0, 1) := by decide +kernel
theorem dX11_rows_20 : decode cX11_rows 20 = .ok (.istore_n 3, 1) := by decide +kernel
theorem dX11_rows_21 : decode cX11_rows 21 = .ok (.iconst 0, 1) := by decide +kernel
theorem dX11_rows_22 : decode cX11_rows 22 = .ok (.istore 4, 2) := by decide +kernel
theorem dX11_rows_24 : decode cX11_rows 24 = .ok (.iload 4, 2) := by decide +kernel
theorem dX11_rows_26 : decode cX11_rows 26 = .ok (.aload_n 0, 1) := by decide +kernel
theorem dX11_rows_27 : decode cX11_rows 27 = .ok (.getfield 9, 3) := by decide +kernel
theorem dX11_rows_30 : decode cX11_rows 30 = .ok (.iconst 3, 1) := by decide +kernel
theorem dX11_rows_31 : decode cX11_rows 31 = .ok (.iaload, 1) := by decide +kernel
theorem dX11_rows_32 : decode cX11_rows 32 = .ok (.if_icmp .ge 31, 3) := by decide +kernel
theorem dX11_rows_35 : decode cX11_rows 35 = .ok (.iload_n 3, 1) := by decide +kernel
theorem dX11_rows_36 : decode cX11_rows 36 = .ok (.aload_n 0, 1) := by decide +kernel
theorem dX11_rows_37 : decode cX11_rows 37 = .ok (.iload 4, 2) := by decide +kernel
theorem dX11_rows_39 : decode cX11_rows 39 = .ok (.iload_n 2, 1) := by decide +kernel
theorem dX11_rows_40 : decode cX11_rows 40 = .ok (.invokevirtual 364, 3) := by decide +kernel
theorem dX11_rows_43 : decode cX11_rows 43 = .ok (.iload_n 1, 1) := by decide +kernel
theorem dX11_rows_44 : decode cX11_rows 44 = .ok (.if_icmp .ne 10, 3) := by decide +kernel
theorem dX11_rows_47 : decode cX11_rows 47 = .ok (.iconst 1, 1) := by decide +kernel
theorem dX11_rows_48 : decode cX11_rows 48 = .ok (.iload 4, 2) := by decide +kernel
theorem dX11_rows_50 : decode cX11_rows 50 = .ok (.ishl, 1) := by decide +kernel
theorem dX11_rows_51 : decode cX11_rows 51 = .ok (.goto 4, 3) := by decide +kernel
theorem dX11_rows_54 : decode cX11_rows 54 = .ok (.iconst 0, 1) := by decide +kernel
theorem dX11_rows_55 : decode cX11_rows 55 = .ok (.ior, 1) := by decide +kernel
theorem dX11_rows_56 : decode cX11_rows 56 = .ok (.istore_n 3, 1) := by decide +kernel
theorem dX11_rows_57 : decode cX11_rows 57 = .ok (.iinc 4 1, 3) := by decide +kernel
theorem dX11_rows_60 : decode cX11_rows 60 = .ok (.goto (-36), 3) := by decide +kernel
theorem dX11_rows_63 : decode cX11_rows 63 = .ok (.iload_n 3, 1) := by decide +kernel
theorem dX11_rows_64 : decode cX11_rows 64 = .ok (.ireturn, 1) := by decide +kernel
theorem dX11_split_0 : decode cX11_split 0 = .ok (.aload_n 0, 1) := by decide +kernel
theorem dX11_split_1 : decode cX11_split 1 = .ok (.iload_n 1, 1) := by decide +kernel
theorem dX11_split_2 : decode cX11_split 2 = .ok (.invokevirtual 330, 3) := by decide +kernel
theorem dX11_split_5 : decode cX11_split 5 = .ok (.ifCond .eq 28, 3) := by decide +kernel
theorem dX11_split_8 : decode cX11_split 8 = .ok (.aload_n 0, 1) := by decide +kernel
theorem dX11_split_9 : decode cX11_split 9 = .ok (.getfield 52, 3) := by decide +kernel
theorem dX11_split_12 : decode cX11_split 12 = .ok (.iload_n 1, 1) := by decide +kernel
theorem dX11_split_13 : decode cX11_split 13 = .ok (.iaload, 1) := by decide +kernel
theorem dX11_split_14 : decode cX11_split 14 = .ok (.invokestatic 296, 3) := by decide +kernel
theorem dX11_split_17 : decode cX11_split 17 = .ok (.aload_n 0, 1) := by decide +kernel
theorem dX11_split_18 : decode cX11_split 18 = .ok (.getfield 55, 3) := by decide +kernel
theorem dX11_split_21 : decode cX11_split 21 = .ok (.iload_n 1, 1) := by decide +kernel
theorem dX11_split_22 : decode cX11_split 22 = .ok (.iaload, 1) := by decide +kernel
theorem dX11_split_23 : decode cX11_split 23 = .ok (.invokestatic 296, 3) := by decide +kernel
theorem dX11_split_26 : decode cX11_split 26 = .ok (.isub, 1) := by decide +kernel
theorem dX11_split_27 : decode cX11_split 27 = .ok (.invokestatic 367, 3) := by decide +kernel
theorem dX11_split_30 : decode cX11_split 30 = .ok (.goto 5, 3) := by decide +kernel
theorem dX11_split_33 : decode cX11_split 33 = .ok (.bipush (-2), 2) := by decide +kernel
theorem dX11_split_35 : decode cX11_split 35 = .ok (.ireturn, 1) := by decide +kernel
theorem dX11_main_0 : decode cX11_main 0 = .ok (.aload_n 0, 1) := by decide +kernel
theorem dX11_main_1 : decode cX11_main 1 = .ok (.iload_n 1, 1) := by decide +kernel
theorem dX11_main_2 : decode cX11_main 2 = .ok (.invokevirtual 330, 3) := by decide +kernel
theorem dX11_main_5 : decode cX11_main 5 = .ok (.ifCond .ne 6, 3) := by decide +kernel
theorem dX11_main_8 : decode cX11_main 8 = .ok (.bipush (-2), 2) := by decide +kernel
theorem dX11_main_10 : decode cX11_main 10 = .ok (.ireturn, 1) := by decide +kernel
theorem dX11_main_11 : decode cX11_main 11 = .ok (.aload_n 0, 1) := by decide +kernel
theorem dX11_main_12 : decode cX11_main 12 = .ok (.getfield 52, 3) := by decide +kernel
theorem dX11_main_15 : decode cX11_main 15 = .ok (.iload_n 1, 1) := by decide +kernel
theorem dX11_main_16 : decode cX11_main 16 = .ok (.iaload, 1) := by decide +kernel
theorem dX11_main_17 : decode cX11_main 17 = .ok (.invokestatic 296, 3) := by decide +kernel
theorem dX11_main_20 : decode cX11_main 20 = .ok (.aload_n 0, 1) := by decide +kernel
theorem dX11_main_21 : decode cX11_main 21 = .ok (.getfield 55, 3) := by decide +kernel
theorem dX11_main_24 : decode cX11_main 24 = .ok (.iload_n 1, 1) := by decide +kernel
theorem dX11_main_25 : decode cX11_main 25 = .ok (.iaload, 1) := by decide +kernel
theorem dX11_main_26 : decode cX11_main 26 = .ok (.invokestatic 296, 3) := by decide +kernel
theorem dX11_main_29 : decode cX11_main 29 = .ok (.isub, 1) := by decide +kernel
theorem dX11_main_30 : decode cX11_main 30 = .ok (.istore_n 2, 1) := by decide +kernel
theorem dX11_main_31 : decode cX11_main 31 = .ok (.iload_n 2, 1) := by decide +kernel
theorem dX11_main_32 : decode cX11_main 32 = .ok (.ifCond .le 7, 3) := by decide +kernel
theorem dX11_main_35 : decode cX11_main 35 = .ok (.iconst 1, 1) := by decide +kernel
theorem dX11_main_36 : decode cX11_main 36 = .ok (.goto 12, 3) := by decide +kernel
theorem dX11_main_39 : decode cX11_main 39 = .ok (.iload_n 2, 1) := by decide +kernel
theorem dX11_main_40 : decode cX11_main 40 = .ok (.ifCond .ge 7, 3) := by decide +kernel
theorem dX11_main_43 : decode cX11_main 43 = .ok (.iconst 2, 1) := by decide +kernel
theorem dX11_main_44 : decode cX11_main 44 = .ok (.goto 4, 3) := by decide +kernel
theorem dX11_main_47 : decode cX11_main 47 = .ok (.iconst 0, 1) := by decide +kernel
theorem dX11_main_48 : decode cX11_main 48 = .ok (.ireturn, 1) := by decide +kernel
theorem dX11_first_0 : decode cX11_first 0 = .ok (.aload_n 0, 1) := by decide +kernel
theorem dX11_first_1 : decode cX11_first 1 = .ok (.invokevirtual 315, 3) := by decide +kernel
theorem dX11_first_4 : decode cX11_first 4 = .ok (.ifCond .eq 11, 3) := by decide +kernel
theorem dX11_first_7 : decode cX11_first 7 = .ok (.iload_n 1, 1) := by decide +kernel
theorem dX11_first_8 : decode cX11_first 8 = .ok (.i2l, 1) := by decide +kernel
theorem dX11_first_9 : decode cX11_first 9 = .ok (.invokestatic 348, 3) := by decide +kernel
theorem dX11_first_12 : decode cX11_first 12 = .ok (.ifCond .ne 6, 3) := by decide +kernel
theorem dX11_first_15 : decode cX11_first 15 = .ok (.bipush (-2), 2) := by decide +kernel
theorem dX11_first_17 : decode cX11_first 17 = .ok (.ireturn, 1) := by decide +kernel
theorem dX11_first_18 : decode cX11_first 18 = .ok (.iconst 0, 1) := by decide +kernel
theorem dX11_first_19 : decode cX11_first 19 = .ok (.istore_n 2, 1) := by decide +kernel
theorem dX11_first_20 : decode cX11_first 20 = .ok (.iload_n 2, 1) := by decide +kernel
theorem dX11_first_21 : decode cX11_first 21 = .ok (.aload_n 0, 1) := by decide +kernel
theorem dX11_first_22 : decode cX11_first 22 = .ok (.invokevirtual 103, 3) := by decide +kernel
theorem dX11_first_25 : decode cX11_first 25 = .ok (.if_icmp .gt 20, 3) := by decide +kernel
theorem dX11_first_28 : decode cX11_first 28 = .ok (.aload_n 0, 1) := by decide +kernel
theorem dX11_first_29 : decode cX11_first 29 = .ok (.iload_n 1, 1) := by decide +kernel
theorem dX11_first_30 : decode cX11_first 30 = .ok (.iload_n 2, 1) := by decide +kernel
theorem dX11_first_31 : decode cX11_first 31 = .ok (.invokevirtual 327, 3) := by decide +kernel
theorem dX11_first_34 : decode cX11_first 34 = .ok (.ifCond .eq 5, 3) := by decide +kernel
theorem dX11_first_37 : decode cX11_first 37 = .ok (.iload_n 2, 1) := by decide +kernel
theorem dX11_first_38 : decode cX11_first 38 = .ok (.ireturn, 1) := by decide +kernel
theorem dX11_first_39 : decode cX11_first 39 = .ok (.iinc 2 1, 3) := by decide +kernel
theorem dX11_first_42 : decode cX11_first 42 = .ok (.goto (-22), 3) := by decide +kernel
theorem dX11_first_45 : decode cX11_first 45 = .ok (.iconst (-1), 1) := by decide +kernel
theorem dX11_first_46 : decode cX11_first 46 = .ok (.ireturn, 1) := by decide +kernel
theorem dX11_solid_0 : decode cX11_solid 0 = .ok (.aload_n 0, 1) := by decide +kernel
theorem dX11_solid_1 : decode cX11_solid 1 = .ok (.iload_n 1, 1) := by decide +kernel
theorem dX11_solid_2 : decode cX11_solid 2 = .ok (.invokevirtual 330, 3) := by decide +kernel
theorem dX11_solid_5 : decode cX11_solid 5 = .ok (.ifCond .ne 6, 3) := by decide +kernel
theorem dX11_solid_8 : decode cX11_solid 8 = .ok (.bipush (-2), 2) := by decide +kernel
theorem dX11_solid_10 : decode cX11_solid 10 = .ok (.ireturn, 1) := by decide +kernel
theorem dX11_solid_11 : decode cX11_solid 11 = .ok (.iconst 0, 1) := by decide +kernel
theorem dX11_solid_12 : decode cX11_solid 12 = .ok (.istore_n 2, 1) := by decide +kernel
theorem dX11_solid_13 : decode cX11_solid 13 = .ok (.iconst 0, 1) := by decide +kernel
theorem dX11_solid_14 : decode cX11_solid 14 = .ok (.istore_n 3, 1) := by decide +kernel
theorem dX11_solid_15 : decode cX11_solid 15 = .ok (.iload_n 3, 1) := by decide +kernel
theorem dX11_solid_16 : decode cX11_solid 16 = .ok (.aload_n 0, 1) := by decide +kernel
theorem dX11_solid_17 : decode cX11_solid 17 = .ok (.getfield 9, 3) := by decide +kernel
theorem dX11_solid_20 : decode cX11_solid 20 = .ok (.iconst 3, 1) := by decide +kernel
theorem dX11_solid_21 : decode cX11_solid 21 = .ok (.iaload, 1) := by decide +kernel
theorem dX11_solid_22 : decode cX11_solid 22 = .ok (.if_icmp .ge 65, 3) := by decide +kernel
theorem dX11_solid_25 : decode cX11_solid 25 = .ok (.iload_n 2, 1) := by decide +kernel
theorem dX11_solid_26 : decode cX11_solid 26 = .ok (.aload_n 0, 1) := by decide +kernel
theorem dX11_solid_27 : decode cX11_solid 27 = .ok (.iload_n 3, 1) := by decide +kernel
theorem dX11_solid_28 : decode cX11_solid 28 = .ok (.invokevirtual 258, 3) := by decide +kernel
theorem dX11_solid_31 : decode cX11_solid 31 = .ok (.aload_n 0, 1) := by decide +kernel
theorem dX11_solid_32 : decode cX11_solid 32 = .ok (.iload_n 1, 1) := by decide +kernel
theorem dX11_solid_33 : decode cX11_solid 33 = .ok (.invokevirtual 324, 3) := by decide +kernel
theorem dX11_solid_36 : decode cX11_solid 36 = .ok (.iand, 1) := by decide +kernel
theorem dX11_solid_37 : decode cX11_solid 37 = .ok (.aload_n 0, 1) := by decide +kernel
theorem dX11_solid_38 : decode cX11_solid 38 = .ok (.getfield 52, 3) := by decide +kernel
theorem dX11_solid_41 : decode cX11_solid 41 = .ok (.iload_n 1, 1) := by decide +kernel
theorem dX11_solid_42 : decode cX11_solid 42 = .ok (.iaload, 1) := by decide +kernel
theorem dX11_solid_43 : decode cX11_solid 43 = .ok (.invokestatic 351, 3) := by decide +kernel
theorem dX11_solid_46 : decode cX11_solid 46 = .ok (.ifCond .ne 26, 3) := by decide +kernel
theorem dX11_solid_49 : decode cX11_solid 49 = .ok (.aload_n 0, 1) := by decide +kernel
theorem dX11_solid_50 : decode cX11_solid 50 = .ok (.iload_n 3, 1) := by decide +kernel
theorem dX11_solid_51 : decode cX11_solid 51 = .ok (.invokevirtual 258, 3) := by decide +kernel
theorem dX11_solid_54 : decode cX11_solid 54 = .ok (.aload_n 0, 1) := by decide +kernel
theorem dX11_solid_55 : decode cX11_solid 55 = .ok (.iload_n 1, 1) := by decide +kernel
theorem dX11_solid_56 : decode cX11_solid 56 = .ok (.invokevirtual 324, 3) := by decide +kernel
theorem dX11_solid_59 : decode cX11_solid 59 = .ok (.iand, 1) := by decide +kernel
theorem dX11_solid_60 : decode cX11_solid 60 = .ok (.aload_n 0, 1) := by decide +kernel
theorem dX11_solid_61 : decode cX11_solid 61 = .ok (.getfield 55, 3) := by decide +kernel
theorem dX11_solid_64 : decode cX11_solid 64 = .ok (.iload_n 1, 1) := by decide +kernel
theorem dX11_solid_65 : decode cX11_solid 65 = .ok (.iaload, 1) := by decide +kernel
theorem dX11_solid_66 : decode cX11_solid 66 = .ok (.invokestatic 351, 3) := by decide +kernel
theorem dX11_solid_69 : decode cX11_solid 69 = .ok (.ifCond .eq 9, 3) := by decide +kernel
theorem dX11_solid_72 : decode cX11_solid 72 = .ok (.iconst 1, 1) := by decide +kernel
theorem dX11_solid_73 : decode cX11_solid 73 = .ok (.iload_n 3, 1) := by decide +kernel
theorem dX11_solid_74 : decode cX11_solid 74 = .ok (.ishl, 1) := by decide +kernel
theorem dX11_solid_75 : decode cX11_solid 75 = .ok (.goto 4, 3) := by decide +kernel
theorem dX11_solid_78 : decode cX11_solid 78 = .ok (.iconst 0, 1) := by decide +kernel
theorem dX11_solid_79 : decode cX11_solid 79 = .ok (.ior, 1) := by decide +kernel
theorem dX11_solid_80 : decode cX11_solid 80 = .ok (.istore_n 2, 1) := by decide +kernel
theorem dX11_solid_81 : decode cX11_solid 81 = .ok (.iinc 3 1, 3) := by decide +kernel
theorem dX11_solid_84 : decode cX11_solid 84 = .ok (.goto (-69), 3) := by decide +kernel
theorem dX11_solid_87 : decode cX11_solid 87 = .ok (.iload_n 2, 1) := by decide +kernel
theorem dX11_solid_88 : decode cX11_solid 88 = .ok (.ireturn, 1) := by decide +kernel
theorem dX11_longest_0 : decode cX11_longest 0 = .ok (.aload_n 0, 1) := by decide +kernel
theorem dX11_longest_1 : decode cX11_longest 1 = .ok (.iload_n 2, 1) := by decide +kernel
theorem dX11_longest_2 : decode cX11_longest 2 = .ok (.invokevirtual 330, 3) := by decide +kernel
theorem dX11_longest_5 : decode cX11_longest 5 = .ok (.ifCond .eq 11, 3) := by decide +kernel
theorem dX11_longest_8 : decode cX11_longest 8 = .ok (.iload_n 1, 1) := by decide +kernel
theorem dX11_longest_9 : decode cX11_longest 9 = .ok (.i2l, 1) := by decide +kernel
theorem dX11_longest_10 : decode cX11_longest 10 = .ok (.invokestatic 336, 3) := by decide +kernel
theorem dX11_longest_13 : decode cX11_longest 13 = .ok (.ifCond .ne 6, 3) := by decide +kernel
theorem dX11_longest_16 : decode cX11_longest 16 = .ok (.bipush (-2), 2) := by decide +kernel
theorem dX11_longest_18 : decode cX11_longest 18 = .ok (.ireturn, 1) := by decide +kernel
theorem dX11_longest_19 : decode cX11_longest 19 = .ok (.iconst 0, 1) := by decide +kernel
theorem dX11_longest_20 : decode cX11_longest 20 = .ok (.istore_n 3, 1) := by decide +kernel
theorem dX11_longest_21 : decode cX11_longest 21 = .ok (.iconst 0, 1) := by decide +kernel
theorem dX11_longest_22 : decode cX11_longest 22 = .ok (.istore 4, 2) := by decide +kernel
theorem dX11_longest_24 : decode cX11_longest 24 = .ok (.iconst 0, 1) := by decide +kernel
theorem dX11_longest_25 : decode cX11_longest 25 = .ok (.istore 5, 2) := by decide +kernel
theorem dX11_longest_27 : decode cX11_longest 27 = .ok (.iload 5, 2) := by decide +kernel
theorem dX11_longest_29 : decode cX11_longest 29 = .ok (.aload_n 0, 1) := by decide +kernel
theorem dX11_longest_30 : decode cX11_longest 30 = .ok (.invokevirtual 95, 3) := by decide +kernel
theorem dX11_longest_33 : decode cX11_longest 33 = .ok (.if_icmp .ge 67, 3) := by decide +kernel
theorem dX11_longest_36 : decode cX11_longest 36 = .ok (.aload_n 0, 1) := by decide +kernel
theorem dX11_longest_37 : decode cX11_longest 37 = .ok (.iload_n 1, 1) := by decide +kernel
theorem dX11_longest_38 : decode cX11_longest 38 = .ok (.iload_n 2, 1) := by decide +kernel
theorem dX11_longest_39 : decode cX11_longest 39 = .ok (.invokevirtual 327, 3) := by decide +kernel
theorem dX11_longest_42 : decode cX11_longest 42 = .ok (.iload 5, 2) := by decide +kernel
theorem dX11_longest_44 : decode cX11_longest 44 = .ok (.invokestatic 274, 3) := by decide +kernel
theorem dX11_longest_47 : decode cX11_longest 47 = .ok (.iconst 1, 1) := by decide +kernel
theorem dX11_longest_48 : decode cX11_longest 48 = .ok (.if_icmp .ne 7, 3) := by decide +kernel
theorem dX11_longest_51 : decode cX11_longest 51 = .ok (.iconst 1, 1) := by decide +kernel
theorem dX11_longest_52 : decode cX11_longest 52 = .ok (.goto 4, 3) := by decide +kernel
theorem dX11_longest_55 : decode cX11_longest 55 = .ok (.iconst 0, 1) := by decide +kernel
theorem dX11_longest_56 : decode cX11_longest 56 = .ok (.istore 6, 2) := by decide +kernel
theorem dX11_longest_58 : decode cX11_longest 58 = .ok (.iload 6, 2) := by decide +kernel
theorem dX11_longest_60 : decode cX11_longest 60 = .ok (.ifCond .ne 7, 3) := by decide +kernel
theorem dX11_longest_63 : decode cX11_longest 63 = .ok (.iconst 0, 1) := by decide +kernel
theorem dX11_longest_64 : decode cX11_longest 64 = .ok (.goto 21, 3) := by decide +kernel
theorem dX11_longest_67 : decode cX11_longest 67 = .ok (.aload_n 0, 1) := by decide +kernel
theorem dX11_longest_68 : decode cX11_longest 68 = .ok (.getfield 37, 3) := by decide +kernel
theorem dX11_longest_71 : decode cX11_longest 71 = .ok (.iload 5, 2) := by decide +kernel
theorem dX11_longest_73 : decode cX11_longest 73 = .ok (.iaload, 1) := by decide +kernel
theorem dX11_longest_74 : decode cX11_longest 74 = .ok (.ifCond .ne 7, 3) := by decide +kernel
theorem dX11_longest_77 : decode cX11_longest 77 = .ok (.iconst 1, 1) := by decide +kernel
theorem dX11_longest_78 : decode cX11_longest 78 = .ok (.goto 7, 3) := by decide +kernel
theorem dX11_longest_81 : decode cX11_longest 81 = .ok (.iload 4, 2) := by decide +kernel
theorem dX11_longest_83 : decode cX11_longest 83 = .ok (.iconst 1, 1) := by decide +kernel
theorem dX11_longest_84 : decode cX11_longest 84 = .ok (.iadd, 1) := by decide +kernel
theorem dX11_longest_85 : decode cX11_longest 85 = .ok (.istore 4, 2) := by decide +kernel
theorem dX11_longest_87 : decode cX11_longest 87 = .ok (.iload_n 3, 1) := by decide +kernel
theorem dX11_longest_88 : decode cX11_longest 88 = .ok (.iload 4, 2) := by decide +kernel
theorem dX11_longest_90 : decode cX11_longest 90 = .ok (.invokestatic 355, 3) := by decide +kernel
theorem dX11_longest_93 : decode cX11_longest 93 = .ok (.istore_n 3, 1) := by decide +kernel
theorem dX11_longest_94 : decode cX11_longest 94 = .ok (.iinc 5 1, 3) := by decide +kernel
theorem dX11_longest_97 : decode cX11_longest 97 = .ok (.goto (-70), 3) := by decide +kernel
theorem dX11_longest_100 : decode cX11_longest 100 = .ok (.iload_n 3, 1) := by decide +kernel
theorem dX11_longest_101 : decode cX11_longest 101 = .ok (.ireturn, 1) := by decide +kernel
theorem dX11_pull_0 : decode cX11_pull 0 = .ok (.aload_n 0, 1) := by decide +kernel
theorem dX11_pull_1 : decode cX11_pull 1 = .ok (.iload_n 2, 1) := by decide +kernel
theorem dX11_pull_2 : decode cX11_pull 2 = .ok (.invokevirtual 330, 3) := by decide +kernel
theorem dX11_pull_5 : decode cX11_pull 5 = .ok (.ifCond .eq 32, 3) := by decide +kernel
theorem dX11_pull_8 : decode cX11_pull 8 = .ok (.aload_n 0, 1) := by decide +kernel
theorem dX11_pull_9 : decode cX11_pull 9 = .ok (.iload_n 1, 1) := by decide +kernel
theorem dX11_pull_10 : decode cX11_pull 10 = .ok (.i2l, 1) := by decide +kernel
theorem dX11_pull_11 : decode cX11_pull 11 = .ok (.invokevirtual 237, 3) := by decide +kernel
theorem dX11_pull_14 : decode cX11_pull 14 = .ok (.ifCond .eq 23, 3) := by decide +kernel
theorem dX11_pull_17 : decode cX11_pull 17 = .ok (.aload_n 0, 1) := by decide +kernel
theorem dX11_pull_18 : decode cX11_pull 18 = .ok (.iload_n 1, 1) := by decide +kernel
theorem dX11_pull_19 : decode cX11_pull 19 = .ok (.aload_n 0, 1) := by decide +kernel
theorem dX11_pull_20 : decode cX11_pull 20 = .ok (.getfield 52, 3) := by decide +kernel
theorem dX11_pull_23 : decode cX11_pull 23 = .ok (.iload_n 2, 1) := by decide +kernel
theorem dX11_pull_24 : decode cX11_pull 24 = .ok (.iaload, 1) := by decide +kernel
theorem dX11_pull_25 : decode cX11_pull 25 = .ok (.aload_n 0, 1) := by decide +kernel
theorem dX11_pull_26 : decode cX11_pull 26 = .ok (.getfield 55, 3) := by decide +kernel
theorem dX11_pull_29 : decode cX11_pull 29 = .ok (.iload_n 2, 1) := by decide +kernel
theorem dX11_pull_30 : decode cX11_pull 30 = .ok (.iaload, 1) := by decide +kernel
theorem dX11_pull_31 : decode cX11_pull 31 = .ok (.invokevirtual 299, 3) := by decide +kernel
theorem dX11_pull_34 : decode cX11_pull 34 = .ok (.goto 6, 3) := by decide +kernel
theorem dX11_pull_37 : decode cX11_pull 37 = .ok (.sipush (-1000), 3) := by decide +kernel
theorem dX11_pull_40 : decode cX11_pull 40 = .ok (.ireturn, 1) := by decide +kernel
theorem dX11_tied_0 : decode cX11_tied 0 = .ok (.aload_n 0, 1) := by decide +kernel
theorem dX11_tied_1 : decode cX11_tied 1 = .ok (.iload_n 1, 1) := by decide +kernel
theorem dX11_tied_2 : decode cX11_tied 2 = .ok (.invokevirtual 330, 3) := by decide +kernel
theorem dX11_tied_5 : decode cX11_tied 5 = .ok (.ifCond .ne 6, 3) := by decide +kernel
theorem dX11_tied_8 : decode cX11_tied 8 = .ok (.bipush (-2), 2) := by decide +kernel
theorem dX11_tied_10 : decode cX11_tied 10 = .ok (.ireturn, 1) := by decide +kernel
theorem dX11_tied_11 : decode cX11_tied 11 = .ok (.iconst 0, 1) := by decide +kernel
theorem dX11_tied_12 : decode cX11_tied 12 = .ok (.istore_n 2, 1) := by decide +kernel
theorem dX11_tied_13 : decode cX11_tied 13 = .ok (.iconst 0, 1) := by decide +kernel
theorem dX11_tied_14 : decode cX11_tied 14 = .ok (.istore_n 3, 1) := by decide +kernel
theorem dX11_tied_15 : decode cX11_tied 15 = .ok (.iload_n 3, 1) := by decide +kernel
theorem dX11_tied_16 : decode cX11_tied 16 = .ok (.aload_n 0, 1) := by decide +kernel
theorem dX11_tied_17 : decode cX11_tied 17 = .ok (.invokevirtual 95, 3) := by decide +kernel
theorem dX11_tied_20 : decode cX11_tied 20 = .ok (.if_icmp .ge 39, 3) := by decide +kernel
theorem dX11_tied_23 : decode cX11_tied 23 = .ok (.iload_n 2, 1) := by decide +kernel
theorem dX11_tied_24 : decode cX11_tied 24 = .ok (.aload_n 0, 1) := by decide +kernel
theorem dX11_tied_25 : decode cX11_tied 25 = .ok (.iload_n 3, 1) := by decide +kernel
theorem dX11_tied_26 : decode cX11_tied 26 = .ok (.aload_n 0, 1) := by decide +kernel
theorem dX11_tied_27 : decode cX11_tied 27 = .ok (.getfield 52, 3) := by decide +kernel
theorem dX11_tied_30 : decode cX11_tied 30 = .ok (.iload_n 1, 1) := by decide +kernel
theorem dX11_tied_31 : decode cX11_tied 31 = .ok (.iaload, 1) := by decide +kernel
theorem dX11_tied_32 : decode cX11_tied 32 = .ok (.aload_n 0, 1) := by decide +kernel
theorem dX11_tied_33 : decode cX11_tied 33 = .ok (.getfield 55, 3) := by decide +kernel
theorem dX11_tied_36 : decode cX11_tied 36 = .ok (.iload_n 1, 1) := by decide +kernel
theorem dX11_tied_37 : decode cX11_tied 37 = .ok (.iaload, 1) := by decide +kernel
theorem dX11_tied_38 : decode cX11_tied 38 = .ok (.invokevirtual 299, 3) := by decide +kernel
theorem dX11_tied_41 : decode cX11_tied 41 = .ok (.ifCond .ne 9, 3) := by decide +kernel
theorem dX11_tied_44 : decode cX11_tied 44 = .ok (.iconst 1, 1) := by decide +kernel
theorem dX11_tied_45 : decode cX11_tied 45 = .ok (.iload_n 3, 1) := by decide +kernel
theorem dX11_tied_46 : decode cX11_tied 46 = .ok (.ishl, 1) := by decide +kernel
theorem dX11_tied_47 : decode cX11_tied 47 = .ok (.goto 4, 3) := by decide +kernel
theorem dX11_tied_50 : decode cX11_tied 50 = .ok (.iconst 0, 1) := by decide +kernel
theorem dX11_tied_51 : decode cX11_tied 51 = .ok (.ior, 1) := by decide +kernel
theorem dX11_tied_52 : decode cX11_tied 52 = .ok (.istore_n 2, 1) := by decide +kernel
theorem dX11_tied_53 : decode cX11_tied 53 = .ok (.iinc 3 1, 3) := by decide +kernel
theorem dX11_tied_56 : decode cX11_tied 56 = .ok (.goto (-41), 3) := by decide +kernel
theorem dX11_tied_59 : decode cX11_tied 59 = .ok (.iload_n 2, 1) := by decide +kernel
theorem dX11_tied_60 : decode cX11_tied 60 = .ok (.aload_n 0, 1) := by decide +kernel
theorem dX11_tied_61 : decode cX11_tied 61 = .ok (.iload_n 1, 1) := by decide +kernel
theorem dX11_tied_62 : decode cX11_tied 62 = .ok (.invokevirtual 324, 3) := by decide +kernel
theorem dX11_tied_65 : decode cX11_tied 65 = .ok (.iand, 1) := by decide +kernel
theorem dX11_tied_66 : decode cX11_tied 66 = .ok (.ireturn, 1) := by decide +kernel
theorem dX11_since_0 : decode cX11_since 0 = .ok (.aload_n 0, 1) := by decide +kernel
theorem dX11_since_1 : decode cX11_since 1 = .ok (.iload_n 1, 1) := by decide +kernel
theorem dX11_since_2 : decode cX11_since 2 = .ok (.invokevirtual 342, 3) := by decide +kernel
theorem dX11_since_5 : decode cX11_since 5 = .ok (.ifCond .ne 6, 3) := by decide +kernel
theorem dX11_since_8 : decode cX11_since 8 = .ok (.bipush (-2), 2) := by decide +kernel
theorem dX11_since_10 : decode cX11_since 10 = .ok (.ireturn, 1) := by decide +kernel
theorem dX11_since_11 : decode cX11_since 11 = .ok (.aload_n 0, 1) := by decide +kernel
theorem dX11_since_12 : decode cX11_since 12 = .ok (.invokevirtual 103, 3) := by decide +kernel
theorem dX11_since_15 : decode cX11_since 15 = .ok (.istore_n 2, 1) := by decide +kernel
theorem dX11_since_16 : decode cX11_since 16 = .ok (.iload_n 2, 1) := by decide +kernel
theorem dX11_since_17 : decode cX11_since 17 = .ok (.ifCond .le 29, 3) := by decide +kernel
theorem dX11_since_20 : decode cX11_since 20 = .ok (.aload_n 0, 1) := by decide +kernel
theorem dX11_since_21 : decode cX11_since 21 = .ok (.iload_n 1, 1) := by decide +kernel
theorem dX11_since_22 : decode cX11_since 22 = .ok (.iload_n 2, 1) := by decide +kernel
theorem dX11_since_23 : decode cX11_since 23 = .ok (.iconst 1, 1) := by decide +kernel
theorem dX11_since_24 : decode cX11_since 24 = .ok (.isub, 1) := by decide +kernel
theorem dX11_since_25 : decode cX11_since 25 = .ok (.invokevirtual 333, 3) := by decide +kernel
theorem dX11_since_28 : decode cX11_since 28 = .ok (.aload_n 0, 1) := by decide +kernel
theorem dX11_since_29 : decode cX11_since 29 = .ok (.iload_n 1, 1) := by decide +kernel
theorem dX11_since_30 : decode cX11_since 30 = .ok (.aload_n 0, 1) := by decide +kernel
theorem dX11_since_31 : decode cX11_since 31 = .ok (.invokevirtual 103, 3) := by decide +kernel
theorem dX11_since_34 : decode cX11_since 34 = .ok (.invokevirtual 333, 3) := by decide +kernel
theorem dX11_since_37 : decode cX11_since 37 = .ok (.if_icmp .ne 9, 3) := by decide +kernel
theorem dX11_since_40 : decode cX11_since 40 = .ok (.iinc 2 (-1), 3) := by decide +kernel
theorem dX11_since_43 : decode cX11_since 43 = .ok (.goto (-27), 3) := by decide +kernel
theorem dX11_since_46 : decode cX11_since 46 = .ok (.iload_n 2, 1) := by decide +kernel
theorem dX11_since_47 : decode cX11_since 47 = .ok (.ireturn, 1) := by decide +kernel
theorem dX11_held_0 : decode cX11_held 0 = .ok (.aload_n 0, 1) := by decide +kernel
theorem dX11_held_1 : decode cX11_held 1 = .ok (.iload_n 1, 1) := by decide +kernel
theorem dX11_held_2 : decode cX11_held 2 = .ok (.invokevirtual 342, 3) := by decide +kernel
theorem dX11_held_5 : decode cX11_held 5 = .ok (.ifCond .ne 6, 3) := by decide +kernel
theorem dX11_held_8 : decode cX11_held 8 = .ok (.bipush (-2), 2) := by decide +kernel
theorem dX11_held_10 : decode cX11_held 10 = .ok (.ireturn, 1) := by decide +kernel
theorem dX11_held_11 : decode cX11_held 11 = .ok (.iconst 0, 1) := by decide +kernel
theorem dX11_held_12 : decode cX11_held 12 = .ok (.istore_n 2, 1) := by decide +kernel
theorem dX11_held_13 : decode cX11_held 13 = .ok (.iconst 0, 1) := by decide +kernel
theorem dX11_held_14 : decode cX11_held 14 = .ok (.istore_n 3, 1) := by decide +kernel
theorem dX11_held_15 : decode cX11_held 15 = .ok (.iconst 0, 1) := by decide +kernel
theorem dX11_held_16 : decode cX11_held 16 = .ok (.istore 4, 2) := by decide +kernel
theorem dX11_held_18 : decode cX11_held 18 = .ok (.iload 4, 2) := by decide +kernel
theorem dX11_held_20 : decode cX11_held 20 = .ok (.aload_n 0, 1) := by decide +kernel
theorem dX11_held_21 : decode cX11_held 21 = .ok (.invokevirtual 103, 3) := by decide +kernel
theorem dX11_held_24 : decode cX11_held 24 = .ok (.if_icmp .gt 73, 3) := by decide +kernel
theorem dX11_held_27 : decode cX11_held 27 = .ok (.iload 4, 2) := by decide +kernel
theorem dX11_held_29 : decode cX11_held 29 = .ok (.ifCond .le 26, 3) := by decide +kernel
theorem dX11_held_32 : decode cX11_held 32 = .ok (.aload_n 0, 1) := by decide +kernel
theorem dX11_held_33 : decode cX11_held 33 = .ok (.iload_n 1, 1) := by decide +kernel
theorem dX11_held_34 : decode cX11_held 34 = .ok (.iload 4, 2) := by decide +kernel
theorem dX11_held_36 : decode cX11_held 36 = .ok (.invokevirtual 333, 3) := by decide +kernel
theorem dX11_held_39 : decode cX11_held 39 = .ok (.aload_n 0, 1) := by decide +kernel
theorem dX11_held_40 : decode cX11_held 40 = .ok (.iload_n 1, 1) := by decide +kernel
theorem dX11_held_41 : decode cX11_held 41 = .ok (.iload 4, 2) := by decide +kernel
theorem dX11_held_43 : decode cX11_held 43 = .ok (.iconst 1, 1) := by decide +kernel
theorem dX11_held_44 : decode cX11_held 44 = .ok (.isub, 1) := by decide +kernel
theorem dX11_held_45 : decode cX11_held 45 = .ok (.invokevirtual 333, 3) := by decide +kernel
theorem dX11_held_48 : decode cX11_held 48 = .ok (.if_icmp .ne 7, 3) := by decide +kernel
theorem dX11_held_51 : decode cX11_held 51 = .ok (.iconst 1, 1) := by decide +kernel
theorem dX11_held_52 : decode cX11_held 52 = .ok (.goto 4, 3) := by decide +kernel
theorem dX11_held_55 : decode cX11_held 55 = .ok (.iconst 0, 1) := by decide +kernel
theorem dX11_held_56 : decode cX11_held 56 = .ok (.istore 5, 2) := by decide +kernel
theorem dX11_held_58 : decode cX11_held 58 = .ok (.aload_n 0, 1) := by decide +kernel
theorem dX11_held_59 : decode cX11_held 59 = .ok (.iload_n 1, 1) := by decide +kernel
theorem dX11_held_60 : decode cX11_held 60 = .ok (.iload 4, 2) := by decide +kernel
theorem dX11_held_62 : decode cX11_held 62 = .ok (.invokevirtual 333, 3) := by decide +kernel
theorem dX11_held_65 : decode cX11_held 65 = .ok (.ifCond .ne 7, 3) := by decide +kernel
theorem dX11_held_68 : decode cX11_held 68 = .ok (.iconst 0, 1) := by decide +kernel
theorem dX11_held_69 : decode cX11_held 69 = .ok (.goto 15, 3) := by decide +kernel
theorem dX11_held_72 : decode cX11_held 72 = .ok (.iload 5, 2) := by decide +kernel
theorem dX11_held_74 : decode cX11_held 74 = .ok (.ifCond .eq 9, 3) := by decide +kernel
theorem dX11_held_77 : decode cX11_held 77 = .ok (.iload_n 3, 1) := by decide +kernel
theorem dX11_held_78 : decode cX11_held 78 = .ok (.iconst 1, 1) := by decide +kernel
theorem dX11_held_79 : decode cX11_held 79 = .ok (.iadd, 1) := by decide +kernel
theorem dX11_held_80 : decode cX11_held 80 = .ok (.goto 4, 3) := by decide +kernel
theorem dX11_held_83 : decode cX11_held 83 = .ok (.iconst 1, 1) := by decide +kernel
theorem dX11_held_84 : decode cX11_held 84 = .ok (.istore_n 3, 1) := by decide +kernel
theorem dX11_held_85 : decode cX11_held 85 = .ok (.iload_n 2, 1) := by decide +kernel
theorem dX11_held_86 : decode cX11_held 86 = .ok (.iload_n 3, 1) := by decide +kernel
theorem dX11_held_87 : decode cX11_held 87 = .ok (.invokestatic 355, 3) := by decide +kernel
theorem dX11_held_90 : decode cX11_held 90 = .ok (.istore_n 2, 1) := by decide +kernel
theorem dX11_held_91 : decode cX11_held 91 = .ok (.iinc 4 1, 3) := by decide +kernel
theorem dX11_held_94 : decode cX11_held 94 = .ok (.goto (-76), 3) := by decide +kernel
theorem dX11_held_97 : decode cX11_held 97 = .ok (.iload_n 2, 1) := by decide +kernel
theorem dX11_held_98 : decode cX11_held 98 = .ok (.ireturn, 1) := by decide +kernel
theorem dX11_hush_0 : decode cX11_hush 0 = .ok (.aload_n 0, 1) := by decide +kernel
theorem dX11_hush_1 : decode cX11_hush 1 = .ok (.iload_n 1, 1) := by decide +kernel
theorem dX11_hush_2 : decode cX11_hush 2 = .ok (.invokevirtual 330, 3) := by decide +kernel
theorem dX11_hush_5 : decode cX11_hush 5 = .ok (.ifCond .ne 6, 3) := by decide +kernel
theorem dX11_hush_8 : decode cX11_hush 8 = .ok (.bipush (-2), 2) := by decide +kernel
theorem dX11_hush_10 : decode cX11_hush 10 = .ok (.ireturn, 1) := by decide +kernel
theorem dX11_hush_11 : decode cX11_hush 11 = .ok (.aload_n 0, 1) := by decide +kernel
theorem dX11_hush_12 : decode cX11_hush 12 = .ok (.getfield 52, 3) := by decide +kernel
theorem dX11_hush_15 : decode cX11_hush 15 = .ok (.iload_n 1, 1) := by decide +kernel
theorem dX11_hush_16 : decode cX11_hush 16 = .ok (.iaload, 1) := by decide +kernel
theorem dX11_hush_17 : decode cX11_hush 17 = .ok (.aload_n 0, 1) := by decide +kernel
theorem dX11_hush_18 : decode cX11_hush 18 = .ok (.getfield 55, 3) := by decide +kernel
theorem dX11_hush_21 : decode cX11_hush 21 = .ok (.iload_n 1, 1) := by decide +kernel
theorem dX11_hush_22 : decode cX11_hush 22 = .ok (.iaload, 1) := by decide +kernel
theorem dX11_hush_23 : decode cX11_hush 23 = .ok (.ior, 1) := by decide +kernel
theorem dX11_hush_24 : decode cX11_hush 24 = .ok (.istore_n 2, 1) := by decide +kernel
theorem dX11_hush_25 : decode cX11_hush 25 = .ok (.iconst 0, 1) := by decide +kernel
theorem dX11_hush_26 : decode cX11_hush 26 = .ok (.istore_n 3, 1) := by decide +kernel
theorem dX11_hush_27 : decode cX11_hush 27 = .ok (.iconst 0, 1) := by decide +kernel
theorem dX11_hush_28 : decode cX11_hush 28 = .ok (.istore 4, 2) := by decide +kernel
theorem dX11_hush_30 : decode cX11_hush 30 = .ok (.iload 4, 2) := by decide +kernel
theorem dX11_hush_32 : decode cX11_hush 32 = .ok (.aload_n 0, 1) := by decide +kernel
theorem dX11_hush_33 : decode cX11_hush 33 = .ok (.invokevirtual 95, 3) := by decide +kernel
theorem dX11_hush_36 : decode cX11_hush 36 = .ok (.if_icmp .ge 43, 3) := by decide +kernel
theorem dX11_hush_39 : decode cX11_hush 39 = .ok (.iload_n 3, 1) := by decide +kernel
theorem dX11_hush_40 : decode cX11_hush 40 = .ok (.iload_n 2, 1) := by decide +kernel
theorem dX11_hush_41 : decode cX11_hush 41 = .ok (.iconst 1, 1) := by decide +kernel
theorem dX11_hush_42 : decode cX11_hush 42 = .ok (.iload 4, 2) := by decide +kernel
theorem dX11_hush_44 : decode cX11_hush 44 = .ok (.ishl, 1) := by decide +kernel
theorem dX11_hush_45 : decode cX11_hush 45 = .ok (.aload_n 0, 1) := by decide +kernel
theorem dX11_hush_46 : decode cX11_hush 46 = .ok (.iload 4, 2) := by decide +kernel
theorem dX11_hush_48 : decode cX11_hush 48 = .ok (.invokevirtual 252, 3) := by decide +kernel
theorem dX11_hush_51 : decode cX11_hush 51 = .ok (.ior, 1) := by decide +kernel
theorem dX11_hush_52 : decode cX11_hush 52 = .ok (.aload_n 0, 1) := by decide +kernel
theorem dX11_hush_53 : decode cX11_hush 53 = .ok (.iload 4, 2) := by decide +kernel
theorem dX11_hush_55 : decode cX11_hush 55 = .ok (.invokevirtual 255, 3) := by decide +kernel
theorem dX11_hush_58 : decode cX11_hush 58 = .ok (.ior, 1) := by decide +kernel
theorem dX11_hush_59 : decode cX11_hush 59 = .ok (.iand, 1) := by decide +kernel
theorem dX11_hush_60 : decode cX11_hush 60 = .ok (.ifCond .ne 10, 3) := by decide +kernel
theorem dX11_hush_63 : decode cX11_hush 63 = .ok (.iconst 1, 1) := by decide +kernel
theorem dX11_hush_64 : decode cX11_hush 64 = .ok (.iload 4, 2) := by decide +kernel
theorem dX11_hush_66 : decode cX11_hush 66 = .ok (.ishl, 1) := by decide +kernel
theorem dX11_hush_67 : decode cX11_hush 67 = .ok (.goto 4, 3) := by decide +kernel
theorem dX11_hush_70 : decode cX11_hush 70 = .ok (.iconst 0, 1) := by decide +kernel
theorem dX11_hush_71 : decode cX11_hush 71 = .ok (.ior, 1) := by decide +kernel
theorem dX11_hush_72 : decode cX11_hush 72 = .ok (.istore_n 3, 1) := by decide +kernel
theorem dX11_hush_73 : decode cX11_hush 73 = .ok (.iinc 4 1, 3) := by decide +kernel
theorem dX11_hush_76 : decode cX11_hush 76 = .ok (.goto (-46), 3) := by decide +kernel
theorem dX11_hush_79 : decode cX11_hush 79 = .ok (.iload_n 3, 1) := by decide +kernel
theorem dX11_hush_80 : decode cX11_hush 80 = .ok (.aload_n 0, 1) := by decide +kernel
theorem dX11_hush_81 : decode cX11_hush 81 = .ok (.iload_n 1, 1) := by decide +kernel
theorem dX11_hush_82 : decode cX11_hush 82 = .ok (.invokevirtual 324, 3) := by decide +kernel
theorem dX11_hush_85 : decode cX11_hush 85 = .ok (.iand, 1) := by decide +kernel
theorem dX11_hush_86 : decode cX11_hush 86 = .ok (.ireturn, 1) := by decide +kernel
theorem dX11_lonely_0 : decode cX11_lonely 0 = .ok (.aload_n 0, 1) := by decide +kernel
theorem dX11_lonely_1 : decode cX11_lonely 1 = .ok (.iload_n 1, 1) := by decide +kernel
theorem dX11_lonely_2 : decode cX11_lonely 2 = .ok (.invokevirtual 330, 3) := by decide +kernel
theorem dX11_lonely_5 : decode cX11_lonely 5 = .ok (.ifCond .ne 6, 3) := by decide +kernel
theorem dX11_lonely_8 : decode cX11_lonely 8 = .ok (.bipush (-2), 2) := by decide +kernel
theorem dX11_lonely_10 : decode cX11_lonely 10 = .ok (.ireturn, 1) := by decide +kernel
theorem dX11_lonely_11 : decode cX11_lonely 11 = .ok (.iconst 0, 1) := by decide +kernel
theorem dX11_lonely_12 : decode cX11_lonely 12 = .ok (.istore_n 2, 1) := by decide +kernel
theorem dX11_lonely_13 : decode cX11_lonely 13 = .ok (.iconst 0, 1) := by decide +kernel
theorem dX11_lonely_14 : decode cX11_lonely 14 = .ok (.istore_n 3, 1) := by decide +kernel
theorem dX11_lonely_15 : decode cX11_lonely 15 = .ok (.iload_n 3, 1) := by decide +kernel
theorem dX11_lonely_16 : decode cX11_lonely 16 = .ok (.aload_n 0, 1) := by decide +kernel
theorem dX11_lonely_17 : decode cX11_lonely 17 = .ok (.invokevirtual 95, 3) := by decide +kernel
theorem dX11_lonely_20 : decode cX11_lonely 20 = .ok (.if_icmp .ge 72, 3) := by decide +kernel
theorem dX11_lonely_23 : decode cX11_lonely 23 = .ok (.aload_n 0, 1) := by decide +kernel
theorem dX11_lonely_24 : decode cX11_lonely 24 = .ok (.iload_n 3, 1) := by decide +kernel
theorem dX11_lonely_25 : decode cX11_lonely 25 = .ok (.iload_n 1, 1) := by decide +kernel
theorem dX11_lonely_26 : decode cX11_lonely 26 = .ok (.invokevirtual 333, 3) := by decide +kernel
theorem dX11_lonely_29 : decode cX11_lonely 29 = .ok (.iconst 1, 1) := by decide +kernel
theorem dX11_lonely_30 : decode cX11_lonely 30 = .ok (.if_icmp .ne 12, 3) := by decide +kernel
theorem dX11_lonely_33 : decode cX11_lonely 33 = .ok (.aload_n 0, 1) := by decide +kernel
theorem dX11_lonely_34 : decode cX11_lonely 34 = .ok (.getfield 52, 3) := by decide +kernel
theorem dX11_lonely_37 : decode cX11_lonely 37 = .ok (.iload_n 1, 1) := by decide +kernel
theorem dX11_lonely_38 : decode cX11_lonely 38 = .ok (.iaload, 1) := by decide +kernel
theorem dX11_lonely_39 : decode cX11_lonely 39 = .ok (.goto 9, 3) := by decide +kernel
theorem dX11_lonely_42 : decode cX11_lonely 42 = .ok (.aload_n 0, 1) := by decide +kernel
theorem dX11_lonely_43 : decode cX11_lonely 43 = .ok (.getfield 55, 3) := by decide +kernel
theorem dX11_lonely_46 : decode cX11_lonely 46 = .ok (.iload_n 1, 1) := by decide +kernel
theorem dX11_lonely_47 : decode cX11_lonely 47 = .ok (.iaload, 1) := by decide +kernel
theorem dX11_lonely_48 : decode cX11_lonely 48 = .ok (.istore 4, 2) := by decide +kernel
theorem dX11_lonely_50 : decode cX11_lonely 50 = .ok (.iload_n 2, 1) := by decide +kernel
theorem dX11_lonely_51 : decode cX11_lonely 51 = .ok (.aload_n 0, 1) := by decide +kernel
theorem dX11_lonely_52 : decode cX11_lonely 52 = .ok (.iload_n 3, 1) := by decide +kernel
theorem dX11_lonely_53 : decode cX11_lonely 53 = .ok (.iload_n 1, 1) := by decide +kernel
theorem dX11_lonely_54 : decode cX11_lonely 54 = .ok (.invokevirtual 333, 3) := by decide +kernel
theorem dX11_lonely_57 : decode cX11_lonely 57 = .ok (.ifCond .le 26, 3) := by decide +kernel
theorem dX11_lonely_60 : decode cX11_lonely 60 = .ok (.iload 4, 2) := by decide +kernel
theorem dX11_lonely_62 : decode cX11_lonely 62 = .ok (.aload_n 0, 1) := by decide +kernel
theorem dX11_lonely_63 : decode cX11_lonely 63 = .ok (.iload_n 3, 1) := by decide +kernel
theorem dX11_lonely_64 : decode cX11_lonely 64 = .ok (.invokevirtual 252, 3) := by decide +kernel
theorem dX11_lonely_67 : decode cX11_lonely 67 = .ok (.aload_n 0, 1) := by decide +kernel
theorem dX11_lonely_68 : decode cX11_lonely 68 = .ok (.iload_n 3, 1) := by decide +kernel
theorem dX11_lonely_69 : decode cX11_lonely 69 = .ok (.invokevirtual 255, 3) := by decide +kernel
theorem dX11_lonely_72 : decode cX11_lonely 72 = .ok (.ior, 1) := by decide +kernel
theorem dX11_lonely_73 : decode cX11_lonely 73 = .ok (.iand, 1) := by decide +kernel
theorem dX11_lonely_74 : decode cX11_lonely 74 = .ok (.ifCond .ne 9, 3) := by decide +kernel
theorem dX11_lonely_77 : decode cX11_lonely 77 = .ok (.iconst 1, 1) := by decide +kernel
theorem dX11_lonely_78 : decode cX11_lonely 78 = .ok (.iload_n 3, 1) := by decide +kernel
theorem dX11_lonely_79 : decode cX11_lonely 79 = .ok (.ishl, 1) := by decide +kernel
theorem dX11_lonely_80 : decode cX11_lonely 80 = .ok (.goto 4, 3) := by decide +kernel
theorem dX11_lonely_83 : decode cX11_lonely 83 = .ok (.iconst 0, 1) := by decide +kernel
theorem dX11_lonely_84 : decode cX11_lonely 84 = .ok (.ior, 1) := by decide +kernel
theorem dX11_lonely_85 : decode cX11_lonely 85 = .ok (.istore_n 2, 1) := by decide +kernel
theorem dX11_lonely_86 : decode cX11_lonely 86 = .ok (.iinc 3 1, 3) := by decide +kernel
theorem dX11_lonely_89 : decode cX11_lonely 89 = .ok (.goto (-74), 3) := by decide +kernel
theorem dX11_lonely_92 : decode cX11_lonely 92 = .ok (.iload_n 2, 1) := by decide +kernel
theorem dX11_lonely_93 : decode cX11_lonely 93 = .ok (.ireturn, 1) := by decide +kernel
theorem dX11_quarrels_0 : decode cX11_quarrels 0 = .ok (.aload_n 0, 1) := by decide +kernel
theorem dX11_quarrels_1 : decode cX11_quarrels 1 = .ok (.iload_n 1, 1) := by decide +kernel
theorem dX11_quarrels_2 : decode cX11_quarrels 2 = .ok (.invokevirtual 330, 3) := by decide +kernel
theorem dX11_quarrels_5 : decode cX11_quarrels 5 = .ok (.ifCond .ne 6, 3) := by decide +kernel
theorem dX11_quarrels_8 : decode cX11_quarrels 8 = .ok (.bipush (-2), 2) := by decide +kernel
theorem dX11_quarrels_10 : decode cX11_quarrels 10 = .ok (.ireturn, 1) := by decide +kernel
theorem dX11_quarrels_11 : decode cX11_quarrels 11 = .ok (.iconst 0, 1) := by decide +kernel
theorem dX11_quarrels_12 : decode cX11_quarrels 12 = .ok (.istore_n 2, 1) := by decide +kernel
theorem dX11_quarrels_13 : decode cX11_quarrels 13 = .ok (.iconst 0, 1) := by decide +kernel
theorem dX11_quarrels_14 : decode cX11_quarrels 14 = .ok (.istore_n 3, 1) := by decide +kernel
theorem dX11_quarrels_15 : decode cX11_quarrels 15 = .ok (.iload_n 3, 1) := by decide +kernel
theorem dX11_quarrels_16 : decode cX11_quarrels 16 = .ok (.aload_n 0, 1) := by decide +kernel
theorem dX11_quarrels_17 : decode cX11_quarrels 17 = .ok (.invokevirtual 95, 3) := by decide +kernel
theorem dX11_quarrels_20 : decode cX11_quarrels 20 = .ok (.if_icmp .ge 43, 3) := by decide +kernel
theorem dX11_quarrels_23 : decode cX11_quarrels 23 = .ok (.aload_n 0, 1) := by decide +kernel
theorem dX11_quarrels_24 : decode cX11_quarrels 24 = .ok (.iload_n 3, 1) := by decide +kernel
theorem dX11_quarrels_25 : decode cX11_quarrels 25 = .ok (.iload_n 1, 1) := by decide +kernel
theorem dX11_quarrels_26 : decode cX11_quarrels 26 = .ok (.invokevirtual 333, 3) := by decide +kernel
theorem dX11_quarrels_29 : decode cX11_quarrels 29 = .ok (.iconst 1, 1) := by decide +kernel
theorem dX11_quarrels_30 : decode cX11_quarrels 30 = .ok (.if_icmp .ne 27, 3) := by decide +kernel
theorem dX11_quarrels_33 : decode cX11_quarrels 33 = .ok (.iload_n 2, 1) := by decide +kernel
theorem dX11_quarrels_34 : decode cX11_quarrels 34 = .ok (.aload_n 0, 1) := by decide +kernel
theorem dX11_quarrels_35 : decode cX11_quarrels 35 = .ok (.getfield 55, 3) := by decide +kernel
theorem dX11_quarrels_38 : decode cX11_quarrels 38 = .ok (.iload_n 1, 1) := by decide +kernel
theorem dX11_quarrels_39 : decode cX11_quarrels 39 = .ok (.iaload, 1) := by decide +kernel
theorem dX11_quarrels_40 : decode cX11_quarrels 40 = .ok (.aload_n 0, 1) := by decide +kernel
theorem dX11_quarrels_41 : decode cX11_quarrels 41 = .ok (.iload_n 3, 1) := by decide +kernel
theorem dX11_quarrels_42 : decode cX11_quarrels 42 = .ok (.invokevirtual 252, 3) := by decide +kernel
theorem dX11_quarrels_45 : decode cX11_quarrels 45 = .ok (.aload_n 0, 1) := by decide +kernel
theorem dX11_quarrels_46 : decode cX11_quarrels 46 = .ok (.iload_n 3, 1) := by decide +kernel
theorem dX11_quarrels_47 : decode cX11_quarrels 47 = .ok (.invokevirtual 255, 3) := by decide +kernel
theorem dX11_quarrels_50 : decode cX11_quarrels 50 = .ok (.ior, 1) := by decide +kernel
theorem dX11_quarrels_51 : decode cX11_quarrels 51 = .ok (.iand, 1) := by decide +kernel
theorem dX11_quarrels_52 : decode cX11_quarrels 52 = .ok (.invokestatic 296, 3) := by decide +kernel
theorem dX11_quarrels_55 : decode cX11_quarrels 55 = .ok (.iadd, 1) := by decide +kernel
theorem dX11_quarrels_56 : decode cX11_quarrels 56 = .ok (.istore_n 2, 1) := by decide +kernel
theorem dX11_quarrels_57 : decode cX11_quarrels 57 = .ok (.iinc 3 1, 3) := by decide +kernel
theorem dX11_quarrels_60 : decode cX11_quarrels 60 = .ok (.goto (-45), 3) := by decide +kernel
theorem dX11_quarrels_63 : decode cX11_quarrels 63 = .ok (.iload_n 2, 1) := by decide +kernel
theorem dX11_quarrels_64 : decode cX11_quarrels 64 = .ok (.ireturn, 1) := by decide +kernel
theorem dX11_never_0 : decode cX11_never 0 = .ok (.aload_n 0, 1) := by decide +kernel
theorem dX11_never_1 : decode cX11_never 1 = .ok (.invokevirtual 315, 3) := by decide +kernel
theorem dX11_never_4 : decode cX11_never 4 = .ok (.ifCond .eq 11, 3) := by decide +kernel
theorem dX11_never_7 : decode cX11_never 7 = .ok (.iload_n 1, 1) := by decide +kernel
theorem dX11_never_8 : decode cX11_never 8 = .ok (.i2l, 1) := by decide +kernel
theorem dX11_never_9 : decode cX11_never 9 = .ok (.invokestatic 348, 3) := by decide +kernel
theorem dX11_never_12 : decode cX11_never 12 = .ok (.ifCond .ne 6, 3) := by decide +kernel
theorem dX11_never_15 : decode cX11_never 15 = .ok (.bipush (-2), 2) := by decide +kernel
theorem dX11_never_17 : decode cX11_never 17 = .ok (.ireturn, 1) := by decide +kernel
theorem dX11_never_18 : decode cX11_never 18 = .ok (.iconst 0, 1) := by decide +kernel
theorem dX11_never_19 : decode cX11_never 19 = .ok (.istore_n 2, 1) := by decide +kernel
theorem dX11_never_20 : decode cX11_never 20 = .ok (.iconst 0, 1) := by decide +kernel
theorem dX11_never_21 : decode cX11_never 21 = .ok (.istore_n 3, 1) := by decide +kernel
theorem dX11_never_22 : decode cX11_never 22 = .ok (.iload_n 3, 1) := by decide +kernel
theorem dX11_never_23 : decode cX11_never 23 = .ok (.aload_n 0, 1) := by decide +kernel
theorem dX11_never_24 : decode cX11_never 24 = .ok (.invokevirtual 103, 3) := by decide +kernel
theorem dX11_never_27 : decode cX11_never 27 = .ok (.if_icmp .gt 18, 3) := by decide +kernel
theorem dX11_never_30 : decode cX11_never 30 = .ok (.iload_n 2, 1) := by decide +kernel
theorem dX11_never_31 : decode cX11_never 31 = .ok (.aload_n 0, 1) := by decide +kernel
theorem dX11_never_32 : decode cX11_never 32 = .ok (.iload_n 1, 1) := by decide +kernel
theorem dX11_never_33 : decode cX11_never 33 = .ok (.iload_n 3, 1) := by decide +kernel
theorem dX11_never_34 : decode cX11_never 34 = .ok (.invokevirtual 327, 3) := by decide +kernel
theorem dX11_never_37 : decode cX11_never 37 = .ok (.ior, 1) := by decide +kernel
theorem dX11_never_38 : decode cX11_never 38 = .ok (.istore_n 2, 1) := by decide +kernel
theorem dX11_never_39 : decode cX11_never 39 = .ok (.iinc 3 1, 3) := by decide +kernel
theorem dX11_never_42 : decode cX11_never 42 = .ok (.goto (-20), 3) := by decide +kernel
theorem dX11_never_45 : decode cX11_never 45 = .ok (.aload_n 0, 1) := by decide +kernel
theorem dX11_never_46 : decode cX11_never 46 = .ok (.invokevirtual 321, 3) := by decide +kernel
theorem dX11_never_49 : decode cX11_never 49 = .ok (.iload_n 2, 1) := by decide +kernel
theorem dX11_never_50 : decode cX11_never 50 = .ok (.iconst (-1), 1) := by decide +kernel
theorem dX11_never_51 : decode cX11_never 51 = .ok (.ixor, 1) := by decide +kernel
theorem dX11_never_52 : decode cX11_never 52 = .ok (.iand, 1) := by decide +kernel
theorem dX11_never_53 : decode cX11_never 53 = .ok (.ireturn, 1) := by decide +kernel
theorem dX11_most_0 : decode cX11_most 0 = .ok (.aload_n 0, 1) := by decide +kernel
theorem dX11_most_1 : decode cX11_most 1 = .ok (.invokevirtual 315, 3) := by decide +kernel
theorem dX11_most_4 : decode cX11_most 4 = .ok (.ifCond .eq 11, 3) := by decide +kernel
theorem dX11_most_7 : decode cX11_most 7 = .ok (.iload_n 1, 1) := by decide +kernel
theorem dX11_most_8 : decode cX11_most 8 = .ok (.i2l, 1) := by decide +kernel
theorem dX11_most_9 : decode cX11_most 9 = .ok (.invokestatic 348, 3) := by decide +kernel
theorem dX11_most_12 : decode cX11_most 12 = .ok (.ifCond .ne 6, 3) := by decide +kernel
theorem dX11_most_15 : decode cX11_most 15 = .ok (.bipush (-2), 2) := by decide +kernel
theorem dX11_most_17 : decode cX11_most 17 = .ok (.ireturn, 1) := by decide +kernel
theorem dX11_most_18 : decode cX11_most 18 = .ok (.iconst 0, 1) := by decide +kernel
theorem dX11_most_19 : decode cX11_most 19 = .ok (.istore_n 2, 1) := by decide +kernel
theorem dX11_most_20 : decode cX11_most 20 = .ok (.iconst 1, 1) := by decide +kernel
theorem dX11_most_21 : decode cX11_most 21 = .ok (.istore_n 3, 1) := by decide +kernel
theorem dX11_most_22 : decode cX11_most 22 = .ok (.iload_n 3, 1) := by decide +kernel
theorem dX11_most_23 : decode cX11_most 23 = .ok (.aload_n 0, 1) := by decide +kernel
theorem dX11_most_24 : decode cX11_most 24 = .ok (.invokevirtual 103, 3) := by decide +kernel
theorem dX11_most_27 : decode cX11_most 27 = .ok (.if_icmp .gt 36, 3) := by decide +kernel
theorem dX11_most_30 : decode cX11_most 30 = .ok (.aload_n 0, 1) := by decide +kernel
theorem dX11_most_31 : decode cX11_most 31 = .ok (.iload_n 1, 1) := by decide +kernel
theorem dX11_most_32 : decode cX11_most 32 = .ok (.iload_n 3, 1) := by decide +kernel
theorem dX11_most_33 : decode cX11_most 33 = .ok (.invokevirtual 327, 3) := by decide +kernel
theorem dX11_most_36 : decode cX11_most 36 = .ok (.invokestatic 296, 3) := by decide +kernel
theorem dX11_most_39 : decode cX11_most 39 = .ok (.aload_n 0, 1) := by decide +kernel
theorem dX11_most_40 : decode cX11_most 40 = .ok (.iload_n 1, 1) := by decide +kernel
theorem dX11_most_41 : decode cX11_most 41 = .ok (.iload_n 2, 1) := by decide +kernel
theorem dX11_most_42 : decode cX11_most 42 = .ok (.invokevirtual 327, 3) := by decide +kernel
theorem dX11_most_45 : decode cX11_most 45 = .ok (.invokestatic 296, 3) := by decide +kernel
theorem dX11_most_48 : decode cX11_most 48 = .ok (.if_icmp .le 7, 3) := by decide +kernel
theorem dX11_most_51 : decode cX11_most 51 = .ok (.iload_n 3, 1) := by decide +kernel
theorem dX11_most_52 : decode cX11_most 52 = .ok (.goto 4, 3) := by decide +kernel
theorem dX11_most_55 : decode cX11_most 55 = .ok (.iload_n 2, 1) := by decide +kernel
theorem dX11_most_56 : decode cX11_most 56 = .ok (.istore_n 2, 1) := by decide +kernel
theorem dX11_most_57 : decode cX11_most 57 = .ok (.iinc 3 1, 3) := by decide +kernel
theorem dX11_most_60 : decode cX11_most 60 = .ok (.goto (-38), 3) := by decide +kernel
theorem dX11_most_63 : decode cX11_most 63 = .ok (.iload_n 2, 1) := by decide +kernel
theorem dX11_most_64 : decode cX11_most 64 = .ok (.ireturn, 1) := by decide +kernel
set_option maxHeartbeats 4000000 in
set_option maxRecDepth 100000 in
theorem ctX11_head (l : Launch) (D : va_G) (k : Nat → ClassId) (z : Nat → Nat) (n : Nat → Nat) (mthrown : Int32) (mtaped : Nat) (msize : Nat) (mat : Nat) (mfrom : Nat) (mtoken : Int32) (mvalue : Int32) (mfaultKind : Int32) (mfaultPlace : Int32) (mmoreMany : Nat) (mlawNow : Int32) (mwetSet : Int32) (moverAll : Int32) (mones : Int32) (mtwos : Int32) (mgone : Int32) (mroundNow : Int32) (msampleFor : Int64) (msampleAll : Int64) (maskWorst : Int32) (moftenAll : Int64) (moftenView : Int64) (moftenOnes : Int64) (fworld : Nat → Int32) (frowOf : Nat → Int32) (fplaceOf : Nat → Int32) (ffirstOf : Nat → Int32) (p0 : Int32) (p1 : Int32) (hmtaped : mtaped ≤ 600) (hmsize : msize ≤ 600) (hmat : mat ≤ 600) (hmfrom : mfrom ≤ 600) (hmmoreMany : mmoreMany ≤ 14) (hkworld : okW fworld) : MU l yX11_head cX11_head 3 (some .int) 2 D k z [.ref (n 0), .int p0, .int p1] [((n 0), .inr (11, [.int mthrown, .ref (n 1), .ref (n 2), .ref (n 3), .ref (n 4), .int (nI mtaped), .ref (n 5), .int (nI msize), .int (nI mat), .int (nI mfrom), .int mtoken, .int mvalue, .int mfaultKind, .int mfaultPlace, .ref (n 6), .ref (n 7), .ref (n 8), .ref (n 9), .ref (n 10), .ref (n 11), .ref (n 12), .int (nI mmoreMany), .int mlawNow, .int mwetSet, .int moverAll, .ref (n 13), .ref (n 14), .ref (n 15), .int mones, .int mtwos, .int mgone, .ref (n 16), .ref (n 17), .int mroundNow, .ref (n 18), .long msampleFor, .long msampleAll, .ref (n 19), .int maskWorst, .long moftenAll, .long moftenView, .long moftenOnes, .ref (n 20), .ref (n 21), .ref (n 22), .ref (n 23)])), ((n 1), .inl (k 0, 99, .inl fworld)), ((n 7), .inl (k 0, 12, .inl frowOf)), ((n 8), .inl (k 0, 12, .inl fplaceOf)), ((n 9), .inl (k 0, 4, .inl ffirstOf))] 0 0 (Ui D (fun (r : Int32) (u : (Nat → Int32) × (Nat → Nat) × (Nat → Nat → Int32) × (Nat → Nat → Int64) × (Nat → Int64)) => True) (fun u : (Nat → Int32) × (Nat → Nat) × (Nat → Nat → Int32) × (Nat → Nat → Int64) × (Nat → Int64) => [((n 0), .inr (11, [.int mthrown, .ref (n 1), .ref (n 2), .ref (n 3), .ref (n 4), .int (nI mtaped), .ref (n 5), .int (nI msize), .int (nI mat), .int (nI mfrom), .int mtoken, .int mvalue, .int mfaultKind, .int mfaultPlace, .ref (n 6), .ref (n 7), .ref (n 8), .ref (n 9), .ref (n 10), .ref (n 11), .ref (n 12), .int (nI mmoreMany), .int mlawNow, .int mwetSet, .int moverAll, .ref (n 13), .ref (n 14), .ref (n 15), .int mones, .int mtwos, .int mgone, .ref (n 16), .ref (n 17), .int mroundNow, .ref (n 18), .long msampleFor, .long msampleAll, .ref (n 19), .int maskWorst, .long moftenAll, .long moftenView, .long moftenOnes, .ref (n 20), .ref (n 21), .ref (n 22), .ref (n 23)])), ((n 1), .inl (k 0, 99, .inl fworld)), ((n 7), .inl (k 0, 12, .inl (u.2.2.1 0))), ((n 8), .inl (k 0, 12, .inl (u.2.2.1 1))), ((n 9), .inl (k 0, 4, .inl (u.2.2.1 2)))])) := by
  refine MU.of (by decide) (Nat.le_of_ble_eq_true rfl) ?_
  intro p e s m below meth c ls A args Q S hr hlk hnm hQ hK hP hD hZ hA hS hl
  have hx := S.1
  have hb := S.2.1
  have hl : lv_has ls 3 [(0, .ref (n 0)), (1, .int p0), (2, .int p1)] := hl
  have hbfworld := okW_bd hkworld
  refine lv_aload_n hx hb dX11_head_0 rfl (lv_at hl 0 rfl) ?_
  refine lv_iload_n hx hb dX11_head_1 rfl (lv_at hl 1 rfl) ?_
  refine lv_i2l (v := p0.toInt64) hx hb dX11_head_2 rfl ?_
  refine x_roVi (As := [.long p0.toInt64]) S hK hP hD hZ (fun _ h => h) hA hS hA hl mwX11_isHead lkX11_237 (ctX11_isHead_i l D k z n mthrown mtaped msize mat mfrom mtoken mvalue mfaultKind mfaultPlace mmoreMany mlawNow mwetSet moverAll mones mtwos mgone mroundNow msampleFor msampleAll maskWorst moftenAll moftenView moftenOnes fworld p0 (by omega) (by omega) (by omega) (by omega) (by omega) (hkworld)) [0, 1] rfl (by decide) rfl rfl rfl rfl rfl ⟨Nat.le_of_ble_eq_true rfl, Nat.le_of_ble_eq_true rfl, Nat.le_of_ble_eq_true rfl⟩ dX11_head_3 ⟨Nat.le_of_ble_eq_true rfl, Nat.le_of_ble_eq_true rfl⟩ (fun r_1 H locs hr_1 hP hS => ?_)
  obtain ⟨hp_3, hz_4⟩ := hr_1
  refine lv_if_eq (tgt := 21) hx hb dX11_head_6 (by decide) (fun c_5 => ?_) (fun c_5 => ?_)
  · skip
    refine lv_bipush (v := (-2)) hx hb dX11_head_21 (by decide) ?_
    exact x_reti S hr hlk hQ hS ((fun i => ([] : List (Int32)).getD i 0), (fun i => ([] : List (Nat)).getD i 0), (fun i => ([frowOf, fplaceOf, ffirstOf] : List (Nat → Int32)).getD i (fun _ => 0)), (fun i => ([] : List (Nat → Int64)).getD i (fun _ => 0)), (fun i => ([] : List (Int64)).getD i 0)) trivial (x_B hP hD) dX11_head_23
  · skip
    obtain ⟨n_6, rfl, hn_6⟩ := hp_3.resolve_left c_5
    refine lv_iload_n hx hb dX11_head_9 rfl (lv_at hl 2 rfl) ?_
    refine lv_i2l (v := p1.toInt64) hx hb dX11_head_10 rfl ?_
    refine lv_lconst (v := 0) hx hb dX11_head_11 (by decide) ?_
    refine lv_ldc2 hx hb S.2.2.2.1 (S.2.2.2.2 _ lkX11_241) dX11_head_12 ?_
    refine x_roSi (As := [.long p1.toInt64, .long 0, .long 3]) S hK hP hD hZ (fun _ h => h) hA hS hA hl mwX11_in lkX11_91 (ctX11_in l D k z p1.toInt64 0 3 ) [] rfl (by decide) rfl rfl ⟨Nat.le_of_ble_eq_true rfl, Nat.le_of_ble_eq_true rfl, Nat.le_of_ble_eq_true rfl⟩ dX11_head_15 ⟨Nat.le_of_ble_eq_true rfl, Nat.le_of_ble_eq_true rfl⟩ (fun r_7 H locs hr_7 hP hS => ?_)
    obtain rfl := hr_7
    refine lv_if_ne (tgt := 24) hx hb dX11_head_18 (by decide) (fun c_9 => ?_) (fun c_9 => ?_)
    · skip
      have c_9 : 0 ≤ p1.toInt64 ∧ p1.toInt64 ≤ 3 := bo_1.mp c_9
      refine lv_aload_n hx hb dX11_head_24 rfl (lv_at hl 0 rfl) ?_
      refine x_muVv (wr := []) (As := []) S hK hP hD hZ hS hA hl mwX11_layRows lkX11_243 (ctX11_layRows l D k z n mthrown mtaped msize mat mfrom mtoken mvalue mfaultKind mfaultPlace mmoreMany mlawNow mwetSet moverAll mones mtwos mgone mroundNow msampleFor msampleAll maskWorst moftenAll moftenView moftenOnes fworld frowOf fplaceOf ffirstOf (by omega) (by omega) (by omega) (by omega) (by omega) (hkworld)) [0, 1, 2, 3, 4] [] rfl rfl (by decide) (by decide) (by decide) rfl rfl rfl rfl rfl ⟨Nat.le_of_ble_eq_true rfl, Nat.le_of_ble_eq_true rfl, Nat.le_of_ble_eq_true rfl⟩ dX11_head_25 ⟨Nat.le_of_ble_eq_true rfl, Nat.le_of_ble_eq_true rfl⟩ (fun u_11 H locs hr_10 hP hD hS => ?_)
      have hP : va_P D vwCl [((n 0), .inr (11, [.int mthrown, .ref (n 1), .ref (n 2), .ref (n 3), .ref (n 4), .int (nI mtaped), .ref (n 5), .int (nI msize), .int (nI mat), .int (nI mfrom), .int mtoken, .int mvalue, .int mfaultKind, .int mfaultPlace, .ref (n 6), .ref (n 7), .ref (n 8), .ref (n 9), .ref (n 10), .ref (n 11), .ref (n 12), .int (nI mmoreMany), .int mlawNow, .int mwetSet, .int moverAll, .ref (n 13), .ref (n 14), .ref (n 15), .int mones, .int mtwos, .int mgone, .ref (n 16), .ref (n 17), .int mroundNow, .ref (n 18), .long msampleFor, .long msampleAll, .ref (n 19), .int maskWorst, .long moftenAll, .long moftenView, .long moftenOnes, .ref (n 20), .ref (n 21), .ref (n 22), .ref (n 23)])), ((n 1), .inl (k 0, 99, .inl fworld)), ((n 7), .inl (k 0, 12, .inl (u_11.2.2.1 0))), ((n 8), .inl (k 0, 12, .inl (u_11.2.2.1 1))), ((n 9), .inl (k 0, 4, .inl (u_11.2.2.1 2)))] H := hP.sub [0, 1, 2, 3, 4] rfl
      have hD : va_D A [((n 0), .inr (11, [.int mthrown, .ref (n 1), .ref (n 2), .ref (n 3), .ref (n 4), .int (nI mtaped), .ref (n 5), .int (nI msize), .int (nI mat), .int (nI mfrom), .int mtoken, .int mvalue, .int mfaultKind, .int mfaultPlace, .ref (n 6), .ref (n 7), .ref (n 8), .ref (n 9), .ref (n 10), .ref (n 11), .ref (n 12), .int (nI mmoreMany), .int mlawNow, .int mwetSet, .int moverAll, .ref (n 13), .ref (n 14), .ref (n 15), .int mones, .int mtwos, .int mgone, .ref (n 16), .ref (n 17), .int mroundNow, .ref (n 18), .long msampleFor, .long msampleAll, .ref (n 19), .int maskWorst, .long moftenAll, .long moftenView, .long moftenOnes, .ref (n 20), .ref (n 21), .ref (n 22), .ref (n 23)])), ((n 1), .inl (k 0, 99, .inl fworld)), ((n 7), .inl (k 0, 12, .inl (u_11.2.2.1 0))), ((n 8), .inl (k 0, 12, .inl (u_11.2.2.1 1))), ((n 9), .inl (k 0, 4, .inl (u_11.2.2.1 2)))] := hD.sub [0, 1, 2, 3, 4] (by decide) rfl
      refine lv_iload_n hx hb dX11_head_28 rfl (lv_at hl 2 rfl) ?_
      refine lv_if_ne (tgt := 40) hx hb dX11_head_29 (by decide) (fun c_12 => ?_) (fun c_12 => ?_)
      · skip
        refine lv_iload_n hx hb dX11_head_40 rfl (lv_at hl 2 rfl) ?_
        refine lv_iconst (v := 1) hx hb dX11_head_41 (by decide) ?_
        refine lv_icmp_ne (tgt := 53) hx hb dX11_head_42 (by decide) (fun c_13 => ?_) (fun c_13 => ?_)
        · skip
          refine lv_iload_n hx hb dX11_head_53 rfl (lv_at hl 2 rfl) ?_
          refine lv_iconst (v := 2) hx hb dX11_head_54 (by decide) ?_
          refine lv_icmp_ne (tgt := 67) hx hb dX11_head_55 (by decide) (fun c_14 => ?_) (fun c_14 => ?_)
          · skip
            refine lv_aload_n hx hb dX11_head_67 rfl (lv_at hl 0 rfl) ?_
            refine x_get S hK hP 0 rfl cfX11 16 lkX11_37 (by decide) rfl dX11_head_68 ?_
            refine lv_iload_n hx hb dX11_head_71 rfl (lv_at hl 1 rfl) ?_
            refine x_iald S hK hP 3 rfl (vp_in_nI (by omega) (by decide)) dX11_head_72 ?_
            refine lv_topi (fun v_15 ev_15 => ?_)
            exact x_reti S hr hlk hQ hS ((fun i => ([] : List (Int32)).getD i 0), (fun i => ([] : List (Nat)).getD i 0), (fun i => ([(u_11.2.2.1 0), (u_11.2.2.1 1), (u_11.2.2.1 2)] : List (Nat → Int32)).getD i (fun _ => 0)), (fun i => ([] : List (Nat → Int64)).getD i (fun _ => 0)), (fun i => ([] : List (Int64)).getD i 0)) trivial (x_B hP hD) dX11_head_73
          · skip
            refine lv_aload_n hx hb dX11_head_58 rfl (lv_at hl 0 rfl) ?_
            refine x_get S hK hP 0 rfl cfX11 15 lkX11_34 (by decide) rfl dX11_head_59 ?_
            refine lv_iload_n hx hb dX11_head_62 rfl (lv_at hl 1 rfl) ?_
            refine x_iald S hK hP 2 rfl (vp_in_nI (by omega) (by decide)) dX11_head_63 ?_
            refine lv_topi (fun v_16 ev_16 => ?_)
            refine lv_goto (tgt := 73) hx hb dX11_head_64 (by decide) ?_
            exact x_reti S hr hlk hQ hS ((fun i => ([] : List (Int32)).getD i 0), (fun i => ([] : List (Nat)).getD i 0), (fun i => ([(u_11.2.2.1 0), (u_11.2.2.1 1), (u_11.2.2.1 2)] : List (Nat → Int32)).getD i (fun _ => 0)), (fun i => ([] : List (Nat → Int64)).getD i (fun _ => 0)), (fun i => ([] : List (Int64)).getD i 0)) trivial (x_B hP hD) dX11_head_73
        · skip
          refine lv_aload_n hx hb dX11_head_45 rfl (lv_at hl 0 rfl) ?_
          refine lv_iload_n hx hb dX11_head_46 rfl (lv_at hl 1 rfl) ?_
          refine x_roVi (As := [.int (nI n_6)]) S hK hP hD hZ (fun _ h => h) hA hS hA hl mwX11_holdsOf lkX11_249 (ctX11_holdsOf l D k z n mthrown mtaped msize mat mfrom mtoken mvalue mfaultKind mfaultPlace mmoreMany mlawNow mwetSet moverAll mones mtwos mgone mroundNow msampleFor msampleAll maskWorst moftenAll moftenView moftenOnes fworld n_6 (by omega) (by omega) (by omega) (by omega) (by omega) (hkworld) (by omega)) [0, 1] rfl (by decide) rfl rfl rfl rfl rfl ⟨Nat.le_of_ble_eq_true rfl, Nat.le_of_ble_eq_true rfl, Nat.le_of_ble_eq_true rfl⟩ dX11_head_47 ⟨Nat.le_of_ble_eq_true rfl, Nat.le_of_ble_eq_true rfl⟩ (fun r_17 H locs hr_17 hP hS => ?_)
          refine lv_goto (tgt := 73) hx hb dX11_head_50 (by decide) ?_
          exact x_reti S hr hlk hQ hS ((fun i => ([] : List (Int32)).getD i 0), (fun i => ([] : List (Nat)).getD i 0), (fun i => ([(u_11.2.2.1 0), (u_11.2.2.1 1), (u_11.2.2.1 2)] : List (Nat → Int32)).getD i (fun _ => 0)), (fun i => ([] : List (Nat → Int64)).getD i (fun _ => 0)), (fun i => ([] : List (Int64)).getD i 0)) trivial (x_B hP hD) dX11_head_73
      · skip
        refine lv_aload_n hx hb dX11_head_32 rfl (lv_at hl 0 rfl) ?_
        refine lv_iload_n hx hb dX11_head_33 rfl (lv_at hl 1 rfl) ?_
        refine x_roVi (As := [.int (nI n_6)]) S hK hP hD hZ (fun _ h => h) hA hS hA hl mwX11_hardOf lkX11_246 (ctX11_hardOf l D k z n mthrown mtaped msize mat mfrom mtoken mvalue mfaultKind mfaultPlace mmoreMany mlawNow mwetSet moverAll mones mtwos mgone mroundNow msampleFor msampleAll maskWorst moftenAll moftenView moftenOnes fworld n_6 (by omega) (by omega) (by omega) (by omega) (by omega) (hkworld) (by omega)) [0, 1] rfl (by decide) rfl rfl rfl rfl rfl ⟨Nat.le_of_ble_eq_true rfl, Nat.le_of_ble_eq_true rfl, Nat.le_of_ble_eq_true rfl⟩ dX11_head_34 ⟨Nat.le_of_ble_eq_true rfl, Nat.le_of_ble_eq_true rfl⟩ (fun r_19 H locs hr_19 hP hS => ?_)
        refine lv_goto (tgt := 73) hx hb dX11_head_37 (by decide) ?_
        exact x_reti S hr hlk hQ hS ((fun i => ([] : List (Int32)).getD i 0), (fun i => ([] : List (Nat)).getD i 0), (fun i => ([(u_11.2.2.1 0), (u_11.2.2.1 1), (u_11.2.2.1 2)] : List (Nat → Int32)).getD i (fun _ => 0)), (fun i => ([] : List (Nat → Int64)).getD i (fun _ => 0)), (fun i => ([] : List (Int64)).getD i 0)) trivial (x_B hP hD) dX11_head_73
    · skip
      have c_9 : ¬ (0 ≤ p1.toInt64 ∧ p1.toInt64 ≤ 3) := bo_0.mp c_9
      refine lv_bipush (v := (-2)) hx hb dX11_head_21 (by decide) ?_
      exact x_reti S hr hlk hQ hS ((fun i => ([] : List (Int32)).getD i 0), (fun i => ([] : List (Nat)).getD i 0), (fun i => ([frowOf, fplaceOf, ffirstOf] : List (Nat → Int32)).getD i (fun _ => 0)), (fun i => ([] : List (Nat → Int64)).getD i (fun _ => 0)), (fun i => ([] : List (Int64)).getD i 0)) trivial (x_B hP hD) dX11_head_23

set_option maxHeartbeats 4000000 in
set_option maxRecDepth 100000 in
theorem ctX11_near (l : Launch) (D : va_G) (k : Nat → ClassId) (z : Nat → Nat) (n : Nat → Nat) (mthrown : Int32) (mtaped : Nat) (msize : Nat) (mat : Nat) (mfrom : Nat) (mtoken : Int32) (mvalue : Int32) (mfaultKind : Int32) (mfaultPlace : Int32) (mmoreMany : Nat) (mlawNow : Int32) (mwetSet : Int32) (moverAll : Int32) (mones : Int32) (mtwos : Int32) (mgone : Int32) (mroundNow : Int32) (msampleFor : Int64) (msampleAll : Int64) (maskWorst : Int32) (moftenAll : Int64) (moftenView : Int64) (moftenOnes : Int64) (fworld : Nat → Int32) (frowOf : Nat → Int32) (fplaceOf : Nat → Int32) (ffirstOf : Nat → Int32) (p0 : Int32) (hmtaped : mtaped ≤ 600) (hmsize : msize ≤ 600) (hmat : mat ≤ 600) (hmfrom : mfrom ≤ 600) (hmmoreMany : mmoreMany ≤ 14) (hkworld : okW fworld) : MU l yX11_near cX11_near 2 (some .int) 4 D k z [.ref (n 0), .int p0] [((n 0), .inr (11, [.int mthrown, .ref (n 1), .ref (n 2), .ref (n 3), .ref (n 4), .int (nI mtaped), .ref (n 5), .int (nI msize), .int (nI mat), .int (nI mfrom), .int mtoken, .int mvalue, .int mfaultKind, .int mfaultPlace, .ref (n 6), .ref (n 7), .ref (n 8), .ref (n 9), .ref (n 10), .ref (n 11), .ref (n 12), .int (nI mmoreMany), .int mlawNow, .int mwetSet, .int moverAll, .ref (n 13), .ref (n 14), .ref (n 15), .int mones, .int mtwos, .int mgone, .ref (n 16), .ref (n 17), .int mroundNow, .ref (n 18), .long msampleFor, .long msampleAll, .ref (n 19), .int maskWorst, .long moftenAll, .long moftenView, .long moftenOnes, .ref (n 20), .ref (n 21), .ref (n 22), .ref (n 23)])), ((n 1), .inl (k 0, 99, .inl fworld)), ((n 7), .inl (k 0, 12, .inl frowOf)), ((n 8), .inl (k 0, 12, .inl fplaceOf)), ((n 9), .inl (k 0, 4, .inl ffirstOf))] 0 0 (Ui D (fun (r : Int32) (u : (Nat → Int32) × (Nat → Nat) × (Nat → Nat → Int32) × (Nat → Nat → Int64) × (Nat → Int64)) => True) (fun u : (Nat → Int32) × (Nat → Nat) × (Nat → Nat → Int32) × (Nat → Nat → Int64) × (Nat → Int64) => [((n 0), .inr (11, [.int mthrown, .ref (n 1), .ref (n 2), .ref (n 3), .ref (n 4), .int (nI mtaped), .ref (n 5), .int (nI msize), .int (nI mat), .int (nI mfrom), .int mtoken, .int mvalue, .int mfaultKind, .int mfaultPlace, .ref (n 6), .ref (n 7), .ref (n 8), .ref (n 9), .ref (n 10), .ref (n 11), .ref (n 12), .int (nI mmoreMany), .int mlawNow, .int mwetSet, .int moverAll, .ref (n 13), .ref (n 14), .ref (n 15), .int mones, .int mtwos, .int mgone, .ref (n 16), .ref (n 17), .int mroundNow, .ref (n 18), .long msampleFor, .long msampleAll, .ref (n 19), .int maskWorst, .long moftenAll, .long moftenView, .long moftenOnes, .ref (n 20), .ref (n 21), .ref (n 22), .ref (n 23)])), ((n 1), .inl (k 0, 99, .inl fworld)), ((n 7), .inl (k 0, 12, .inl (u.2.2.1 0))), ((n 8), .inl (k 0, 12, .inl (u.2.2.1 1))), ((n 9), .inl (k 0, 4, .inl (u.2.2.1 2)))])) := by
  refine MU.of (by decide) (Nat.le_of_ble_eq_true rfl) ?_
  intro p e s m below meth c ls A args Q S hr hlk hnm hQ hK hP hD hZ hA hS hl
  have hx := S.1
  have hb := S.2.1
  have hl : lv_has ls 2 [(0, .ref (n 0)), (1, .int p0)] := hl
  have hbfworld := okW_bd hkworld
  refine lv_aload_n hx hb dX11_near_0 rfl (lv_at hl 0 rfl) ?_
  refine lv_iload_n hx hb dX11_near_1 rfl (lv_at hl 1 rfl) ?_
  refine lv_i2l (v := p0.toInt64) hx hb dX11_near_2 rfl ?_
  refine x_roVi (As := [.long p0.toInt64]) S hK hP hD hZ (fun _ h => h) hA hS hA hl mwX11_isHead lkX11_237 (ctX11_isHead_i l D k z n mthrown mtaped msize mat mfrom mtoken mvalue mfaultKind mfaultPlace mmoreMany mlawNow mwetSet moverAll mones mtwos mgone mroundNow msampleFor msampleAll maskWorst moftenAll moftenView moftenOnes fworld p0 (by omega) (by omega) (by omega) (by omega) (by omega) (hkworld)) [0, 1] rfl (by decide) rfl rfl rfl rfl rfl ⟨Nat.le_of_ble_eq_true rfl, Nat.le_of_ble_eq_true rfl, Nat.le_of_ble_eq_true rfl⟩ dX11_near_3 ⟨Nat.le_of_ble_eq_true rfl, Nat.le_of_ble_eq_true rfl⟩ (fun r_1 H locs hr_1 hP hS => ?_)
  obtain ⟨hp_3, hz_4⟩ := hr_1
  refine lv_if_ne (tgt := 12) hx hb dX11_near_6 (by decide) (fun c_5 => ?_) (fun c_5 => ?_)
  · skip
    obtain ⟨n_6, rfl, hn_6⟩ := hp_3.resolve_left c_5
    refine lv_aload_n hx hb dX11_near_12 rfl (lv_at hl 0 rfl) ?_
    refine x_muVv (wr := []) (As := []) S hK hP hD hZ hS hA hl mwX11_layRows lkX11_243 (ctX11_layRows l D k z n mthrown mtaped msize mat mfrom mtoken mvalue mfaultKind mfaultPlace mmoreMany mlawNow mwetSet moverAll mones mtwos mgone mroundNow msampleFor msampleAll maskWorst moftenAll moftenView moftenOnes fworld frowOf fplaceOf ffirstOf (by omega) (by omega) (by omega) (by omega) (by omega) (hkworld)) [0, 1, 2, 3, 4] [] rfl rfl (by decide) (by decide) (by decide) rfl rfl rfl rfl rfl ⟨Nat.le_of_ble_eq_true rfl, Nat.le_of_ble_eq_true rfl, Nat.le_of_ble_eq_true rfl⟩ dX11_near_13 ⟨Nat.le_of_ble_eq_true rfl, Nat.le_of_ble_eq_true rfl⟩ (fun u_8 H locs hr_7 hP hD hS => ?_)
    have hP : va_P D vwCl [((n 0), .inr (11, [.int mthrown, .ref (n 1), .ref (n 2), .ref (n 3), .ref (n 4), .int (nI mtaped), .ref (n 5), .int (nI msize), .int (nI mat), .int (nI mfrom), .int mtoken, .int mvalue, .int mfaultKind, .int mfaultPlace, .ref (n 6), .ref (n 7), .ref (n 8), .ref (n 9), .ref (n 10), .ref (n 11), .ref (n 12), .int (nI mmoreMany), .int mlawNow, .int mwetSet, .int moverAll, .ref (n 13), .ref (n 14), .ref (n 15), .int mones, .int mtwos, .int mgone, .ref (n 16), .ref (n 17), .int mroundNow, .ref (n 18), .long msampleFor, .long msampleAll, .ref (n 19), .int maskWorst, .long moftenAll, .long moftenView, .long moftenOnes, .ref (n 20), .ref (n 21), .ref (n 22), .ref (n 23)])), ((n 1), .inl (k 0, 99, .inl fworld)), ((n 7), .inl (k 0, 12, .inl (u_8.2.2.1 0))), ((n 8), .inl (k 0, 12, .inl (u_8.2.2.1 1))), ((n 9), .inl (k 0, 4, .inl (u_8.2.2.1 2)))] H := hP.sub [0, 1, 2, 3, 4] rfl
    have hD : va_D A [((n 0), .inr (11, [.int mthrown, .ref (n 1), .ref (n 2), .ref (n 3), .ref (n 4), .int (nI mtaped), .ref (n 5), .int (nI msize), .int (nI mat), .int (nI mfrom), .int mtoken, .int mvalue, .int mfaultKind, .int mfaultPlace, .ref (n 6), .ref (n 7), .ref (n 8), .ref (n 9), .ref (n 10), .ref (n 11), .ref (n 12), .int (nI mmoreMany), .int mlawNow, .int mwetSet, .int moverAll, .ref (n 13), .ref (n 14), .ref (n 15), .int mones, .int mtwos, .int mgone, .ref (n 16), .ref (n 17), .int mroundNow, .ref (n 18), .long msampleFor, .long msampleAll, .ref (n 19), .int maskWorst, .long moftenAll, .long moftenView, .long moftenOnes, .ref (n 20), .ref (n 21), .ref (n 22), .ref (n 23)])), ((n 1), .inl (k 0, 99, .inl fworld)), ((n 7), .inl (k 0, 12, .inl (u_8.2.2.1 0))), ((n 8), .inl (k 0, 12, .inl (u_8.2.2.1 1))), ((n 9), .inl (k 0, 4, .inl (u_8.2.2.1 2)))] := hD.sub [0, 1, 2, 3, 4] (by decide) rfl
    refine lv_aload_n hx hb dX11_near_16 rfl (lv_at hl 0 rfl) ?_
    refine lv_iload_n hx hb dX11_near_17 rfl (lv_at hl 1 rfl) ?_
    refine x_roVi (As := [.int (nI n_6)]) S hK hP hD hZ (fun _ h => h) hA hS hA hl mwX11_besides lkX11_252 (ctX11_besides l D k z n mthrown mtaped msize mat mfrom mtoken mvalue mfaultKind mfaultPlace mmoreMany mlawNow mwetSet moverAll mones mtwos mgone mroundNow msampleFor msampleAll maskWorst moftenAll moftenView moftenOnes fworld (u_8.2.2.1 0) (u_8.2.2.1 1) (u_8.2.2.1 2) n_6 (by omega) (by omega) (by omega) (by omega) (by omega) (hkworld) (by omega)) [0, 1, 2, 3, 4] rfl (by decide) rfl rfl rfl rfl rfl ⟨Nat.le_of_ble_eq_true rfl, Nat.le_of_ble_eq_true rfl, Nat.le_of_ble_eq_true rfl⟩ dX11_near_18 ⟨Nat.le_of_ble_eq_true rfl, Nat.le_of_ble_eq_true rfl⟩ (fun r_9 H locs hr_9 hP hS => ?_)
    refine lv_aload_n hx hb dX11_near_21 rfl (lv_at hl 0 rfl) ?_
    refine lv_iload_n hx hb dX11_near_22 rfl (lv_at hl 1 rfl) ?_
    refine x_roVi (As := [.int (nI n_6)]) S hK hP hD hZ (fun _ h => h) hA hS hA hl mwX11_across lkX11_255 (ctX11_across l D k z n mthrown mtaped msize mat mfrom mtoken mvalue mfaultKind mfaultPlace mmoreMany mlawNow mwetSet moverAll mones mtwos mgone mroundNow msampleFor msampleAll maskWorst moftenAll moftenView moftenOnes fworld (u_8.2.2.1 0) (u_8.2.2.1 1) (u_8.2.2.1 2) n_6 (by omega) (by omega) (by omega) (by omega) (by omega) (hkworld) (by omega)) [0, 1, 2, 3, 4] rfl (by decide) rfl rfl rfl rfl rfl ⟨Nat.le_of_ble_eq_true rfl, Nat.le_of_ble_eq_true rfl, Nat.le_of_ble_eq_true rfl⟩ dX11_near_23 ⟨Nat.le_of_ble_eq_true rfl, Nat.le_of_ble_eq_true rfl⟩ (fun r_11 H locs hr_11 hP hS => ?_)
    refine lv_ior hx hb dX11_near_26 ?_
    refine lv_topi (fun v_13 ev_13 => ?_)
    exact x_reti S hr hlk hQ hS ((fun i => ([] : List (Int32)).getD i 0), (fun i => ([] : List (Nat)).getD i 0), (fun i => ([(u_8.2.2.1 0), (u_8.2.2.1 1), (u_8.2.2.1 2)] : List (Nat → Int32)).getD i (fun _ => 0)), (fun i => ([] : List (Nat → Int64)).getD i (fun _ => 0)), (fun i => ([] : List (Int64)).getD i 0)) trivial (x_B hP hD) dX11_near_27
  · skip
    refine lv_bipush (v := (-2)) hx hb dX11_near_9 (by decide) ?_
    exact x_reti S hr hlk hQ hS ((fun i => ([] : List (Int32)).getD i 0), (fun i => ([] : List (Nat)).getD i 0), (fun i => ([frowOf, fplaceOf, ffirstOf] : List (Nat → Int32)).getD i (fun _ => 0)), (fun i => ([] : List (Nat → Int64)).getD i (fun _ => 0)), (fun i => ([] : List (Int64)).getD i 0)) trivial (x_B hP hD) dX11_near_11

set_option maxHeartbeats 4000000 in
set_option maxRecDepth 100000 in
theorem ctX11_heads (l : Launch) (D : va_G) (k : Nat → ClassId) (z : Nat → Nat) (n : Nat → Nat) (mthrown : Int32) (mtaped : Nat) (msize : Nat) (mat : Nat) (mfrom : Nat) (mtoken : Int32) (mvalue : Int32) (mfaultKind : Int32) (mfaultPlace : Int32) (mmoreMany : Nat) (mlawNow : Int32) (mwetSet : Int32) (moverAll : Int32) (mones : Int32) (mtwos : Int32) (mgone : Int32) (mroundNow : Int32) (msampleFor : Int64) (msampleAll : Int64) (maskWorst : Int32) (moftenAll : Int64) (moftenView : Int64) (moftenOnes : Int64) (fworld : Nat → Int32) (frowOf : Nat → Int32) (fplaceOf : Nat → Int32) (ffirstOf : Nat → Int32) (p0 : Int32) (hmtaped : mtaped ≤ 600) (hmsize : msize ≤ 600) (hmat : mat ≤ 600) (hmfrom : mfrom ≤ 600) (hmmoreMany : mmoreMany ≤ 14) (hkworld : okW fworld) : MU l yX11_heads cX11_heads 2 (some .int) 2 D k z [.ref (n 0), .int p0] [((n 0), .inr (11, [.int mthrown, .ref (n 1), .ref (n 2), .ref (n 3), .ref (n 4), .int (nI mtaped), .ref (n 5), .int (nI msize), .int (nI mat), .int (nI mfrom), .int mtoken, .int mvalue, .int mfaultKind, .int mfaultPlace, .ref (n 6), .ref (n 7), .ref (n 8), .ref (n 9), .ref (n 10), .ref (n 11), .ref (n 12), .int (nI mmoreMany), .int mlawNow, .int mwetSet, .int moverAll, .ref (n 13), .ref (n 14), .ref (n 15), .int mones, .int mtwos, .int mgone, .ref (n 16), .ref (n 17), .int mroundNow, .ref (n 18), .long msampleFor, .long msampleAll, .ref (n 19), .int maskWorst, .long moftenAll, .long moftenView, .long moftenOnes, .ref (n 20), .ref (n 21), .ref (n 22), .ref (n 23)])), ((n 1), .inl (k 0, 99, .inl fworld)), ((n 7), .inl (k 0, 12, .inl frowOf)), ((n 8), .inl (k 0, 12, .inl fplaceOf)), ((n 9), .inl (k 0, 4, .inl ffirstOf))] 0 0 (Ui D (fun (r : Int32) (u : (Nat → Int32) × (Nat → Nat) × (Nat → Nat → Int32) × (Nat → Nat → Int64) × (Nat → Int64)) => True) (fun u : (Nat → Int32) × (Nat → Nat) × (Nat → Nat → Int32) × (Nat → Nat → Int64) × (Nat → Int64) => [((n 0), .inr (11, [.int mthrown, .ref (n 1), .ref (n 2), .ref (n 3), .ref (n 4), .int (nI mtaped), .ref (n 5), .int (nI msize), .int (nI mat), .int (nI mfrom), .int mtoken, .int mvalue, .int mfaultKind, .int mfaultPlace, .ref (n 6), .ref (n 7), .ref (n 8), .ref (n 9), .ref (n 10), .ref (n 11), .ref (n 12), .int (nI mmoreMany), .int mlawNow, .int mwetSet, .int moverAll, .ref (n 13), .ref (n 14), .ref (n 15), .int mones, .int mtwos, .int mgone, .ref (n 16), .ref (n 17), .int mroundNow, .ref (n 18), .long msampleFor, .long msampleAll, .ref (n 19), .int maskWorst, .long moftenAll, .long moftenView, .long moftenOnes, .ref (n 20), .ref (n 21), .ref (n 22), .ref (n 23)])), ((n 1), .inl (k 0, 99, .inl fworld)), ((n 7), .inl (k 0, 12, .inl (u.2.2.1 0))), ((n 8), .inl (k 0, 12, .inl (u.2.2.1 1))), ((n 9), .inl (k 0, 4, .inl (u.2.2.1 2)))])) := by
  refine MU.of (by decide) (Nat.le_of_ble_eq_true rfl) ?_
  intro p e s m below meth c ls A args Q S hr hlk hnm hQ hK hP hD hZ hA hS hl
  have hx := S.1
  have hb := S.2.1
  have hl : lv_has ls 2 [(0, .ref (n 0)), (1, .int p0)] := hl
  have hbfworld := okW_bd hkworld
  refine lv_aload_n hx hb dX11_heads_0 rfl (lv_at hl 0 rfl) ?_
  refine x_muVv (wr := []) (As := []) S hK hP hD hZ hS hA hl mwX11_layRows lkX11_243 (ctX11_layRows l D k z n mthrown mtaped msize mat mfrom mtoken mvalue mfaultKind mfaultPlace mmoreMany mlawNow mwetSet moverAll mones mtwos mgone mroundNow msampleFor msampleAll maskWorst moftenAll moftenView moftenOnes fworld frowOf fplaceOf ffirstOf (by omega) (by omega) (by omega) (by omega) (by omega) (hkworld)) [0, 1, 2, 3, 4] [] rfl rfl (by decide) (by decide) (by decide) rfl rfl rfl rfl rfl ⟨Nat.le_of_ble_eq_true rfl, Nat.le_of_ble_eq_true rfl, Nat.le_of_ble_eq_true rfl⟩ dX11_heads_1 ⟨Nat.le_of_ble_eq_true rfl, Nat.le_of_ble_eq_true rfl⟩ (fun u_2 H locs hr_1 hP hD hS => ?_)
  have hP : va_P D vwCl [((n 0), .inr (11, [.int mthrown, .ref (n 1), .ref (n 2), .ref (n 3), .ref (n 4), .int (nI mtaped), .ref (n 5), .int (nI msize), .int (nI mat), .int (nI mfrom), .int mtoken, .int mvalue, .int mfaultKind, .int mfaultPlace, .ref (n 6), .ref (n 7), .ref (n 8), .ref (n 9), .ref (n 10), .ref (n 11), .ref (n 12), .int (nI mmoreMany), .int mlawNow, .int mwetSet, .int moverAll, .ref (n 13), .ref (n 14), .ref (n 15), .int mones, .int mtwos, .int mgone, .ref (n 16), .ref (n 17), .int mroundNow, .ref (n 18), .long msampleFor, .long msampleAll, .ref (n 19), .int maskWorst, .long moftenAll, .long moftenView, .long moftenOnes, .ref (n 20), .ref (n 21), .ref (n 22), .ref (n 23)])), ((n 1), .inl (k 0, 99, .inl fworld)), ((n 7), .inl (k 0, 12, .inl (u_2.2.2.1 0))), ((n 8), .inl (k 0, 12, .inl (u_2.2.2.1 1))), ((n 9), .inl (k 0, 4, .inl (u_2.2.2.1 2)))] H := hP.sub [0, 1, 2, 3, 4] rfl
  have hD : va_D A [((n 0), .inr (11, [.int mthrown, .ref (n 1), .ref (n 2), .ref (n 3), .ref (n 4), .int (nI mtaped), .ref (n 5), .int (nI msize), .int (nI mat), .int (nI mfrom), .int mtoken, .int mvalue, .int mfaultKind, .int mfaultPlace, .ref (n 6), .ref (n 7), .ref (n 8), .ref (n 9), .ref (n 10), .ref (n 11), .ref (n 12), .int (nI mmoreMany), .int mlawNow, .int mwetSet, .int moverAll, .ref (n 13), .ref (n 14), .ref (n 15), .int mones, .int mtwos, .int mgone, .ref (n 16), .ref (n 17), .int mroundNow, .ref (n 18), .long msampleFor, .long msampleAll, .ref (n 19), .int maskWorst, .long moftenAll, .long moftenView, .long moftenOnes, .ref (n 20), .ref (n 21), .ref (n 22), .ref (n 23)])), ((n 1), .inl (k 0, 99, .inl fworld)), ((n 7), .inl (k 0, 12, .inl (u_2.2.2.1 0))), ((n 8), .inl (k 0, 12, .inl (u_2.2.2.1 1))), ((n 9), .inl (k 0, 4, .inl (u_2.2.2.1 2)))] := hD.sub [0, 1, 2, 3, 4] (by decide) rfl
  refine lv_aload_n hx hb dX11_heads_4 rfl (lv_at hl 0 rfl) ?_
  refine lv_iload_n hx hb dX11_heads_5 rfl (lv_at hl 1 rfl) ?_
  refine x_roVi (As := [.int p0]) S hK hP hD hZ (fun _ h => h) hA hS hA hl mwX11_isRow lkX11_227 (ctX11_isRow l D k z n mthrown mtaped msize mat mfrom mtoken mvalue mfaultKind mfaultPlace mmoreMany mlawNow mwetSet moverAll mones mtwos mgone mroundNow msampleFor msampleAll maskWorst moftenAll moftenView moftenOnes fworld p0 (by omega) (by omega) (by omega) (by omega) (by omega) (hkworld)) [0, 1] rfl (by decide) rfl rfl rfl rfl rfl ⟨Nat.le_of_ble_eq_true rfl, Nat.le_of_ble_eq_true rfl, Nat.le_of_ble_eq_true rfl⟩ dX11_heads_6 ⟨Nat.le_of_ble_eq_true rfl, Nat.le_of_ble_eq_true rfl⟩ (fun r_3 H locs hr_3 hP hS => ?_)
  obtain ⟨hp_5, hz_6⟩ := hr_3
  refine lv_if_eq (tgt := 20) hx hb dX11_heads_9 (by decide) (fun c_7 => ?_) (fun c_7 => ?_)
  · skip
    refine lv_bipush (v := (-2)) hx hb dX11_heads_20 (by decide) ?_
    exact x_reti S hr hlk hQ hS ((fun i => ([] : List (Int32)).getD i 0), (fun i => ([] : List (Nat)).getD i 0), (fun i => ([(u_2.2.2.1 0), (u_2.2.2.1 1), (u_2.2.2.1 2)] : List (Nat → Int32)).getD i (fun _ => 0)), (fun i => ([] : List (Nat → Int64)).getD i (fun _ => 0)), (fun i => ([] : List (Int64)).getD i 0)) trivial (x_B hP hD) dX11_heads_22
  · skip
    obtain ⟨n_8, rfl, hn_8⟩ := hp_5.resolve_left c_7
    refine lv_aload_n hx hb dX11_heads_12 rfl (lv_at hl 0 rfl) ?_
    refine lv_iload_n hx hb dX11_heads_13 rfl (lv_at hl 1 rfl) ?_
    refine x_roVi (As := [.int (nI n_8)]) S hK hP hD hZ (fun _ h => h) hA hS hA hl mwX11_rowSet lkX11_258 (ctX11_rowSet l D k z n mthrown mtaped msize mat mfrom mtoken mvalue mfaultKind mfaultPlace mmoreMany mlawNow mwetSet moverAll mones mtwos mgone mroundNow msampleFor msampleAll maskWorst moftenAll moftenView moftenOnes fworld (u_2.2.2.1 2) n_8 (by omega) (by omega) (by omega) (by omega) (by omega) (hkworld) (by omega)) [0, 1, 4] rfl (by decide) rfl rfl rfl rfl rfl ⟨Nat.le_of_ble_eq_true rfl, Nat.le_of_ble_eq_true rfl, Nat.le_of_ble_eq_true rfl⟩ dX11_heads_14 ⟨Nat.le_of_ble_eq_true rfl, Nat.le_of_ble_eq_true rfl⟩ (fun r_9 H locs hr_9 hP hS => ?_)
    refine lv_goto (tgt := 22) hx hb dX11_heads_17 (by decide) ?_
    exact x_reti S hr hlk hQ hS ((fun i => ([] : List (Int32)).getD i 0), (fun i => ([] : List (Nat)).getD i 0), (fun i => ([(u_2.2.2.1 0), (u_2.2.2.1 1), (u_2.2.2.1 2)] : List (Nat → Int32)).getD i (fun _ => 0)), (fun i => ([] : List (Nat → Int64)).getD i (fun _ => 0)), (fun i => ([] : List (Int64)).getD i 0)) trivial (x_B hP hD) dX11_heads_22

set_option maxHeartbeats 4000000 in
set_option maxRecDepth 100000 in
theorem ctX11_view (l : Launch) (D : va_G) (k : Nat → ClassId) (z : Nat → Nat) (n : Nat → Nat) (mthrown : Int32) (mtaped : Nat) (msize : Nat) (mat : Nat) (mfrom : Nat) (mtoken : Int32) (mvalue : Int32) (mfaultKind : Int32) (mfaultPlace : Int32) (mmoreMany : Nat) (mlawNow : Int32) (mwetSet : Int32) (moverAll : Int32) (mones : Int32) (mtwos : Int32) (mgone : Int32) (mroundNow : Int32) (msampleFor : Int64) (msampleAll : Int64) (maskWorst : Int32) (moftenAll : Int64) (moftenView : Int64) (moftenOnes : Int64) (fworld : Nat → Int32) (frowOf : Nat → Int32) (fplaceOf : Nat → Int32) (ffirstOf : Nat → Int32) (fhardNow : Nat → Int32) (fmoreHead : Nat → Int32) (fmoreView : Nat → Int32) (fonesAt : Nat → Int32) (ftwosAt : Nat → Int32) (fgoneAt : Nat → Int32) (p0 : Int32) (p1 : Int32) (hmtaped : mtaped ≤ 600) (hmsize : msize ≤ 600) (hmat : mat ≤ 600) (hmfrom : mfrom ≤ 600) (hmmoreMany : mmoreMany ≤ 14) (hkworld : okW fworld) : MU l yX11_view cX11_view 3 (some .int) 9 D k z [.ref (n 0), .int p0, .int p1] [((n 0), .inr (11, [.int mthrown, .ref (n 1), .ref (n 2), .ref (n 3), .ref (n 4), .int (nI mtaped), .ref (n 5), .int (nI msize), .int (nI mat), .int (nI mfrom), .int mtoken, .int mvalue, .int mfaultKind, .int mfaultPlace, .ref (n 6), .ref (n 7), .ref (n 8), .ref (n 9), .ref (n 10), .ref (n 11), .ref (n 12), .int (nI mmoreMany), .int mlawNow, .int mwetSet, .int moverAll, .ref (n 13), .ref (n 14), .ref (n 15), .int mones, .int mtwos, .int mgone, .ref (n 16), .ref (n 17), .int mroundNow, .ref (n 18), .long msampleFor, .long msampleAll, .ref (n 19), .int maskWorst, .long moftenAll, .long moftenView, .long moftenOnes, .ref (n 20), .ref (n 21), .ref (n 22), .ref (n 23)])), ((n 1), .inl (k 0, 99, .inl fworld)), ((n 7), .inl (k 0, 12, .inl frowOf)), ((n 8), .inl (k 0, 12, .inl fplaceOf)), ((n 9), .inl (k 0, 4, .inl ffirstOf)), ((n 10), .inl (k 0, 12, .inl fhardNow)), ((n 11), .inl (k 0, 14, .inl fmoreHead)), ((n 12), .inl (k 0, 14, .inl fmoreView)), ((n 13), .inl (k 0, 17, .inl fonesAt)), ((n 14), .inl (k 0, 17, .inl ftwosAt)), ((n 15), .inl (k 0, 17, .inl fgoneAt))] 0 0 (Ui D (fun (r : Int32) (u : (Nat → Int32) × (Nat → Nat) × (Nat → Nat → Int32) × (Nat → Nat → Int64) × (Nat → Int64)) => (u.2.1 0 ≤ 14)) (fun u : (Nat → Int32) × (Nat → Nat) × (Nat → Nat → Int32) × (Nat → Nat → Int64) × (Nat → Int64) => [((n 0), .inr (11, [.int mthrown, .ref (n 1), .ref (n 2), .ref (n 3), .ref (n 4), .int (nI mtaped), .ref (n 5), .int (nI msize), .int (nI mat), .int (nI mfrom), .int mtoken, .int mvalue, .int mfaultKind, .int mfaultPlace, .ref (n 6), .ref (n 7), .ref (n 8), .ref (n 9), .ref (n 10), .ref (n 11), .ref (n 12), .int (nI (u.2.1 0)), .int (u.1 0), .int (u.1 1), .int (u.1 2), .ref (n 13), .ref (n 14), .ref (n 15), .int (u.1 3), .int (u.1 4), .int (u.1 5), .ref (n 16), .ref (n 17), .int mroundNow, .ref (n 18), .long msampleFor, .long msampleAll, .ref (n 19), .int maskWorst, .long moftenAll, .long moftenView, .long moftenOnes, .ref (n 20), .ref (n 21), .ref (n 22), .ref (n 23)])), ((n 1), .inl (k 0, 99, .inl fworld)), ((n 7), .inl (k 0, 12, .inl (u.2.2.1 4))), ((n 8), .inl (k 0, 12, .inl (u.2.2.1 5))), ((n 9), .inl (k 0, 4, .inl (u.2.2.1 6))), ((n 10), .inl (k 0, 12, .inl (u.2.2.1 0))), ((n 11), .inl (k 0, 14, .inl fmoreHead)), ((n 12), .inl (k 0, 14, .inl fmoreView)), ((n 13), .inl (k 0, 17, .inl (u.2.2.1 1))), ((n 14), .inl (k 0, 17, .inl (u.2.2.1 2))), ((n 15), .inl (k 0, 17, .inl (u.2.2.1 3)))])) := by
  refine MU.of (by decide) (Nat.le_of_ble_eq_true rfl) ?_
  intro p e s m below meth c ls A args Q S hr hlk hnm hQ hK hP hD hZ hA hS hl
  have hx := S.1
  have hb := S.2.1
  have hl : lv_has ls 3 [(0, .ref (n 0)), (1, .int p0), (2, .int p1)] := hl
  have hbfworld := okW_bd hkworld
  refine lv_aload_n hx hb dX11_view_0 rfl (lv_at hl 0 rfl) ?_
  refine lv_iload_n hx hb dX11_view_1 rfl (lv_at hl 2 rfl) ?_
  refine x_muVi (wr := []) (As := [.int p1]) S hK hP hD hZ hS hA hl mwX11_asksHour lkX11_330 (ctX11_asksHour l D k z n mthrown mtaped msize mat mfrom mtoken mvalue mfaultKind mfaultPlace mmoreMany mlawNow mwetSet moverAll mones mtwos mgone mroundNow msampleFor msampleAll maskWorst moftenAll moftenView moftenOnes fworld frowOf fplaceOf ffirstOf fhardNow fmoreHead fmoreView fonesAt ftwosAt fgoneAt p1 (by omega) (by omega) (by omega) (by omega) (by omega) (hkworld)) [0, 1, 2, 3, 4, 5, 6, 7, 8, 9, 10] [] rfl rfl (by decide) (by decide) (by decide) rfl rfl rfl rfl rfl ⟨Nat.le_of_ble_eq_true rfl, Nat.le_of_ble_eq_true rfl, Nat.le_of_ble_eq_true rfl⟩ dX11_view_2 ⟨Nat.le_of_ble_eq_true rfl, Nat.le_of_ble_eq_true rfl⟩ (fun r_1 u_2 H locs hr_1 hP hD hS => ?_)
  have hP : va_P D vwCl [((n 0), .inr (11, [.int mthrown, .ref (n 1), .ref (n 2), .ref (n 3), .ref (n 4), .int (nI mtaped), .ref (n 5), .int (nI msize), .int (nI mat), .int (nI mfrom), .int mtoken, .int mvalue, .int mfaultKind, .int mfaultPlace, .ref (n 6), .ref (n 7), .ref (n 8), .ref (n 9), .ref (n 10), .ref (n 11), .ref (n 12), .int (nI (u_2.2.1 0)), .int (u_2.1 0), .int (u_2.1 1), .int (u_2.1 2), .ref (n 13), .ref (n 14), .ref (n 15), .int (u_2.1 3), .int (u_2.1 4), .int (u_2.1 5), .ref (n 16), .ref (n 17), .int mroundNow, .ref (n 18), .long msampleFor, .long msampleAll, .ref (n 19), .int maskWorst, .long moftenAll, .long moftenView, .long moftenOnes, .ref (n 20), .ref (n 21), .ref (n 22), .ref (n 23)])), ((n 1), .inl (k 0, 99, .inl fworld)), ((n 7), .inl (k 0, 12, .inl (u_2.2.2.1 4))), ((n 8), .inl (k 0, 12, .inl (u_2.2.2.1 5))), ((n 9), .inl (k 0, 4, .inl (u_2.2.2.1 6))), ((n 10), .inl (k 0, 12, .inl (u_2.2.2.1 0))), ((n 11), .inl (k 0, 14, .inl fmoreHead)), ((n 12), .inl (k 0, 14, .inl fmoreView)), ((n 13), .inl (k 0, 17, .inl (u_2.2.2.1 1))), ((n 14), .inl (k 0, 17, .inl (u_2.2.2.1 2))), ((n 15), .inl (k 0, 17, .inl (u_2.2.2.1 3)))] H := hP.sub [0, 1, 2, 3, 4, 5, 6, 7, 8, 9, 10] rfl
  have hD : va_D A [((n 0), .inr (11, [.int mthrown, .ref (n 1), .ref (n 2), .ref (n 3), .ref (n 4), .int (nI mtaped), .ref (n 5), .int (nI msize), .int (nI mat), .int (nI mfrom), .int mtoken, .int mvalue, .int mfaultKind, .int mfaultPlace, .ref (n 6), .ref (n 7), .ref (n 8), .ref (n 9), .ref (n 10), .ref (n 11), .ref (n 12), .int (nI (u_2.2.1 0)), .int (u_2.1 0), .int (u_2.1 1), .int (u_2.1 2), .ref (n 13), .ref (n 14), .ref (n 15), .int (u_2.1 3), .int (u_2.1 4), .int (u_2.1 5), .ref (n 16), .ref (n 17), .int mroundNow, .ref (n 18), .long msampleFor, .long msampleAll, .ref (n 19), .int maskWorst, .long moftenAll, .long moftenView, .long moftenOnes, .ref (n 20), .ref (n 21), .ref (n 22), .ref (n 23)])), ((n 1), .inl (k 0, 99, .inl fworld)), ((n 7), .inl (k 0, 12, .inl (u_2.2.2.1 4))), ((n 8), .inl (k 0, 12, .inl (u_2.2.2.1 5))), ((n 9), .inl (k 0, 4, .inl (u_2.2.2.1 6))), ((n 10), .inl (k 0, 12, .inl (u_2.2.2.1 0))), ((n 11), .inl (k 0, 14, .inl fmoreHead)), ((n 12), .inl (k 0, 14, .inl fmoreView)), ((n 13), .inl (k 0, 17, .inl (u_2.2.2.1 1))), ((n 14), .inl (k 0, 17, .inl (u_2.2.2.1 2))), ((n 15), .inl (k 0, 17, .inl (u_2.2.2.1 3)))] := hD.sub [0, 1, 2, 3, 4, 5, 6, 7, 8, 9, 10] (by decide) rfl
  obtain ⟨hp_3, hz_4, hg_5⟩ := hr_1
  refine lv_if_eq (tgt := 26) hx hb dX11_view_5 (by decide) (fun c_6 => ?_) (fun c_6 => ?_)
  · skip
    refine lv_bipush (v := (-2)) hx hb dX11_view_26 (by decide) ?_
    exact x_reti S hr hlk hQ hS ((fun i => ([(u_2.1 0), (u_2.1 1), (u_2.1 2), (u_2.1 3), (u_2.1 4), (u_2.1 5)] : List (Int32)).getD i 0), (fun i => ([u_2.2.1 0] : List (Nat)).getD i 0), (fun i => ([(u_2.2.2.1 0), (u_2.2.2.1 1), (u_2.2.2.1 2), (u_2.2.2.1 3), (u_2.2.2.1 4), (u_2.2.2.1 5), (u_2.2.2.1 6)] : List (Nat → Int32)).getD i (fun _ => 0)), (fun i => ([] : List (Nat → Int64)).getD i (fun _ => 0)), (fun i => ([] : List (Int64)).getD i 0)) (show u_2.2.1 0 ≤ 14 by omega) (x_B hP hD) dX11_view_28
  · skip
    obtain ⟨n_7, rfl, hn_7⟩ := hp_3.resolve_left c_6
    refine lv_aload_n hx hb dX11_view_8 rfl (lv_at hl 0 rfl) ?_
    refine lv_iload_n hx hb dX11_view_9 rfl (lv_at hl 1 rfl) ?_
    refine lv_i2l (v := p0.toInt64) hx hb dX11_view_10 rfl ?_
    refine x_roVi (As := [.long p0.toInt64]) S hK hP hD hZ (fun _ h => h) hA hS hA hl mwX11_isHead lkX11_237 (ctX11_isHead_i l D k z n mthrown mtaped msize mat mfrom mtoken mvalue mfaultKind mfaultPlace (u_2.2.1 0) (u_2.1 0) (u_2.1 1) (u_2.1 2) (u_2.1 3) (u_2.1 4) (u_2.1 5) mroundNow msampleFor msampleAll maskWorst moftenAll moftenView moftenOnes fworld p0 (by omega) (by omega) (by omega) (by omega) (by omega) (hkworld)) [0, 1] rfl (by decide) rfl rfl rfl rfl rfl ⟨Nat.le_of_ble_eq_true rfl, Nat.le_of_ble_eq_true rfl, Nat.le_of_ble_eq_true rfl⟩ dX11_view_11 ⟨Nat.le_of_ble_eq_true rfl, Nat.le_of_ble_eq_true rfl⟩ (fun r_8 H locs hr_8 hP hS => ?_)
    obtain ⟨hp_10, hz_11⟩ := hr_8
    refine lv_if_eq (tgt := 26) hx hb dX11_view_14 (by decide) (fun c_12 => ?_) (fun c_12 => ?_)
    · skip
      refine lv_bipush (v := (-2)) hx hb dX11_view_26 (by decide) ?_
      exact x_reti S hr hlk hQ hS ((fun i => ([(u_2.1 0), (u_2.1 1), (u_2.1 2), (u_2.1 3), (u_2.1 4), (u_2.1 5)] : List (Int32)).getD i 0), (fun i => ([u_2.2.1 0] : List (Nat)).getD i 0), (fun i => ([(u_2.2.2.1 0), (u_2.2.2.1 1), (u_2.2.2.1 2), (u_2.2.2.1 3), (u_2.2.2.1 4), (u_2.2.2.1 5), (u_2.2.2.1 6)] : List (Nat → Int32)).getD i (fun _ => 0)), (fun i => ([] : List (Nat → Int64)).getD i (fun _ => 0)), (fun i => ([] : List (Int64)).getD i 0)) (show u_2.2.1 0 ≤ 14 by omega) (x_B hP hD) dX11_view_28
    · skip
      obtain ⟨n_13, rfl, hn_13⟩ := hp_10.resolve_left c_12
      refine lv_aload_n hx hb dX11_view_17 rfl (lv_at hl 0 rfl) ?_
      refine lv_iload_n hx hb dX11_view_18 rfl (lv_at hl 1 rfl) ?_
      refine lv_iload_n hx hb dX11_view_19 rfl (lv_at hl 2 rfl) ?_
      refine x_roVi (As := [.int (nI n_13), .int (nI n_7)]) S hK hP hD hZ (fun _ h => h) hA hS hA hl mwX11_viewOf lkX11_333 (ctX11_viewOf l D k z n mthrown mtaped msize mat mfrom mtoken mvalue mfaultKind mfaultPlace (u_2.2.1 0) (u_2.1 0) (u_2.1 1) (u_2.1 2) (u_2.1 3) (u_2.1 4) (u_2.1 5) mroundNow msampleFor msampleAll maskWorst moftenAll moftenView moftenOnes (u_2.2.2.1 1) (u_2.2.2.1 2) (nI n_13) n_7 (by omega) (by omega) (by omega) (by omega) (by omega) (by omega)) [0, 8, 9] rfl (by decide) rfl rfl rfl rfl rfl ⟨Nat.le_of_ble_eq_true rfl, Nat.le_of_ble_eq_true rfl, Nat.le_of_ble_eq_true rfl⟩ dX11_view_20 ⟨Nat.le_of_ble_eq_true rfl, Nat.le_of_ble_eq_true rfl⟩ (fun r_14 H locs hr_14 hP hS => ?_)
      refine lv_goto (tgt := 28) hx hb dX11_view_23 (by decide) ?_
      exact x_reti S hr hlk hQ hS ((fun i => ([(u_2.1 0), (u_2.1 1), (u_2.1 2), (u_2.1 3), (u_2.1 4), (u_2.1 5)] : List (Int32)).getD i 0), (fun i => ([u_2.2.1 0] : List (Nat)).getD i 0), (fun i => ([(u_2.2.2.1 0), (u_2.2.2.1 1), (u_2.2.2.1 2), (u_2.2.2.1 3), (u_2.2.2.1 4), (u_2.2.2.1 5), (u_2.2.2.1 6)] : List (Nat → Int32)).getD i (fun _ => 0)), (fun i => ([] : List (Nat → Int64)).getD i (fun _ => 0)), (fun i => ([] : List (Int64)).getD i 0)) (show u_2.2.1 0 ≤ 14 by omega) (x_B hP hD) dX11_view_28

set_option maxHeartbeats 4000000 in
set_option maxRecDepth 100000 in
theorem ctX11_holding (l : Launch) (D : va_G) (k : Nat → ClassId) (z : Nat → Nat) (n : Nat → Nat) (mthrown : Int32) (mtaped : Nat) (msize : Nat) (mat : Nat) (mfrom : Nat) (mtoken : Int32) (mvalue : Int32) (mfaultKind : Int32) (mfaultPlace : Int32) (mmoreMany : Nat) (mlawNow : Int32) (mwetSet : Int32) (moverAll : Int32) (mones : Int32) (mtwos : Int32) (mgone : Int32) (mroundNow : Int32) (msampleFor : Int64) (msampleAll : Int64) (maskWorst : Int32) (moftenAll : Int64) (moftenView : Int64) (moftenOnes : Int64) (fworld : Nat → Int32) (frowOf : Nat → Int32) (fplaceOf : Nat → Int32) (ffirstOf : Nat → Int32) (fhardNow : Nat → Int32) (fmoreHead : Nat → Int32) (fmoreView : Nat → Int32) (fonesAt : Nat → Int32) (ftwosAt : Nat → Int32) (fgoneAt : Nat → Int32) (p0 : Int32) (p1 : Int32) (hmtaped : mtaped ≤ 600) (hmsize : msize ≤ 600) (hmat : mat ≤ 600) (hmfrom : mfrom ≤ 600) (hmmoreMany : mmoreMany ≤ 14) (hkworld : okW fworld) : MU l yX11_holding cX11_holding 3 (some .int) 9 D k z [.ref (n 0), .int p0, .int p1] [((n 0), .inr (11, [.int mthrown, .ref (n 1), .ref (n 2), .ref (n 3), .ref (n 4), .int (nI mtaped), .ref (n 5), .int (nI msize), .int (nI mat), .int (nI mfrom), .int mtoken, .int mvalue, .int mfaultKind, .int mfaultPlace, .ref (n 6), .ref (n 7), .ref (n 8), .ref (n 9), .ref (n 10), .ref (n 11), .ref (n 12), .int (nI mmoreMany), .int mlawNow, .int mwetSet, .int moverAll, .ref (n 13), .ref (n 14), .ref (n 15), .int mones, .int mtwos, .int mgone, .ref (n 16), .ref (n 17), .int mroundNow, .ref (n 18), .long msampleFor, .long msampleAll, .ref (n 19), .int maskWorst, .long moftenAll, .long moftenView, .long moftenOnes, .ref (n 20), .ref (n 21), .ref (n 22), .ref (n 23)])), ((n 1), .inl (k 0, 99, .inl fworld)), ((n 7), .inl (k 0, 12, .inl frowOf)), ((n 8), .inl (k 0, 12, .inl fplaceOf)), ((n 9), .inl (k 0, 4, .inl ffirstOf)), ((n 10), .inl (k 0, 12, .inl fhardNow)), ((n 11), .inl (k 0, 14, .inl fmoreHead)), ((n 12), .inl (k 0, 14, .inl fmoreView)), ((n 13), .inl (k 0, 17, .inl fonesAt)), ((n 14), .inl (k 0, 17, .inl ftwosAt)), ((n 15), .inl (k 0, 17, .inl fgoneAt))] 0 0 (Ui D (fun (r : Int32) (u : (Nat → Int32) × (Nat → Nat) × (Nat → Nat → Int32) × (Nat → Nat → Int64) × (Nat → Int64)) => (u.2.1 0 ≤ 14)) (fun u : (Nat → Int32) × (Nat → Nat) × (Nat → Nat → Int32) × (Nat → Nat → Int64) × (Nat → Int64) => [((n 0), .inr (11, [.int mthrown, .ref (n 1), .ref (n 2), .ref (n 3), .ref (n 4), .int (nI mtaped), .ref (n 5), .int (nI msize), .int (nI mat), .int (nI mfrom), .int mtoken, .int mvalue, .int mfaultKind, .int mfaultPlace, .ref (n 6), .ref (n 7), .ref (n 8), .ref (n 9), .ref (n 10), .ref (n 11), .ref (n 12), .int (nI (u.2.1 0)), .int (u.1 0), .int (u.1 1), .int (u.1 2), .ref (n 13), .ref (n 14), .ref (n 15), .int (u.1 3), .int (u.1 4), .int (u.1 5), .ref (n 16), .ref (n 17), .int mroundNow, .ref (n 18), .long msampleFor, .long msampleAll, .ref (n 19), .int maskWorst, .long moftenAll, .long moftenView, .long moftenOnes, .ref (n 20), .ref (n 21), .ref (n 22), .ref (n 23)])), ((n 1), .inl (k 0, 99, .inl fworld)), ((n 7), .inl (k 0, 12, .inl (u.2.2.1 4))), ((n 8), .inl (k 0, 12, .inl (u.2.2.1 5))), ((n 9), .inl (k 0, 4, .inl (u.2.2.1 6))), ((n 10), .inl (k 0, 12, .inl (u.2.2.1 0))), ((n 11), .inl (k 0, 14, .inl fmoreHead)), ((n 12), .inl (k 0, 14, .inl fmoreView)), ((n 13), .inl (k 0, 17, .inl (u.2.2.1 1))), ((n 14), .inl (k 0, 17, .inl (u.2.2.1 2))), ((n 15), .inl (k 0, 17, .inl (u.2.2.1 3)))])) := by
  refine MU.of (by decide) (Nat.le_of_ble_eq_true rfl) ?_
  intro p e s m below meth c ls A args Q S hr hlk hnm hQ hK hP hD hZ hA hS hl
  have hx := S.1
  have hb := S.2.1
  have hl : lv_has ls 3 [(0, .ref (n 0)), (1, .int p0), (2, .int p1)] := hl
  have hbfworld := okW_bd hkworld
  refine lv_aload_n hx hb dX11_holding_0 rfl (lv_at hl 0 rfl) ?_
  refine lv_iload_n hx hb dX11_holding_1 rfl (lv_at hl 2 rfl) ?_
  refine x_muVi (wr := []) (As := [.int p1]) S hK hP hD hZ hS hA hl mwX11_asksHour lkX11_330 (ctX11_asksHour l D k z n mthrown mtaped msize mat mfrom mtoken mvalue mfaultKind mfaultPlace mmoreMany mlawNow mwetSet moverAll mones mtwos mgone mroundNow msampleFor msampleAll maskWorst moftenAll moftenView moftenOnes fworld frowOf fplaceOf ffirstOf fhardNow fmoreHead fmoreView fonesAt ftwosAt fgoneAt p1 (by omega) (by omega) (by omega) (by omega) (by omega) (hkworld)) [0, 1, 2, 3, 4, 5, 6, 7, 8, 9, 10] [] rfl rfl (by decide) (by decide) (by decide) rfl rfl rfl rfl rfl ⟨Nat.le_of_ble_eq_true rfl, Nat.le_of_ble_eq_true rfl, Nat.le_of_ble_eq_true rfl⟩ dX11_holding_2 ⟨Nat.le_of_ble_eq_true rfl, Nat.le_of_ble_eq_true rfl⟩ (fun r_1 u_2 H locs hr_1 hP hD hS => ?_)
  have hP : va_P D vwCl [((n 0), .inr (11, [.int mthrown, .ref (n 1), .ref (n 2), .ref (n 3), .ref (n 4), .int (nI mtaped), .ref (n 5), .int (nI msize), .int (nI mat), .int (nI mfrom), .int mtoken, .int mvalue, .int mfaultKind, .int mfaultPlace, .ref (n 6), .ref (n 7), .ref (n 8), .ref (n 9), .ref (n 10), .ref (n 11), .ref (n 12), .int (nI (u_2.2.1 0)), .int (u_2.1 0), .int (u_2.1 1), .int (u_2.1 2), .ref (n 13), .ref (n 14), .ref (n 15), .int (u_2.1 3), .int (u_2.1 4), .int (u_2.1 5), .ref (n 16), .ref (n 17), .int mroundNow, .ref (n 18), .long msampleFor, .long msampleAll, .ref (n 19), .int maskWorst, .long moftenAll, .long moftenView, .long moftenOnes, .ref (n 20), .ref (n 21), .ref (n 22), .ref (n 23)])), ((n 1), .inl (k 0, 99, .inl fworld)), ((n 7), .inl (k 0, 12, .inl (u_2.2.2.1 4))), ((n 8), .inl (k 0, 12, .inl (u_2.2.2.1 5))), ((n 9), .inl (k 0, 4, .inl (u_2.2.2.1 6))), ((n 10), .inl (k 0, 12, .inl (u_2.2.2.1 0))), ((n 11), .inl (k 0, 14, .inl fmoreHead)), ((n 12), .inl (k 0, 14, .inl fmoreView)), ((n 13), .inl (k 0, 17, .inl (u_2.2.2.1 1))), ((n 14), .inl (k 0, 17, .inl (u_2.2.2.1 2))), ((n 15), .inl (k 0, 17, .inl (u_2.2.2.1 3)))] H := hP.sub [0, 1, 2, 3, 4, 5, 6, 7, 8, 9, 10] rfl
  have hD : va_D A [((n 0), .inr (11, [.int mthrown, .ref (n 1), .ref (n 2), .ref (n 3), .ref (n 4), .int (nI mtaped), .ref (n 5), .int (nI msize), .int (nI mat), .int (nI mfrom), .int mtoken, .int mvalue, .int mfaultKind, .int mfaultPlace, .ref (n 6), .ref (n 7), .ref (n 8), .ref (n 9), .ref (n 10), .ref (n 11), .ref (n 12), .int (nI (u_2.2.1 0)), .int (u_2.1 0), .int (u_2.1 1), .int (u_2.1 2), .ref (n 13), .ref (n 14), .ref (n 15), .int (u_2.1 3), .int (u_2.1 4), .int (u_2.1 5), .ref (n 16), .ref (n 17), .int mroundNow, .ref (n 18), .long msampleFor, .long msampleAll, .ref (n 19), .int maskWorst, .long moftenAll, .long moftenView, .long moftenOnes, .ref (n 20), .ref (n 21), .ref (n 22), .ref (n 23)])), ((n 1), .inl (k 0, 99, .inl fworld)), ((n 7), .inl (k 0, 12, .inl (u_2.2.2.1 4))), ((n 8), .inl (k 0, 12, .inl (u_2.2.2.1 5))), ((n 9), .inl (k 0, 4, .inl (u_2.2.2.1 6))), ((n 10), .inl (k 0, 12, .inl (u_2.2.2.1 0))), ((n 11), .inl (k 0, 14, .inl fmoreHead)), ((n 12), .inl (k 0, 14, .inl fmoreView)), ((n 13), .inl (k 0, 17, .inl (u_2.2.2.1 1))), ((n 14), .inl (k 0, 17, .inl (u_2.2.2.1 2))), ((n 15), .inl (k 0, 17, .inl (u_2.2.2.1 3)))] := hD.sub [0, 1, 2, 3, 4, 5, 6, 7, 8, 9, 10] (by decide) rfl
  obtain ⟨hp_3, hz_4, hg_5⟩ := hr_1
  refine lv_if_eq (tgt := 25) hx hb dX11_holding_5 (by decide) (fun c_6 => ?_) (fun c_6 => ?_)
  · skip
    refine lv_bipush (v := (-2)) hx hb dX11_holding_25 (by decide) ?_
    exact x_reti S hr hlk hQ hS ((fun i => ([(u_2.1 0), (u_2.1 1), (u_2.1 2), (u_2.1 3), (u_2.1 4), (u_2.1 5)] : List (Int32)).getD i 0), (fun i => ([u_2.2.1 0] : List (Nat)).getD i 0), (fun i => ([(u_2.2.2.1 0), (u_2.2.2.1 1), (u_2.2.2.1 2), (u_2.2.2.1 3), (u_2.2.2.1 4), (u_2.2.2.1 5), (u_2.2.2.1 6)] : List (Nat → Int32)).getD i (fun _ => 0)), (fun i => ([] : List (Nat → Int64)).getD i (fun _ => 0)), (fun i => ([] : List (Int64)).getD i 0)) (show u_2.2.1 0 ≤ 14 by omega) (x_B hP hD) dX11_holding_27
  · skip
    obtain ⟨n_7, rfl, hn_7⟩ := hp_3.resolve_left c_6
    refine lv_iload_n hx hb dX11_holding_8 rfl (lv_at hl 1 rfl) ?_
    refine lv_i2l (v := p0.toInt64) hx hb dX11_holding_9 rfl ?_
    refine x_roSi (As := [.long p0.toInt64]) S hK hP hD hZ (fun _ h => h) hA hS hA hl mwX11_isAny lkX11_336 (ctX11_isAny l D k z p0.toInt64 ) [] rfl (by decide) rfl rfl ⟨Nat.le_of_ble_eq_true rfl, Nat.le_of_ble_eq_true rfl, Nat.le_of_ble_eq_true rfl⟩ dX11_holding_10 ⟨Nat.le_of_ble_eq_true rfl, Nat.le_of_ble_eq_true rfl⟩ (fun r_8 H locs hr_8 hP hS => ?_)
    obtain rfl := hr_8
    refine lv_if_eq (tgt := 25) hx hb dX11_holding_13 (by decide) (fun c_10 => ?_) (fun c_10 => ?_)
    · skip
      have c_10 : ¬ (0 ≤ p0.toInt64 ∧ p0.toInt64 ≤ 2) := bo_0.mp c_10
      refine lv_bipush (v := (-2)) hx hb dX11_holding_25 (by decide) ?_
      exact x_reti S hr hlk hQ hS ((fun i => ([(u_2.1 0), (u_2.1 1), (u_2.1 2), (u_2.1 3), (u_2.1 4), (u_2.1 5)] : List (Int32)).getD i 0), (fun i => ([u_2.2.1 0] : List (Nat)).getD i 0), (fun i => ([(u_2.2.2.1 0), (u_2.2.2.1 1), (u_2.2.2.1 2), (u_2.2.2.1 3), (u_2.2.2.1 4), (u_2.2.2.1 5), (u_2.2.2.1 6)] : List (Nat → Int32)).getD i (fun _ => 0)), (fun i => ([] : List (Nat → Int64)).getD i (fun _ => 0)), (fun i => ([] : List (Int64)).getD i 0)) (show u_2.2.1 0 ≤ 14 by omega) (x_B hP hD) dX11_holding_27
    · skip
      have c_10 : 0 ≤ p0.toInt64 ∧ p0.toInt64 ≤ 2 := bo_1.mp c_10
      refine lv_aload_n hx hb dX11_holding_16 rfl (lv_at hl 0 rfl) ?_
      refine lv_iload_n hx hb dX11_holding_17 rfl (lv_at hl 1 rfl) ?_
      refine lv_iload_n hx hb dX11_holding_18 rfl (lv_at hl 2 rfl) ?_
      refine x_roVi (As := [.int p0, .int (nI n_7)]) S hK hP hD hZ (fun _ h => h) hA hS hA hl mwX11_holdingOf lkX11_327 (ctX11_holdingOf l D k z n mthrown mtaped msize mat mfrom mtoken mvalue mfaultKind mfaultPlace (u_2.2.1 0) (u_2.1 0) (u_2.1 1) (u_2.1 2) (u_2.1 3) (u_2.1 4) (u_2.1 5) mroundNow msampleFor msampleAll maskWorst moftenAll moftenView moftenOnes fworld (u_2.2.2.1 1) (u_2.2.2.1 2) (u_2.2.2.1 3) p0 n_7 (by omega) (by omega) (by omega) (by omega) (by omega) (hkworld) (by omega)) [0, 1, 8, 9, 10] rfl (by decide) rfl rfl rfl rfl rfl ⟨Nat.le_of_ble_eq_true rfl, Nat.le_of_ble_eq_true rfl, Nat.le_of_ble_eq_true rfl⟩ dX11_holding_19 ⟨Nat.le_of_ble_eq_true rfl, Nat.le_of_ble_eq_true rfl⟩ (fun r_11 H locs hr_11 hP hS => ?_)
      refine lv_goto (tgt := 27) hx hb dX11_holding_22 (by decide) ?_
      exact x_reti S hr hlk hQ hS ((fun i => ([(u_2.1 0), (u_2.1 1), (u_2.1 2), (u_2.1 3), (u_2.1 4), (u_2.1 5)] : List (Int32)).getD i 0), (fun i => ([u_2.2.1 0] : List (Nat)).getD i 0), (fun i => ([(u_2.2.2.1 0), (u_2.2.2.1 1), (u_2.2.2.1 2), (u_2.2.2.1 3), (u_2.2.2.1 4), (u_2.2.2.1 5), (u_2.2.2.1 6)] : List (Nat → Int32)).getD i (fun _ => 0)), (fun i => ([] : List (Nat → Int64)).getD i (fun _ => 0)), (fun i => ([] : List (Int64)).getD i 0)) (show u_2.2.1 0 ≤ 14 by omega) (x_B hP hD) dX11_holding_27

set_option maxHeartbeats 4000000 in
set_option maxRecDepth 100000 in
theorem ctX11_eaten (l : Launch) (D : va_G) (k : Nat → ClassId) (z : Nat → Nat) (n : Nat → Nat) (mthrown : Int32) (mtaped : Nat) (msize : Nat) (mat : Nat) (mfrom : Nat) (mtoken : Int32) (mvalue : Int32) (mfaultKind : Int32) (mfaultPlace : Int32) (mmoreMany : Nat) (mlawNow : Int32) (mwetSet : Int32) (moverAll : Int32) (mones : Int32) (mtwos : Int32) (mgone : Int32) (mroundNow : Int32) (msampleFor : Int64) (msampleAll : Int64) (maskWorst : Int32) (moftenAll : Int64) (moftenView : Int64) (moftenOnes : Int64) (fworld : Nat → Int32) (frowOf : Nat → Int32) (fplaceOf : Nat → Int32) (ffirstOf : Nat → Int32) (fhardNow : Nat → Int32) (fmoreHead : Nat → Int32) (fmoreView : Nat → Int32) (fonesAt : Nat → Int32) (ftwosAt : Nat → Int32) (fgoneAt : Nat → Int32) (p0 : Int32) (hmtaped : mtaped ≤ 600) (hmsize : msize ≤ 600) (hmat : mat ≤ 600) (hmfrom : mfrom ≤ 600) (hmmoreMany : mmoreMany ≤ 14) (hkworld : okW fworld) : MU l yX11_eaten cX11_eaten 2 (some .int) 9 D k z [.ref (n 0), .int p0] [((n 0), .inr (11, [.int mthrown, .ref (n 1), .ref (n 2), .ref (n 3), .ref (n 4), .int (nI mtaped), .ref (n 5), .int (nI msize), .int (nI mat), .int (nI mfrom), .int mtoken, .int mvalue, .int mfaultKind, .int mfaultPlace, .ref (n 6), .ref (n 7), .ref (n 8), .ref (n 9), .ref (n 10), .ref (n 11), .ref (n 12), .int (nI mmoreMany), .int mlawNow, .int mwetSet, .int moverAll, .ref (n 13), .ref (n 14), .ref (n 15), .int mones, .int mtwos, .int mgone, .ref (n 16), .ref (n 17), .int mroundNow, .ref (n 18), .long msampleFor, .long msampleAll, .ref (n 19), .int maskWorst, .long moftenAll, .long moftenView, .long moftenOnes, .ref (n 20), .ref (n 21), .ref (n 22), .ref (n 23)])), ((n 1), .inl (k 0, 99, .inl fworld)), ((n 7), .inl (k 0, 12, .inl frowOf)), ((n 8), .inl (k 0, 12, .inl fplaceOf)), ((n 9), .inl (k 0, 4, .inl ffirstOf)), ((n 10), .inl (k 0, 12, .inl fhardNow)), ((n 11), .inl (k 0, 14, .inl fmoreHead)), ((n 12), .inl (k 0, 14, .inl fmoreView)), ((n 13), .inl (k 0, 17, .inl fonesAt)), ((n 14), .inl (k 0, 17, .inl ftwosAt)), ((n 15), .inl (k 0, 17, .inl fgoneAt))] 0 0 (Ui D (fun (r : Int32) (u : (Nat → Int32) × (Nat → Nat) × (Nat → Nat → Int32) × (Nat → Nat → Int64) × (Nat → Int64)) => (u.2.1 0 ≤ 14)) (fun u : (Nat → Int32) × (Nat → Nat) × (Nat → Nat → Int32) × (Nat → Nat → Int64) × (Nat → Int64) => [((n 0), .inr (11, [.int mthrown, .ref (n 1), .ref (n 2), .ref (n 3), .ref (n 4), .int (nI mtaped), .ref (n 5), .int (nI msize), .int (nI mat), .int (nI mfrom), .int mtoken, .int mvalue, .int mfaultKind, .int mfaultPlace, .ref (n 6), .ref (n 7), .ref (n 8), .ref (n 9), .ref (n 10), .ref (n 11), .ref (n 12), .int (nI (u.2.1 0)), .int (u.1 0), .int (u.1 1), .int (u.1 2), .ref (n 13), .ref (n 14), .ref (n 15), .int (u.1 3), .int (u.1 4), .int (u.1 5), .ref (n 16), .ref (n 17), .int mroundNow, .ref (n 18), .long msampleFor, .long msampleAll, .ref (n 19), .int maskWorst, .long moftenAll, .long moftenView, .long moftenOnes, .ref (n 20), .ref (n 21), .ref (n 22), .ref (n 23)])), ((n 1), .inl (k 0, 99, .inl fworld)), ((n 7), .inl (k 0, 12, .inl (u.2.2.1 4))), ((n 8), .inl (k 0, 12, .inl (u.2.2.1 5))), ((n 9), .inl (k 0, 4, .inl (u.2.2.1 6))), ((n 10), .inl (k 0, 12, .inl (u.2.2.1 0))), ((n 11), .inl (k 0, 14, .inl fmoreHead)), ((n 12), .inl (k 0, 14, .inl fmoreView)), ((n 13), .inl (k 0, 17, .inl (u.2.2.1 1))), ((n 14), .inl (k 0, 17, .inl (u.2.2.1 2))), ((n 15), .inl (k 0, 17, .inl (u.2.2.1 3)))])) := by
  refine MU.of (by decide) (Nat.le_of_ble_eq_true rfl) ?_
  intro p e s m below meth c ls A args Q S hr hlk hnm hQ hK hP hD hZ hA hS hl
  have hx := S.1
  have hb := S.2.1
  have hl : lv_has ls 2 [(0, .ref (n 0)), (1, .int p0)] := hl
  have hbfworld := okW_bd hkworld
  refine lv_aload_n hx hb dX11_eaten_0 rfl (lv_at hl 0 rfl) ?_
  refine lv_iload_n hx hb dX11_eaten_1 rfl (lv_at hl 1 rfl) ?_
  refine x_muVi (wr := []) (As := [.int p0]) S hK hP hD hZ hS hA hl mwX11_asksHour lkX11_330 (ctX11_asksHour l D k z n mthrown mtaped msize mat mfrom mtoken mvalue mfaultKind mfaultPlace mmoreMany mlawNow mwetSet moverAll mones mtwos mgone mroundNow msampleFor msampleAll maskWorst moftenAll moftenView moftenOnes fworld frowOf fplaceOf ffirstOf fhardNow fmoreHead fmoreView fonesAt ftwosAt fgoneAt p0 (by omega) (by omega) (by omega) (by omega) (by omega) (hkworld)) [0, 1, 2, 3, 4, 5, 6, 7, 8, 9, 10] [] rfl rfl (by decide) (by decide) (by decide) rfl rfl rfl rfl rfl ⟨Nat.le_of_ble_eq_true rfl, Nat.le_of_ble_eq_true rfl, Nat.le_of_ble_eq_true rfl⟩ dX11_eaten_2 ⟨Nat.le_of_ble_eq_true rfl, Nat.le_of_ble_eq_true rfl⟩ (fun r_1 u_2 H locs hr_1 hP hD hS => ?_)
  have hP : va_P D vwCl [((n 0), .inr (11, [.int mthrown, .ref (n 1), .ref (n 2), .ref (n 3), .ref (n 4), .int (nI mtaped), .ref (n 5), .int (nI msize), .int (nI mat), .int (nI mfrom), .int mtoken, .int mvalue, .int mfaultKind, .int mfaultPlace, .ref (n 6), .ref (n 7), .ref (n 8), .ref (n 9), .ref (n 10), .ref (n 11), .ref (n 12), .int (nI (u_2.2.1 0)), .int (u_2.1 0), .int (u_2.1 1), .int (u_2.1 2), .ref (n 13), .ref (n 14), .ref (n 15), .int (u_2.1 3), .int (u_2.1 4), .int (u_2.1 5), .ref (n 16), .ref (n 17), .int mroundNow, .ref (n 18), .long msampleFor, .long msampleAll, .ref (n 19), .int maskWorst, .long moftenAll, .long moftenView, .long moftenOnes, .ref (n 20), .ref (n 21), .ref (n 22), .ref (n 23)])), ((n 1), .inl (k 0, 99, .inl fworld)), ((n 7), .inl (k 0, 12, .inl (u_2.2.2.1 4))), ((n 8), .inl (k 0, 12, .inl (u_2.2.2.1 5))), ((n 9), .inl (k 0, 4, .inl (u_2.2.2.1 6))), ((n 10), .inl (k 0, 12, .inl (u_2.2.2.1 0))), ((n 11), .inl (k 0, 14, .inl fmoreHead)), ((n 12), .inl (k 0, 14, .inl fmoreView)), ((n 13), .inl (k 0, 17, .inl (u_2.2.2.1 1))), ((n 14), .inl (k 0, 17, .inl (u_2.2.2.1 2))), ((n 15), .inl (k 0, 17, .inl (u_2.2.2.1 3)))] H := hP.sub [0, 1, 2, 3, 4, 5, 6, 7, 8, 9, 10] rfl
  have hD : va_D A [((n 0), .inr (11, [.int mthrown, .ref (n 1), .ref (n 2), .ref (n 3), .ref (n 4), .int (nI mtaped), .ref (n 5), .int (nI msize), .int (nI mat), .int (nI mfrom), .int mtoken, .int mvalue, .int mfaultKind, .int mfaultPlace, .ref (n 6), .ref (n 7), .ref (n 8), .ref (n 9), .ref (n 10), .ref (n 11), .ref (n 12), .int (nI (u_2.2.1 0)), .int (u_2.1 0), .int (u_2.1 1), .int (u_2.1 2), .ref (n 13), .ref (n 14), .ref (n 15), .int (u_2.1 3), .int (u_2.1 4), .int (u_2.1 5), .ref (n 16), .ref (n 17), .int mroundNow, .ref (n 18), .long msampleFor, .long msampleAll, .ref (n 19), .int maskWorst, .long moftenAll, .long moftenView, .long moftenOnes, .ref (n 20), .ref (n 21), .ref (n 22), .ref (n 23)])), ((n 1), .inl (k 0, 99, .inl fworld)), ((n 7), .inl (k 0, 12, .inl (u_2.2.2.1 4))), ((n 8), .inl (k 0, 12, .inl (u_2.2.2.1 5))), ((n 9), .inl (k 0, 4, .inl (u_2.2.2.1 6))), ((n 10), .inl (k 0, 12, .inl (u_2.2.2.1 0))), ((n 11), .inl (k 0, 14, .inl fmoreHead)), ((n 12), .inl (k 0, 14, .inl fmoreView)), ((n 13), .inl (k 0, 17, .inl (u_2.2.2.1 1))), ((n 14), .inl (k 0, 17, .inl (u_2.2.2.1 2))), ((n 15), .inl (k 0, 17, .inl (u_2.2.2.1 3)))] := hD.sub [0, 1, 2, 3, 4, 5, 6, 7, 8, 9, 10] (by decide) rfl
  obtain ⟨hp_3, hz_4, hg_5⟩ := hr_1
  refine lv_if_eq (tgt := 17) hx hb dX11_eaten_5 (by decide) (fun c_6 => ?_) (fun c_6 => ?_)
  · skip
    refine lv_bipush (v := (-2)) hx hb dX11_eaten_17 (by decide) ?_
    exact x_reti S hr hlk hQ hS ((fun i => ([(u_2.1 0), (u_2.1 1), (u_2.1 2), (u_2.1 3), (u_2.1 4), (u_2.1 5)] : List (Int32)).getD i 0), (fun i => ([u_2.2.1 0] : List (Nat)).getD i 0), (fun i => ([(u_2.2.2.1 0), (u_2.2.2.1 1), (u_2.2.2.1 2), (u_2.2.2.1 3), (u_2.2.2.1 4), (u_2.2.2.1 5), (u_2.2.2.1 6)] : List (Nat → Int32)).getD i (fun _ => 0)), (fun i => ([] : List (Nat → Int64)).getD i (fun _ => 0)), (fun i => ([] : List (Int64)).getD i 0)) (show u_2.2.1 0 ≤ 14 by omega) (x_B hP hD) dX11_eaten_19
  · skip
    obtain ⟨n_7, rfl, hn_7⟩ := hp_3.resolve_left c_6
    refine lv_aload_n hx hb dX11_eaten_8 rfl (lv_at hl 0 rfl) ?_
    refine x_get S hK hP 0 rfl cfX11 27 lkX11_58 (by decide) rfl dX11_eaten_9 ?_
    refine lv_iload_n hx hb dX11_eaten_12 rfl (lv_at hl 1 rfl) ?_
    refine x_iald S hK hP 10 rfl (vp_in_nI (by omega) (by decide)) dX11_eaten_13 ?_
    refine lv_topi (fun v_8 ev_8 => ?_)
    refine lv_goto (tgt := 19) hx hb dX11_eaten_14 (by decide) ?_
    exact x_reti S hr hlk hQ hS ((fun i => ([(u_2.1 0), (u_2.1 1), (u_2.1 2), (u_2.1 3), (u_2.1 4), (u_2.1 5)] : List (Int32)).getD i 0), (fun i => ([u_2.2.1 0] : List (Nat)).getD i 0), (fun i => ([(u_2.2.2.1 0), (u_2.2.2.1 1), (u_2.2.2.1 2), (u_2.2.2.1 3), (u_2.2.2.1 4), (u_2.2.2.1 5), (u_2.2.2.1 6)] : List (Nat → Int32)).getD i (fun _ => 0)), (fun i => ([] : List (Nat → Int64)).getD i (fun _ => 0)), (fun i => ([] : List (Int64)).getD i 0)) (show u_2.2.1 0 ≤ 14 by omega) (x_B hP hD) dX11_eaten_19

set_option maxHeartbeats 4000000 in
set_option maxRecDepth 100000 in
theorem ctX11_turned (l : Launch) (D : va_G) (k : Nat → ClassId) (z : Nat → Nat) (n : Nat → Nat) (mthrown : Int32) (mtaped : Nat) (msize : Nat) (mat : Nat) (mfrom : Nat) (mtoken : Int32) (mvalue : Int32) (mfaultKind : Int32) (mfaultPlace : Int32) (mmoreMany : Nat) (mlawNow : Int32) (mwetSet : Int32) (moverAll : Int32) (mones : Int32) (mtwos : Int32) (mgone : Int32) (mroundNow : Int32) (msampleFor : Int64) (msampleAll : Int64) (maskWorst : Int32) (moftenAll : Int64) (moftenView : Int64) (moftenOnes : Int64) (fworld : Nat → Int32) (frowOf : Nat → Int32) (fplaceOf : Nat → Int32) (ffirstOf : Nat → Int32) (fhardNow : Nat → Int32) (fmoreHead : Nat → Int32) (fmoreView : Nat → Int32) (fonesAt : Nat → Int32) (ftwosAt : Nat → Int32) (fgoneAt : Nat → Int32) (p0 : Int32) (hmtaped : mtaped ≤ 600) (hmsize : msize ≤ 600) (hmat : mat ≤ 600) (hmfrom : mfrom ≤ 600) (hmmoreMany : mmoreMany ≤ 14) (hkworld : okW fworld) : MU l yX11_turned cX11_turned 2 (some .int) 9 D k z [.ref (n 0), .int p0] [((n 0), .inr (11, [.int mthrown, .ref (n 1), .ref (n 2), .ref (n 3), .ref (n 4), .int (nI mtaped), .ref (n 5), .int (nI msize), .int (nI mat), .int (nI mfrom), .int mtoken, .int mvalue, .int mfaultKind, .int mfaultPlace, .ref (n 6), .ref (n 7), .ref (n 8), .ref (n 9), .ref (n 10), .ref (n 11), .ref (n 12), .int (nI mmoreMany), .int mlawNow, .int mwetSet, .int moverAll, .ref (n 13), .ref (n 14), .ref (n 15), .int mones, .int mtwos, .int mgone, .ref (n 16), .ref (n 17), .int mroundNow, .ref (n 18), .long msampleFor, .long msampleAll, .ref (n 19), .int maskWorst, .long moftenAll, .long moftenView, .long moftenOnes, .ref (n 20), .ref (n 21), .ref (n 22), .ref (n 23)])), ((n 1), .inl (k 0, 99, .inl fworld)), ((n 7), .inl (k 0, 12, .inl frowOf)), ((n 8), .inl (k 0, 12, .inl fplaceOf)), ((n 9), .inl (k 0, 4, .inl ffirstOf)), ((n 10), .inl (k 0, 12, .inl fhardNow)), ((n 11), .inl (k 0, 14, .inl fmoreHead)), ((n 12), .inl (k 0, 14, .inl fmoreView)), ((n 13), .inl (k 0, 17, .inl fonesAt)), ((n 14), .inl (k 0, 17, .inl ftwosAt)), ((n 15), .inl (k 0, 17, .inl fgoneAt))] 0 0 (Ui D (fun (r : Int32) (u : (Nat → Int32) × (Nat → Nat) × (Nat → Nat → Int32) × (Nat → Nat → Int64) × (Nat → Int64)) => (u.2.1 0 ≤ 14)) (fun u : (Nat → Int32) × (Nat → Nat) × (Nat → Nat → Int32) × (Nat → Nat → Int64) × (Nat → Int64) => [((n 0), .inr (11, [.int mthrown, .ref (n 1), .ref (n 2), .ref (n 3), .ref (n 4), .int (nI mtaped), .ref (n 5), .int (nI msize), .int (nI mat), .int (nI mfrom), .int mtoken, .int mvalue, .int mfaultKind, .int mfaultPlace, .ref (n 6), .ref (n 7), .ref (n 8), .ref (n 9), .ref (n 10), .ref (n 11), .ref (n 12), .int (nI (u.2.1 0)), .int (u.1 0), .int (u.1 1), .int (u.1 2), .ref (n 13), .ref (n 14), .ref (n 15), .int (u.1 3), .int (u.1 4), .int (u.1 5), .ref (n 16), .ref (n 17), .int mroundNow, .ref (n 18), .long msampleFor, .long msampleAll, .ref (n 19), .int maskWorst, .long moftenAll, .long moftenView, .long moftenOnes, .ref (n 20), .ref (n 21), .ref (n 22), .ref (n 23)])), ((n 1), .inl (k 0, 99, .inl fworld)), ((n 7), .inl (k 0, 12, .inl (u.2.2.1 4))), ((n 8), .inl (k 0, 12, .inl (u.2.2.1 5))), ((n 9), .inl (k 0, 4, .inl (u.2.2.1 6))), ((n 10), .inl (k 0, 12, .inl (u.2.2.1 0))), ((n 11), .inl (k 0, 14, .inl fmoreHead)), ((n 12), .inl (k 0, 14, .inl fmoreView)), ((n 13), .inl (k 0, 17, .inl (u.2.2.1 1))), ((n 14), .inl (k 0, 17, .inl (u.2.2.1 2))), ((n 15), .inl (k 0, 17, .inl (u.2.2.1 3)))])) := by
  refine MU.of (by decide) (Nat.le_of_ble_eq_true rfl) ?_
  intro p e s m below meth c ls A args Q S hr hlk hnm hQ hK hP hD hZ hA hS hl
  have hx := S.1
  have hb := S.2.1
  have hl : lv_has ls 2 [(0, .ref (n 0)), (1, .int p0)] := hl
  have hbfworld := okW_bd hkworld
  refine lv_aload_n hx hb dX11_turned_0 rfl (lv_at hl 0 rfl) ?_
  refine lv_iload_n hx hb dX11_turned_1 rfl (lv_at hl 1 rfl) ?_
  refine x_muVi (wr := []) (As := [.int p0]) S hK hP hD hZ hS hA hl mwX11_asksHour lkX11_330 (ctX11_asksHour l D k z n mthrown mtaped msize mat mfrom mtoken mvalue mfaultKind mfaultPlace mmoreMany mlawNow mwetSet moverAll mones mtwos mgone mroundNow msampleFor msampleAll maskWorst moftenAll moftenView moftenOnes fworld frowOf fplaceOf ffirstOf fhardNow fmoreHead fmoreView fonesAt ftwosAt fgoneAt p0 (by omega) (by omega) (by omega) (by omega) (by omega) (hkworld)) [0, 1, 2, 3, 4, 5, 6, 7, 8, 9, 10] [] rfl rfl (by decide) (by decide) (by decide) rfl rfl rfl rfl rfl ⟨Nat.le_of_ble_eq_true rfl, Nat.le_of_ble_eq_true rfl, Nat.le_of_ble_eq_true rfl⟩ dX11_turned_2 ⟨Nat.le_of_ble_eq_true rfl, Nat.le_of_ble_eq_true rfl⟩ (fun r_1 u_2 H locs hr_1 hP hD hS => ?_)
  have hP : va_P D vwCl [((n 0), .inr (11, [.int mthrown, .ref (n 1), .ref (n 2), .ref (n 3), .ref (n 4), .int (nI mtaped), .ref (n 5), .int (nI msize), .int (nI mat), .int (nI mfrom), .int mtoken, .int mvalue, .int mfaultKind, .int mfaultPlace, .ref (n 6), .ref (n 7), .ref (n 8), .ref (n 9), .ref (n 10), .ref (n 11), .ref (n 12), .int (nI (u_2.2.1 0)), .int (u_2.1 0), .int (u_2.1 1), .int (u_2.1 2), .ref (n 13), .ref (n 14), .ref (n 15), .int (u_2.1 3), .int (u_2.1 4), .int (u_2.1 5), .ref (n 16), .ref (n 17), .int mroundNow, .ref (n 18), .long msampleFor, .long msampleAll, .ref (n 19), .int maskWorst, .long moftenAll, .long moftenView, .long moftenOnes, .ref (n 20), .ref (n 21), .ref (n 22), .ref (n 23)])), ((n 1), .inl (k 0, 99, .inl fworld)), ((n 7), .inl (k 0, 12, .inl (u_2.2.2.1 4))), ((n 8), .inl (k 0, 12, .inl (u_2.2.2.1 5))), ((n 9), .inl (k 0, 4, .inl (u_2.2.2.1 6))), ((n 10), .inl (k 0, 12, .inl (u_2.2.2.1 0))), ((n 11), .inl (k 0, 14, .inl fmoreHead)), ((n 12), .inl (k 0, 14, .inl fmoreView)), ((n 13), .inl (k 0, 17, .inl (u_2.2.2.1 1))), ((n 14), .inl (k 0, 17, .inl (u_2.2.2.1 2))), ((n 15), .inl (k 0, 17, .inl (u_2.2.2.1 3)))] H := hP.sub [0, 1, 2, 3, 4, 5, 6, 7, 8, 9, 10] rfl
  have hD : va_D A [((n 0), .inr (11, [.int mthrown, .ref (n 1), .ref (n 2), .ref (n 3), .ref (n 4), .int (nI mtaped), .ref (n 5), .int (nI msize), .int (nI mat), .int (nI mfrom), .int mtoken, .int mvalue, .int mfaultKind, .int mfaultPlace, .ref (n 6), .ref (n 7), .ref (n 8), .ref (n 9), .ref (n 10), .ref (n 11), .ref (n 12), .int (nI (u_2.2.1 0)), .int (u_2.1 0), .int (u_2.1 1), .int (u_2.1 2), .ref (n 13), .ref (n 14), .ref (n 15), .int (u_2.1 3), .int (u_2.1 4), .int (u_2.1 5), .ref (n 16), .ref (n 17), .int mroundNow, .ref (n 18), .long msampleFor, .long msampleAll, .ref (n 19), .int maskWorst, .long moftenAll, .long moftenView, .long moftenOnes, .ref (n 20), .ref (n 21), .ref (n 22), .ref (n 23)])), ((n 1), .inl (k 0, 99, .inl fworld)), ((n 7), .inl (k 0, 12, .inl (u_2.2.2.1 4))), ((n 8), .inl (k 0, 12, .inl (u_2.2.2.1 5))), ((n 9), .inl (k 0, 4, .inl (u_2.2.2.1 6))), ((n 10), .inl (k 0, 12, .inl (u_2.2.2.1 0))), ((n 11), .inl (k 0, 14, .inl fmoreHead)), ((n 12), .inl (k 0, 14, .inl fmoreView)), ((n 13), .inl (k 0, 17, .inl (u_2.2.2.1 1))), ((n 14), .inl (k 0, 17, .inl (u_2.2.2.1 2))), ((n 15), .inl (k 0, 17, .inl (u_2.2.2.1 3)))] := hD.sub [0, 1, 2, 3, 4, 5, 6, 7, 8, 9, 10] (by decide) rfl
  obtain ⟨hp_3, hz_4, hg_5⟩ := hr_1
  refine lv_if_eq (tgt := 16) hx hb dX11_turned_5 (by decide) (fun c_6 => ?_) (fun c_6 => ?_)
  · skip
    refine lv_bipush (v := (-2)) hx hb dX11_turned_16 (by decide) ?_
    exact x_reti S hr hlk hQ hS ((fun i => ([(u_2.1 0), (u_2.1 1), (u_2.1 2), (u_2.1 3), (u_2.1 4), (u_2.1 5)] : List (Int32)).getD i 0), (fun i => ([u_2.2.1 0] : List (Nat)).getD i 0), (fun i => ([(u_2.2.2.1 0), (u_2.2.2.1 1), (u_2.2.2.1 2), (u_2.2.2.1 3), (u_2.2.2.1 4), (u_2.2.2.1 5), (u_2.2.2.1 6)] : List (Nat → Int32)).getD i (fun _ => 0)), (fun i => ([] : List (Nat → Int64)).getD i (fun _ => 0)), (fun i => ([] : List (Int64)).getD i 0)) (show u_2.2.1 0 ≤ 14 by omega) (x_B hP hD) dX11_turned_18
  · skip
    obtain ⟨n_7, rfl, hn_7⟩ := hp_3.resolve_left c_6
    refine lv_aload_n hx hb dX11_turned_8 rfl (lv_at hl 0 rfl) ?_
    refine lv_iload_n hx hb dX11_turned_9 rfl (lv_at hl 1 rfl) ?_
    refine x_roVi (As := [.int (nI n_7)]) S hK hP hD hZ (fun _ h => h) hA hS hA hl mwX11_turnedOf lkX11_339 (ctX11_turnedOf l D k z n mthrown mtaped msize mat mfrom mtoken mvalue mfaultKind mfaultPlace (u_2.2.1 0) (u_2.1 0) (u_2.1 1) (u_2.1 2) (u_2.1 3) (u_2.1 4) (u_2.1 5) mroundNow msampleFor msampleAll maskWorst moftenAll moftenView moftenOnes (u_2.2.2.1 1) (u_2.2.2.1 2) n_7 (by omega) (by omega) (by omega) (by omega) (by omega) (by omega)) [0, 8, 9] rfl (by decide) rfl rfl rfl rfl rfl ⟨Nat.le_of_ble_eq_true rfl, Nat.le_of_ble_eq_true rfl, Nat.le_of_ble_eq_true rfl⟩ dX11_turned_10 ⟨Nat.le_of_ble_eq_true rfl, Nat.le_of_ble_eq_true rfl⟩ (fun r_8 H locs hr_8 hP hS => ?_)
    refine lv_goto (tgt := 18) hx hb dX11_turned_13 (by decide) ?_
    exact x_reti S hr hlk hQ hS ((fun i => ([(u_2.1 0), (u_2.1 1), (u_2.1 2), (u_2.1 3), (u_2.1 4), (u_2.1 5)] : List (Int32)).getD i 0), (fun i => ([u_2.2.1 0] : List (Nat)).getD i 0), (fun i => ([(u_2.2.2.1 0), (u_2.2.2.1 1), (u_2.2.2.1 2), (u_2.2.2.1 3), (u_2.2.2.1 4), (u_2.2.2.1 5), (u_2.2.2.1 6)] : List (Nat → Int32)).getD i (fun _ => 0)), (fun i => ([] : List (Nat → Int64)).getD i (fun _ => 0)), (fun i => ([] : List (Int64)).getD i 0)) (show u_2.2.1 0 ≤ 14 by omega) (x_B hP hD) dX11_turned_18

set_option maxHeartbeats 4000000 in
set_option maxRecDepth 100000 in
theorem ctX11_sways (l : Launch) (D : va_G) (k : Nat → ClassId) (z : Nat → Nat) (n : Nat → Nat) (mthrown : Int32) (mtaped : Nat) (msize : Nat) (mat : Nat) (mfrom : Nat) (mtoken : Int32) (mvalue : Int32) (mfaultKind : Int32) (mfaultPlace : Int32) (mmoreMany : Nat) (mlawNow : Int32) (mwetSet : Int32) (moverAll : Int32) (mones : Int32) (mtwos : Int32) (mgone : Int32) (mroundNow : Int32) (msampleFor : Int64) (msampleAll : Int64) (maskWorst : Int32) (moftenAll : Int64) (moftenView : Int64) (moftenOnes : Int64) (fworld : Nat → Int32) (frowOf : Nat → Int32) (fplaceOf : Nat → Int32) (ffirstOf : Nat → Int32) (fhardNow : Nat → Int32) (fmoreHead : Nat → Int32) (fmoreView : Nat → Int32) (fonesAt : Nat → Int32) (ftwosAt : Nat → Int32) (fgoneAt : Nat → Int32) (p0 : Int32) (hmtaped : mtaped ≤ 600) (hmsize : msize ≤ 600) (hmat : mat ≤ 600) (hmfrom : mfrom ≤ 600) (hmmoreMany : mmoreMany ≤ 14) (hkworld : okW fworld) : MU l yX11_sways cX11_sways 2 (some .int) 9 D k z [.ref (n 0), .int p0] [((n 0), .inr (11, [.int mthrown, .ref (n 1), .ref (n 2), .ref (n 3), .ref (n 4), .int (nI mtaped), .ref (n 5), .int (nI msize), .int (nI mat), .int (nI mfrom), .int mtoken, .int mvalue, .int mfaultKind, .int mfaultPlace, .ref (n 6), .ref (n 7), .ref (n 8), .ref (n 9), .ref (n 10), .ref (n 11), .ref (n 12), .int (nI mmoreMany), .int mlawNow, .int mwetSet, .int moverAll, .ref (n 13), .ref (n 14), .ref (n 15), .int mones, .int mtwos, .int mgone, .ref (n 16), .ref (n 17), .int mroundNow, .ref (n 18), .long msampleFor, .long msampleAll, .ref (n 19), .int maskWorst, .long moftenAll, .long moftenView, .long moftenOnes, .ref (n 20), .ref (n 21), .ref (n 22), .ref (n 23)])), ((n 1), .inl (k 0, 99, .inl fworld)), ((n 7), .inl (k 0, 12, .inl frowOf)), ((n 8), .inl (k 0, 12, .inl fplaceOf)), ((n 9), .inl (k 0, 4, .inl ffirstOf)), ((n 10), .inl (k 0, 12, .inl fhardNow)), ((n 11), .inl (k 0, 14, .inl fmoreHead)), ((n 12), .inl (k 0, 14, .inl fmoreView)), ((n 13), .inl (k 0, 17, .inl fonesAt)), ((n 14), .inl (k 0, 17, .inl ftwosAt)), ((n 15), .inl (k 0, 17, .inl fgoneAt))] 0 0 (Ui D (fun (r : Int32) (u : (Nat → Int32) × (Nat → Nat) × (Nat → Nat → Int32) × (Nat → Nat → Int64) × (Nat → Int64)) => (u.2.1 0 ≤ 14)) (fun u : (Nat → Int32) × (Nat → Nat) × (Nat → Nat → Int32) × (Nat → Nat → Int64) × (Nat → Int64) => [((n 0), .inr (11, [.int mthrown, .ref (n 1), .ref (n 2), .ref (n 3), .ref (n 4), .int (nI mtaped), .ref (n 5), .int (nI msize), .int (nI mat), .int (nI mfrom), .int mtoken, .int mvalue, .int mfaultKind, .int mfaultPlace, .ref (n 6), .ref (n 7), .ref (n 8), .ref (n 9), .ref (n 10), .ref (n 11), .ref (n 12), .int (nI (u.2.1 0)), .int (u.1 0), .int (u.1 1), .int (u.1 2), .ref (n 13), .ref (n 14), .ref (n 15), .int (u.1 3), .int (u.1 4), .int (u.1 5), .ref (n 16), .ref (n 17), .int mroundNow, .ref (n 18), .long msampleFor, .long msampleAll, .ref (n 19), .int maskWorst, .long moftenAll, .long moftenView, .long moftenOnes, .ref (n 20), .ref (n 21), .ref (n 22), .ref (n 23)])), ((n 1), .inl (k 0, 99, .inl fworld)), ((n 7), .inl (k 0, 12, .inl (u.2.2.1 4))), ((n 8), .inl (k 0, 12, .inl (u.2.2.1 5))), ((n 9), .inl (k 0, 4, .inl (u.2.2.1 6))), ((n 10), .inl (k 0, 12, .inl (u.2.2.1 0))), ((n 11), .inl (k 0, 14, .inl fmoreHead)), ((n 12), .inl (k 0, 14, .inl fmoreView)), ((n 13), .inl (k 0, 17, .inl (u.2.2.1 1))), ((n 14), .inl (k 0, 17, .inl (u.2.2.1 2))), ((n 15), .inl (k 0, 17, .inl (u.2.2.1 3)))])) := by
  refine MU.of (by decide) (Nat.le_of_ble_eq_true rfl) ?_
  intro p e s m below meth c ls A args Q S hr hlk hnm hQ hK hP hD hZ hA hS hl
  have hx := S.1
  have hb := S.2.1
  have hl : lv_has ls 2 [(0, .ref (n 0)), (1, .int p0)] := hl
  have hbfworld := okW_bd hkworld
  refine lv_aload_n hx hb dX11_sways_0 rfl (lv_at hl 0 rfl) ?_
  refine lv_iload_n hx hb dX11_sways_1 rfl (lv_at hl 1 rfl) ?_
  refine x_muVi (wr := []) (As := [.int p0]) S hK hP hD hZ hS hA hl mwX11_asksHead lkX11_342 (ctX11_asksHead l D k z n mthrown mtaped msize mat mfrom mtoken mvalue mfaultKind mfaultPlace mmoreMany mlawNow mwetSet moverAll mones mtwos mgone mroundNow msampleFor msampleAll maskWorst moftenAll moftenView moftenOnes fworld frowOf fplaceOf ffirstOf fhardNow fmoreHead fmoreView fonesAt ftwosAt fgoneAt p0 (by omega) (by omega) (by omega) (by omega) (by omega) (hkworld)) [0, 1, 2, 3, 4, 5, 6, 7, 8, 9, 10] [] rfl rfl (by decide) (by decide) (by decide) rfl rfl rfl rfl rfl ⟨Nat.le_of_ble_eq_true rfl, Nat.le_of_ble_eq_true rfl, Nat.le_of_ble_eq_true rfl⟩ dX11_sways_2 ⟨Nat.le_of_ble_eq_true rfl, Nat.le_of_ble_eq_true rfl⟩ (fun r_1 u_2 H locs hr_1 hP hD hS => ?_)
  have hP : va_P D vwCl [((n 0), .inr (11, [.int mthrown, .ref (n 1), .ref (n 2), .ref (n 3), .ref (n 4), .int (nI mtaped), .ref (n 5), .int (nI msize), .int (nI mat), .int (nI mfrom), .int mtoken, .int mvalue, .int mfaultKind, .int mfaultPlace, .ref (n 6), .ref (n 7), .ref (n 8), .ref (n 9), .ref (n 10), .ref (n 11), .ref (n 12), .int (nI (u_2.2.1 0)), .int (u_2.1 0), .int (u_2.1 1), .int (u_2.1 2), .ref (n 13), .ref (n 14), .ref (n 15), .int (u_2.1 3), .int (u_2.1 4), .int (u_2.1 5), .ref (n 16), .ref (n 17), .int mroundNow, .ref (n 18), .long msampleFor, .long msampleAll, .ref (n 19), .int maskWorst, .long moftenAll, .long moftenView, .long moftenOnes, .ref (n 20), .ref (n 21), .ref (n 22), .ref (n 23)])), ((n 1), .inl (k 0, 99, .inl fworld)), ((n 7), .inl (k 0, 12, .inl (u_2.2.2.1 4))), ((n 8), .inl (k 0, 12, .inl (u_2.2.2.1 5))), ((n 9), .inl (k 0, 4, .inl (u_2.2.2.1 6))), ((n 10), .inl (k 0, 12, .inl (u_2.2.2.1 0))), ((n 11), .inl (k 0, 14, .inl fmoreHead)), ((n 12), .inl (k 0, 14, .inl fmoreView)), ((n 13), .inl (k 0, 17, .inl (u_2.2.2.1 1))), ((n 14), .inl (k 0, 17, .inl (u_2.2.2.1 2))), ((n 15), .inl (k 0, 17, .inl (u_2.2.2.1 3)))] H := hP.sub [0, 1, 2, 3, 4, 5, 6, 7, 8, 9, 10] rfl
  have hD : va_D A [((n 0), .inr (11, [.int mthrown, .ref (n 1), .ref (n 2), .ref (n 3), .ref (n 4), .int (nI mtaped), .ref (n 5), .int (nI msize), .int (nI mat), .int (nI mfrom), .int mtoken, .int mvalue, .int mfaultKind, .int mfaultPlace, .ref (n 6), .ref (n 7), .ref (n 8), .ref (n 9), .ref (n 10), .ref (n 11), .ref (n 12), .int (nI (u_2.2.1 0)), .int (u_2.1 0), .int (u_2.1 1), .int (u_2.1 2), .ref (n 13), .ref (n 14), .ref (n 15), .int (u_2.1 3), .int (u_2.1 4), .int (u_2.1 5), .ref (n 16), .ref (n 17), .int mroundNow, .ref (n 18), .long msampleFor, .long msampleAll, .ref (n 19), .int maskWorst, .long moftenAll, .long moftenView, .long moftenOnes, .ref (n 20), .ref (n 21), .ref (n 22), .ref (n 23)])), ((n 1), .inl (k 0, 99, .inl fworld)), ((n 7), .inl (k 0, 12, .inl (u_2.2.2.1 4))), ((n 8), .inl (k 0, 12, .inl (u_2.2.2.1 5))), ((n 9), .inl (k 0, 4, .inl (u_2.2.2.1 6))), ((n 10), .inl (k 0, 12, .inl (u_2.2.2.1 0))), ((n 11), .inl (k 0, 14, .inl fmoreHead)), ((n 12), .inl (k 0, 14, .inl fmoreView)), ((n 13), .inl (k 0, 17, .inl (u_2.2.2.1 1))), ((n 14), .inl (k 0, 17, .inl (u_2.2.2.1 2))), ((n 15), .inl (k 0, 17, .inl (u_2.2.2.1 3)))] := hD.sub [0, 1, 2, 3, 4, 5, 6, 7, 8, 9, 10] (by decide) rfl
  obtain ⟨hp_3, hz_4, hg_5⟩ := hr_1
  refine lv_if_eq (tgt := 16) hx hb dX11_sways_5 (by decide) (fun c_6 => ?_) (fun c_6 => ?_)
  · skip
    refine lv_bipush (v := (-2)) hx hb dX11_sways_16 (by decide) ?_
    exact x_reti S hr hlk hQ hS ((fun i => ([(u_2.1 0), (u_2.1 1), (u_2.1 2), (u_2.1 3), (u_2.1 4), (u_2.1 5)] : List (Int32)).getD i 0), (fun i => ([u_2.2.1 0] : List (Nat)).getD i 0), (fun i => ([(u_2.2.2.1 0), (u_2.2.2.1 1), (u_2.2.2.1 2), (u_2.2.2.1 3), (u_2.2.2.1 4), (u_2.2.2.1 5), (u_2.2.2.1 6)] : List (Nat → Int32)).getD i (fun _ => 0)), (fun i => ([] : List (Nat → Int64)).getD i (fun _ => 0)), (fun i => ([] : List (Int64)).getD i 0)) (show u_2.2.1 0 ≤ 14 by omega) (x_B hP hD) dX11_sways_18
  · skip
    obtain ⟨n_7, rfl, hn_7⟩ := hp_3.resolve_left c_6
    refine lv_aload_n hx hb dX11_sways_8 rfl (lv_at hl 0 rfl) ?_
    refine lv_iload_n hx hb dX11_sways_9 rfl (lv_at hl 1 rfl) ?_
    refine x_roVi (As := [.int (nI n_7)]) S hK hP hD hZ (fun _ h => h) hA hS hA hl mwX11_swaysOf lkX11_345 (ctX11_swaysOf l D k z n mthrown mtaped msize mat mfrom mtoken mvalue mfaultKind mfaultPlace (u_2.2.1 0) (u_2.1 0) (u_2.1 1) (u_2.1 2) (u_2.1 3) (u_2.1 4) (u_2.1 5) mroundNow msampleFor msampleAll maskWorst moftenAll moftenView moftenOnes fworld (u_2.2.2.1 1) (u_2.2.2.1 2) (nI n_7) (by omega) (by omega) (by omega) (by omega) (by omega) (hkworld)) [0, 1, 8, 9] rfl (by decide) rfl rfl rfl rfl rfl ⟨Nat.le_of_ble_eq_true rfl, Nat.le_of_ble_eq_true rfl, Nat.le_of_ble_eq_true rfl⟩ dX11_sways_10 ⟨Nat.le_of_ble_eq_true rfl, Nat.le_of_ble_eq_true rfl⟩ (fun r_8 H locs hr_8 hP hS => ?_)
    refine lv_goto (tgt := 18) hx hb dX11_sways_13 (by decide) ?_
    exact x_reti S hr hlk hQ hS ((fun i => ([(u_2.1 0), (u_2.1 1), (u_2.1 2), (u_2.1 3), (u_2.1 4), (u_2.1 5)] : List (Int32)).getD i 0), (fun i => ([u_2.2.1 0] : List (Nat)).getD i 0), (fun i => ([(u_2.2.2.1 0), (u_2.2.2.1 1), (u_2.2.2.1 2), (u_2.2.2.1 3), (u_2.2.2.1 4), (u_2.2.2.1 5), (u_2.2.2.1 6)] : List (Nat → Int32)).getD i (fun _ => 0)), (fun i => ([] : List (Nat → Int64)).getD i (fun _ => 0)), (fun i => ([] : List (Int64)).getD i 0)) (show u_2.2.1 0 ≤ 14 by omega) (x_B hP hD) dX11_sways_18

set_option maxHeartbeats 4000000 in
set_option maxRecDepth 100000 in
theorem ctX11_when (l : Launch) (D : va_G) (k : Nat → ClassId) (z : Nat → Nat) (n : Nat → Nat) (mthrown : Int32) (mtaped : Nat) (msize : Nat) (mat : Nat) (mfrom : Nat) (mtoken : Int32) (mvalue : Int32) (mfaultKind : Int32) (mfaultPlace : Int32) (mmoreMany : Nat) (mlawNow : Int32) (mwetSet : Int32) (moverAll : Int32) (mones : Int32) (mtwos : Int32) (mgone : Int32) (mroundNow : Int32) (msampleFor : Int64) (msampleAll : Int64) (maskWorst : Int32) (moftenAll : Int64) (moftenView : Int64) (moftenOnes : Int64) (fworld : Nat → Int32) (frowOf : Nat → Int32) (fplaceOf : Nat → Int32) (ffirstOf : Nat → Int32) (fhardNow : Nat → Int32) (fmoreHead : Nat → Int32) (fmoreView : Nat → Int32) (fonesAt : Nat → Int32) (ftwosAt : Nat → Int32) (fgoneAt : Nat → Int32) (p0 : Int32) (p1 : Int32) (hmtaped : mtaped ≤ 600) (hmsize : msize ≤ 600) (hmat : mat ≤ 600) (hmfrom : mfrom ≤ 600) (hmmoreMany : mmoreMany ≤ 14) (hkworld : okW fworld) : MU l yX11_when cX11_when 4 (some .int) 9 D k z [.ref (n 0), .int p0, .int p1] [((n 0), .inr (11, [.int mthrown, .ref (n 1), .ref (n 2), .ref (n 3), .ref (n 4), .int (nI mtaped), .ref (n 5), .int (nI msize), .int (nI mat), .int (nI mfrom), .int mtoken, .int mvalue, .int mfaultKind, .int mfaultPlace, .ref (n 6), .ref (n 7), .ref (n 8), .ref (n 9), .ref (n 10), .ref (n 11), .ref (n 12), .int (nI mmoreMany), .int mlawNow, .int mwetSet, .int moverAll, .ref (n 13), .ref (n 14), .ref (n 15), .int mones, .int mtwos, .int mgone, .ref (n 16), .ref (n 17), .int mroundNow, .ref (n 18), .long msampleFor, .long msampleAll, .ref (n 19), .int maskWorst, .long moftenAll, .long moftenView, .long moftenOnes, .ref (n 20), .ref (n 21), .ref (n 22), .ref (n 23)])), ((n 1), .inl (k 0, 99, .inl fworld)), ((n 7), .inl (k 0, 12, .inl frowOf)), ((n 8), .inl (k 0, 12, .inl fplaceOf)), ((n 9), .inl (k 0, 4, .inl ffirstOf)), ((n 10), .inl (k 0, 12, .inl fhardNow)), ((n 11), .inl (k 0, 14, .inl fmoreHead)), ((n 12), .inl (k 0, 14, .inl fmoreView)), ((n 13), .inl (k 0, 17, .inl fonesAt)), ((n 14), .inl (k 0, 17, .inl ftwosAt)), ((n 15), .inl (k 0, 17, .inl fgoneAt))] 0 0 (Ui D (fun (r : Int32) (u : (Nat → Int32) × (Nat → Nat) × (Nat → Nat → Int32) × (Nat → Nat → Int64) × (Nat → Int64)) => (u.2.1 0 ≤ 14)) (fun u : (Nat → Int32) × (Nat → Nat) × (Nat → Nat → Int32) × (Nat → Nat → Int64) × (Nat → Int64) => [((n 0), .inr (11, [.int mthrown, .ref (n 1), .ref (n 2), .ref (n 3), .ref (n 4), .int (nI mtaped), .ref (n 5), .int (nI msize), .int (nI mat), .int (nI mfrom), .int mtoken, .int mvalue, .int mfaultKind, .int mfaultPlace, .ref (n 6), .ref (n 7), .ref (n 8), .ref (n 9), .ref (n 10), .ref (n 11), .ref (n 12), .int (nI (u.2.1 0)), .int (u.1 0), .int (u.1 1), .int (u.1 2), .ref (n 13), .ref (n 14), .ref (n 15), .int (u.1 3), .int (u.1 4), .int (u.1 5), .ref (n 16), .ref (n 17), .int mroundNow, .ref (n 18), .long msampleFor, .long msampleAll, .ref (n 19), .int maskWorst, .long moftenAll, .long moftenView, .long moftenOnes, .ref (n 20), .ref (n 21), .ref (n 22), .ref (n 23)])), ((n 1), .inl (k 0, 99, .inl fworld)), ((n 7), .inl (k 0, 12, .inl (u.2.2.1 4))), ((n 8), .inl (k 0, 12, .inl (u.2.2.1 5))), ((n 9), .inl (k 0, 4, .inl (u.2.2.1 6))), ((n 10), .inl (k 0, 12, .inl (u.2.2.1 0))), ((n 11), .inl (k 0, 14, .inl fmoreHead)), ((n 12), .inl (k 0, 14, .inl fmoreView)), ((n 13), .inl (k 0, 17, .inl (u.2.2.1 1))), ((n 14), .inl (k 0, 17, .inl (u.2.2.1 2))), ((n 15), .inl (k 0, 17, .inl (u.2.2.1 3)))])) := by
  refine MU.of (by decide) (Nat.le_of_ble_eq_true rfl) ?_
  intro p e s m below meth c ls A args Q S hr hlk hnm hQ hK hP hD hZ hA hS hl
  have hx := S.1
  have hb := S.2.1
  have hl : lv_has ls 4 [(0, .ref (n 0)), (1, .int p0), (2, .int p1)] := hl
  have hbfworld := okW_bd hkworld
  refine lv_aload_n hx hb dX11_when_0 rfl (lv_at hl 0 rfl) ?_
  refine lv_iload_n hx hb dX11_when_1 rfl (lv_at hl 1 rfl) ?_
  refine x_muVi (wr := []) (As := [.int p0]) S hK hP hD hZ hS hA hl mwX11_asksHead lkX11_342 (ctX11_asksHead l D k z n mthrown mtaped msize mat mfrom mtoken mvalue mfaultKind mfaultPlace mmoreMany mlawNow mwetSet moverAll mones mtwos mgone mroundNow msampleFor msampleAll maskWorst moftenAll moftenView moftenOnes fworld frowOf fplaceOf ffirstOf fhardNow fmoreHead fmoreView fonesAt ftwosAt fgoneAt p0 (by omega) (by omega) (by omega) (by omega) (by omega) (hkworld)) [0, 1, 2, 3, 4, 5, 6, 7, 8, 9, 10] [] rfl rfl (by decide) (by decide) (by decide) rfl rfl rfl rfl rfl ⟨Nat.le_of_ble_eq_true rfl, Nat.le_of_ble_eq_true rfl, Nat.le_of_ble_eq_true rfl⟩ dX11_when_2 ⟨Nat.le_of_ble_eq_true rfl, Nat.le_of_ble_eq_true rfl⟩ (fun r_1 u_2 H locs hr_1 hP hD hS => ?_)
  have hP : va_P D vwCl [((n 0), .inr (11, [.int mthrown, .ref (n 1), .ref (n 2), .ref (n 3), .ref (n 4), .int (nI mtaped), .ref (n 5), .int (nI msize), .int (nI mat), .int (nI mfrom), .int mtoken, .int mvalue, .int mfaultKind, .int mfaultPlace, .ref (n 6), .ref (n 7), .ref (n 8), .ref (n 9), .ref (n 10), .ref (n 11), .ref (n 12), .int (nI (u_2.2.1 0)), .int (u_2.1 0), .int (u_2.1 1), .int (u_2.1 2), .ref (n 13), .ref (n 14), .ref (n 15), .int (u_2.1 3), .int (u_2.1 4), .int (u_2.1 5), .ref (n 16), .ref (n 17), .int mroundNow, .ref (n 18), .long msampleFor, .long msampleAll, .ref (n 19), .int maskWorst, .long moftenAll, .long moftenView, .long moftenOnes, .ref (n 20), .ref (n 21), .ref (n 22), .ref (n 23)])), ((n 1), .inl (k 0, 99, .inl fworld)), ((n 7), .inl (k 0, 12, .inl (u_2.2.2.1 4))), ((n 8), .inl (k 0, 12, .inl (u_2.2.2.1 5))), ((n 9), .inl (k 0, 4, .inl (u_2.2.2.1 6))), ((n 10), .inl (k 0, 12, .inl (u_2.2.2.1 0))), ((n 11), .inl (k 0, 14, .inl fmoreHead)), ((n 12), .inl (k 0, 14, .inl fmoreView)), ((n 13), .inl (k 0, 17, .inl (u_2.2.2.1 1))), ((n 14), .inl (k 0, 17, .inl (u_2.2.2.1 2))), ((n 15), .inl (k 0, 17, .inl (u_2.2.2.1 3)))] H := hP.sub [0, 1, 2, 3, 4, 5, 6, 7, 8, 9, 10] rfl
  have hD : va_D A [((n 0), .inr (11, [.int mthrown, .ref (n 1), .ref (n 2), .ref (n 3), .ref (n 4), .int (nI mtaped), .ref (n 5), .int (nI msize), .int (nI mat), .int (nI mfrom), .int mtoken, .int mvalue, .int mfaultKind, .int mfaultPlace, .ref (n 6), .ref (n 7), .ref (n 8), .ref (n 9), .ref (n 10), .ref (n 11), .ref (n 12), .int (nI (u_2.2.1 0)), .int (u_2.1 0), .int (u_2.1 1), .int (u_2.1 2), .ref (n 13), .ref (n 14), .ref (n 15), .int (u_2.1 3), .int (u_2.1 4), .int (u_2.1 5), .ref (n 16), .ref (n 17), .int mroundNow, .ref (n 18), .long msampleFor, .long msampleAll, .ref (n 19), .int maskWorst, .long moftenAll, .long moftenView, .long moftenOnes, .ref (n 20), .ref (n 21), .ref (n 22), .ref (n 23)])), ((n 1), .inl (k 0, 99, .inl fworld)), ((n 7), .inl (k 0, 12, .inl (u_2.2.2.1 4))), ((n 8), .inl (k 0, 12, .inl (u_2.2.2.1 5))), ((n 9), .inl (k 0, 4, .inl (u_2.2.2.1 6))), ((n 10), .inl (k 0, 12, .inl (u_2.2.2.1 0))), ((n 11), .inl (k 0, 14, .inl fmoreHead)), ((n 12), .inl (k 0, 14, .inl fmoreView)), ((n 13), .inl (k 0, 17, .inl (u_2.2.2.1 1))), ((n 14), .inl (k 0, 17, .inl (u_2.2.2.1 2))), ((n 15), .inl (k 0, 17, .inl (u_2.2.2.1 3)))] := hD.sub [0, 1, 2, 3, 4, 5, 6, 7, 8, 9, 10] (by decide) rfl
  obtain ⟨hp_3, hz_4, hg_5⟩ := hr_1
  refine lv_if_eq (tgt := 16) hx hb dX11_when_5 (by decide) (fun c_6 => ?_) (fun c_6 => ?_)
  · skip
    refine lv_bipush (v := (-2)) hx hb dX11_when_16 (by decide) ?_
    exact x_reti S hr hlk hQ hS ((fun i => ([(u_2.1 0), (u_2.1 1), (u_2.1 2), (u_2.1 3), (u_2.1 4), (u_2.1 5)] : List (Int32)).getD i 0), (fun i => ([u_2.2.1 0] : List (Nat)).getD i 0), (fun i => ([(u_2.2.2.1 0), (u_2.2.2.1 1), (u_2.2.2.1 2), (u_2.2.2.1 3), (u_2.2.2.1 4), (u_2.2.2.1 5), (u_2.2.2.1 6)] : List (Nat → Int32)).getD i (fun _ => 0)), (fun i => ([] : List (Nat → Int64)).getD i (fun _ => 0)), (fun i => ([] : List (Int64)).getD i 0)) (show u_2.2.1 0 ≤ 14 by omega) (x_B hP hD) dX11_when_18
  · skip
    obtain ⟨n_7, rfl, hn_7⟩ := hp_3.resolve_left c_6
    refine lv_iload_n hx hb dX11_when_8 rfl (lv_at hl 2 rfl) ?_
    refine lv_i2l (v := p1.toInt64) hx hb dX11_when_9 rfl ?_
    refine x_roSi (As := [.long p1.toInt64]) S hK hP hD hZ (fun _ h => h) hA hS hA hl mwX11_isView lkX11_348 (ctX11_isView l D k z p1.toInt64 ) [] rfl (by decide) rfl rfl ⟨Nat.le_of_ble_eq_true rfl, Nat.le_of_ble_eq_true rfl, Nat.le_of_ble_eq_true rfl⟩ dX11_when_10 ⟨Nat.le_of_ble_eq_true rfl, Nat.le_of_ble_eq_true rfl⟩ (fun r_8 H locs hr_8 hP hS => ?_)
    obtain rfl := hr_8
    refine lv_if_ne (tgt := 19) hx hb dX11_when_13 (by decide) (fun c_10 => ?_) (fun c_10 => ?_)
    · skip
      have c_10 : 1 ≤ p1.toInt64 ∧ p1.toInt64 ≤ 2 := bo_1.mp c_10
      refine lv_iconst (v := 0) hx hb dX11_when_19 (by decide) ?_
      refine lv_istore_n (lv' := [(3, .int 0), (0, .ref (n 0)), (1, .int (nI n_7)), (2, .int p1)]) hx hb dX11_when_20 rfl hl (by decide) rfl (fun ls hl => ?_)
      have lp_22 : ∀ (nn j_21 : Nat)  (H : Heap) (locs : List Loc) (ls : Array Slot), j_21 ≤ wn fworld 0 + 1 → wn fworld 0 + 1 - j_21 < nn → va_P D vwCl [((n 0), .inr (11, [.int mthrown, .ref (n 1), .ref (n 2), .ref (n 3), .ref (n 4), .int (nI mtaped), .ref (n 5), .int (nI msize), .int (nI mat), .int (nI mfrom), .int mtoken, .int mvalue, .int mfaultKind, .int mfaultPlace, .ref (n 6), .ref (n 7), .ref (n 8), .ref (n 9), .ref (n 10), .ref (n 11), .ref (n 12), .int (nI (u_2.2.1 0)), .int (u_2.1 0), .int (u_2.1 1), .int (u_2.1 2), .ref (n 13), .ref (n 14), .ref (n 15), .int (u_2.1 3), .int (u_2.1 4), .int (u_2.1 5), .ref (n 16), .ref (n 17), .int mroundNow, .ref (n 18), .long msampleFor, .long msampleAll, .ref (n 19), .int maskWorst, .long moftenAll, .long moftenView, .long moftenOnes, .ref (n 20), .ref (n 21), .ref (n 22), .ref (n 23)])), ((n 1), .inl (k 0, 99, .inl fworld)), ((n 7), .inl (k 0, 12, .inl (u_2.2.2.1 4))), ((n 8), .inl (k 0, 12, .inl (u_2.2.2.1 5))), ((n 9), .inl (k 0, 4, .inl (u_2.2.2.1 6))), ((n 10), .inl (k 0, 12, .inl (u_2.2.2.1 0))), ((n 11), .inl (k 0, 14, .inl fmoreHead)), ((n 12), .inl (k 0, 14, .inl fmoreView)), ((n 13), .inl (k 0, 17, .inl (u_2.2.2.1 1))), ((n 14), .inl (k 0, 17, .inl (u_2.2.2.1 2))), ((n 15), .inl (k 0, 17, .inl (u_2.2.2.1 3)))] H → va_D A [((n 0), .inr (11, [.int mthrown, .ref (n 1), .ref (n 2), .ref (n 3), .ref (n 4), .int (nI mtaped), .ref (n 5), .int (nI msize), .int (nI mat), .int (nI mfrom), .int mtoken, .int mvalue, .int mfaultKind, .int mfaultPlace, .ref (n 6), .ref (n 7), .ref (n 8), .ref (n 9), .ref (n 10), .ref (n 11), .ref (n 12), .int (nI (u_2.2.1 0)), .int (u_2.1 0), .int (u_2.1 1), .int (u_2.1 2), .ref (n 13), .ref (n 14), .ref (n 15), .int (u_2.1 3), .int (u_2.1 4), .int (u_2.1 5), .ref (n 16), .ref (n 17), .int mroundNow, .ref (n 18), .long msampleFor, .long msampleAll, .ref (n 19), .int maskWorst, .long moftenAll, .long moftenView, .long moftenOnes, .ref (n 20), .ref (n 21), .ref (n 22), .ref (n 23)])), ((n 1), .inl (k 0, 99, .inl fworld)), ((n 7), .inl (k 0, 12, .inl (u_2.2.2.1 4))), ((n 8), .inl (k 0, 12, .inl (u_2.2.2.1 5))), ((n 9), .inl (k 0, 4, .inl (u_2.2.2.1 6))), ((n 10), .inl (k 0, 12, .inl (u_2.2.2.1 0))), ((n 11), .inl (k 0, 14, .inl fmoreHead)), ((n 12), .inl (k 0, 14, .inl fmoreView)), ((n 13), .inl (k 0, 17, .inl (u_2.2.2.1 1))), ((n 14), .inl (k 0, 17, .inl (u_2.2.2.1 2))), ((n 15), .inl (k 0, 17, .inl (u_2.2.2.1 3)))] → va_S A s.heap H locs → lv_has ls 4 [(3, .int (nI j_21)), (0, .ref (n 0)), (1, .int (nI n_7)), (2, .int p1)] → W p l e (Rm 9 0 0) s m args below meth c H locs 0 0 Q (F0 m 21 ls []) := by
        intro nn
        induction nn with
        | zero => intro j_21  H locs ls hjj_21 hnj_21; exact absurd hnj_21 (by omega)
        | succ nn ihj_21 =>
          intro j_21  H locs ls hjj_21 hnj_21 hP hD hS hl
          refine lv_iload_n hx hb dX11_when_21 rfl (lv_at hl 0 rfl) ?_
          refine lv_aload_n hx hb dX11_when_22 rfl (lv_at hl 1 rfl) ?_
          refine x_roVi (As := []) S hK hP hD hZ (fun _ h => h) hA hS hA hl mwX11_hours lkX11_103 (ctX11_hours l D k z n mthrown mtaped msize mat mfrom mtoken mvalue mfaultKind mfaultPlace (u_2.2.1 0) (u_2.1 0) (u_2.1 1) (u_2.1 2) (u_2.1 3) (u_2.1 4) (u_2.1 5) mroundNow msampleFor msampleAll maskWorst moftenAll moftenView moftenOnes fworld (by omega) (by omega) (by omega) (by omega) (by omega) (hkworld)) [0, 1] rfl (by decide) rfl rfl rfl rfl rfl ⟨Nat.le_of_ble_eq_true rfl, Nat.le_of_ble_eq_true rfl, Nat.le_of_ble_eq_true rfl⟩ dX11_when_23 ⟨Nat.le_of_ble_eq_true rfl, Nat.le_of_ble_eq_true rfl⟩ (fun r_23 H locs hr_23 hP hS => ?_)
          obtain rfl := hr_23
          refine lv_icmp_gt (tgt := 47) hx hb dX11_when_26 (by decide) (fun c_25 => ?_) (fun c_25 => ?_)
          · skip
            have c_25 : wn fworld 0 < j_21 := (ni_lt rfl rfl (by omega) (by omega)).mp c_25
            refine lv_iconst (v := (-1)) hx hb dX11_when_47 (by decide) ?_
            exact x_reti S hr hlk hQ hS ((fun i => ([(u_2.1 0), (u_2.1 1), (u_2.1 2), (u_2.1 3), (u_2.1 4), (u_2.1 5)] : List (Int32)).getD i 0), (fun i => ([u_2.2.1 0] : List (Nat)).getD i 0), (fun i => ([(u_2.2.2.1 0), (u_2.2.2.1 1), (u_2.2.2.1 2), (u_2.2.2.1 3), (u_2.2.2.1 4), (u_2.2.2.1 5), (u_2.2.2.1 6)] : List (Nat → Int32)).getD i (fun _ => 0)), (fun i => ([] : List (Nat → Int64)).getD i (fun _ => 0)), (fun i => ([] : List (Int64)).getD i 0)) (show u_2.2.1 0 ≤ 14 by omega) (x_B hP hD) dX11_when_48
          · skip
            have c_25 : ¬ wn fworld 0 < j_21 := fun q => c_25 ((ni_lt rfl rfl (by omega) (by omega)).mpr q)
            refine lv_aload_n hx hb dX11_when_29 rfl (lv_at hl 1 rfl) ?_
            refine lv_iload_n hx hb dX11_when_30 rfl (lv_at hl 2 rfl) ?_
            refine lv_iload_n hx hb dX11_when_31 rfl (lv_at hl 0 rfl) ?_
            refine x_roVi (As := [.int (nI n_7), .int (nI j_21)]) S hK hP hD hZ (fun _ h => h) hA hS hA hl mwX11_viewOf lkX11_333 (ctX11_viewOf l D k z n mthrown mtaped msize mat mfrom mtoken mvalue mfaultKind mfaultPlace (u_2.2.1 0) (u_2.1 0) (u_2.1 1) (u_2.1 2) (u_2.1 3) (u_2.1 4) (u_2.1 5) mroundNow msampleFor msampleAll maskWorst moftenAll moftenView moftenOnes (u_2.2.2.1 1) (u_2.2.2.1 2) (nI n_7) j_21 (by omega) (by omega) (by omega) (by omega) (by omega) (by omega)) [0, 8, 9] rfl (by decide) rfl rfl rfl rfl rfl ⟨Nat.le_of_ble_eq_true rfl, Nat.le_of_ble_eq_true rfl, Nat.le_of_ble_eq_true rfl⟩ dX11_when_32 ⟨Nat.le_of_ble_eq_true rfl, Nat.le_of_ble_eq_true rfl⟩ (fun r_26 H locs hr_26 hP hS => ?_)
            refine lv_iload_n hx hb dX11_when_35 rfl (lv_at hl 3 rfl) ?_
            refine lv_icmp_ne (tgt := 41) hx hb dX11_when_36 (by decide) (fun c_28 => ?_) (fun c_28 => ?_)
            · skip
              refine lv_iinc (v := (nI (j_21 + 1))) (lv' := [(3, .int (nI (j_21 + 1))), (0, .ref (n 0)), (1, .int (nI n_7)), (2, .int p1)]) hx hb dX11_when_41 hl (k := 0) rfl (ni_inc _) (by decide) rfl (fun ls hl => ?_)
              refine lv_goto (tgt := 21) hx hb dX11_when_44 (by decide) ?_
              exact ihj_21 (j_21 + 1)  _ _ _ (by omega) (by omega) hP hD hS (lv_sub hl [0, 1, 2, 3] rfl)
            · skip
              refine lv_iload_n hx hb dX11_when_39 rfl (lv_at hl 0 rfl) ?_
              exact x_reti S hr hlk hQ hS ((fun i => ([(u_2.1 0), (u_2.1 1), (u_2.1 2), (u_2.1 3), (u_2.1 4), (u_2.1 5)] : List (Int32)).getD i 0), (fun i => ([u_2.2.1 0] : List (Nat)).getD i 0), (fun i => ([(u_2.2.2.1 0), (u_2.2.2.1 1), (u_2.2.2.1 2), (u_2.2.2.1 3), (u_2.2.2.1 4), (u_2.2.2.1 5), (u_2.2.2.1 6)] : List (Nat → Int32)).getD i (fun _ => 0)), (fun i => ([] : List (Nat → Int64)).getD i (fun _ => 0)), (fun i => ([] : List (Int64)).getD i 0)) (show u_2.2.1 0 ≤ 14 by omega) (x_B hP hD) dX11_when_40
      exact lp_22 (wn fworld 0 + 1 + 1) 0  _ _ _ (by omega) (by omega) hP hD hS (lv_sub hl [0, 1, 2, 3] rfl)
    · skip
      have c_10 : ¬ (1 ≤ p1.toInt64 ∧ p1.toInt64 ≤ 2) := bo_0.mp c_10
      refine lv_bipush (v := (-2)) hx hb dX11_when_16 (by decide) ?_
      exact x_reti S hr hlk hQ hS ((fun i => ([(u_2.1 0), (u_2.1 1), (u_2.1 2), (u_2.1 3), (u_2.1 4), (u_2.1 5)] : List (Int32)).getD i 0), (fun i => ([u_2.2.1 0] : List (Nat)).getD i 0), (fun i => ([(u_2.2.2.1 0), (u_2.2.2.1 1), (u_2.2.2.1 2), (u_2.2.2.1 3), (u_2.2.2.1 4), (u_2.2.2.1 5), (u_2.2.2.1 6)] : List (Nat → Int32)).getD i (fun _ => 0)), (fun i => ([] : List (Nat → Int64)).getD i (fun _ => 0)), (fun i => ([] : List (Int64)).getD i 0)) (show u_2.2.1 0 ≤ 14 by omega) (x_B hP hD) dX11_when_18

set_option maxHeartbeats 4000000 in
set_option maxRecDepth 100000 in
theorem ctX11_often (l : Launch) (D : va_G) (k : Nat → ClassId) (z : Nat → Nat) (n : Nat → Nat) (mthrown : Int32) (mtaped : Nat) (msize : Nat) (mat : Nat) (mfrom : Nat) (mtoken : Int32) (mvalue : Int32) (mfaultKind : Int32) (mfaultPlace : Int32) (mmoreMany : Nat) (mlawNow : Int32) (mwetSet : Int32) (moverAll : Int32) (mones : Int32) (mtwos : Int32) (mgone : Int32) (mroundNow : Int32) (msampleFor : Int64) (msampleAll : Int64) (maskWorst : Int32) (moftenAll : Int64) (moftenView : Int64) (moftenOnes : Int64) (fworld : Nat → Int32) (frowOf : Nat → Int32) (fplaceOf : Nat → Int32) (ffirstOf : Nat → Int32) (fhardNow : Nat → Int32) (fmoreHead : Nat → Int32) (fmoreView : Nat → Int32) (fonesAt : Nat → Int32) (ftwosAt : Nat → Int32) (fgoneAt : Nat → Int32) (p0 : Int32) (p1 : Int32) (hmtaped : mtaped ≤ 600) (hmsize : msize ≤ 600) (hmat : mat ≤ 600) (hmfrom : mfrom ≤ 600) (hmmoreMany : mmoreMany ≤ 14) (hkworld : okW fworld) : MU l yX11_often cX11_often 5 (some .int) 9 D k z [.ref (n 0), .int p0, .int p1] [((n 0), .inr (11, [.int mthrown, .ref (n 1), .ref (n 2), .ref (n 3), .ref (n 4), .int (nI mtaped), .ref (n 5), .int (nI msize), .int (nI mat), .int (nI mfrom), .int mtoken, .int mvalue, .int mfaultKind, .int mfaultPlace, .ref (n 6), .ref (n 7), .ref (n 8), .ref (n 9), .ref (n 10), .ref (n 11), .ref (n 12), .int (nI mmoreMany), .int mlawNow, .int mwetSet, .int moverAll, .ref (n 13), .ref (n 14), .ref (n 15), .int mones, .int mtwos, .int mgone, .ref (n 16), .ref (n 17), .int mroundNow, .ref (n 18), .long msampleFor, .long msampleAll, .ref (n 19), .int maskWorst, .long moftenAll, .long moftenView, .long moftenOnes, .ref (n 20), .ref (n 21), .ref (n 22), .ref (n 23)])), ((n 1), .inl (k 0, 99, .inl fworld)), ((n 7), .inl (k 0, 12, .inl frowOf)), ((n 8), .inl (k 0, 12, .inl fplaceOf)), ((n 9), .inl (k 0, 4, .inl ffirstOf)), ((n 10), .inl (k 0, 12, .inl fhardNow)), ((n 11), .inl (k 0, 14, .inl fmoreHead)), ((n 12), .inl (k 0, 14, .inl fmoreView)), ((n 13), .inl (k 0, 17, .inl fonesAt)), ((n 14), .inl (k 0, 17, .inl ftwosAt)), ((n 15), .inl (k 0, 17, .inl fgoneAt))] 0 0 (Ui D (fun (r : Int32) (u : (Nat → Int32) × (Nat → Nat) × (Nat → Nat → Int32) × (Nat → Nat → Int64) × (Nat → Int64)) => (u.2.1 0 ≤ 14)) (fun u : (Nat → Int32) × (Nat → Nat) × (Nat → Nat → Int32) × (Nat → Nat → Int64) × (Nat → Int64) => [((n 0), .inr (11, [.int mthrown, .ref (n 1), .ref (n 2), .ref (n 3), .ref (n 4), .int (nI mtaped), .ref (n 5), .int (nI msize), .int (nI mat), .int (nI mfrom), .int mtoken, .int mvalue, .int mfaultKind, .int mfaultPlace, .ref (n 6), .ref (n 7), .ref (n 8), .ref (n 9), .ref (n 10), .ref (n 11), .ref (n 12), .int (nI (u.2.1 0)), .int (u.1 0), .int (u.1 1), .int (u.1 2), .ref (n 13), .ref (n 14), .ref (n 15), .int (u.1 3), .int (u.1 4), .int (u.1 5), .ref (n 16), .ref (n 17), .int mroundNow, .ref (n 18), .long msampleFor, .long msampleAll, .ref (n 19), .int maskWorst, .long moftenAll, .long moftenView, .long moftenOnes, .ref (n 20), .ref (n 21), .ref (n 22), .ref (n 23)])), ((n 1), .inl (k 0, 99, .inl fworld)), ((n 7), .inl (k 0, 12, .inl (u.2.2.1 4))), ((n 8), .inl (k 0, 12, .inl (u.2.2.1 5))), ((n 9), .inl (k 0, 4, .inl (u.2.2.1 6))), ((n 10), .inl (k 0, 12, .inl (u.2.2.1 0))), ((n 11), .inl (k 0, 14, .inl fmoreHead)), ((n 12), .inl (k 0, 14, .inl fmoreView)), ((n 13), .inl (k 0, 17, .inl (u.2.2.1 1))), ((n 14), .inl (k 0, 17, .inl (u.2.2.1 2))), ((n 15), .inl (k 0, 17, .inl (u.2.2.1 3)))])) := by
  refine MU.of (by decide) (Nat.le_of_ble_eq_true rfl) ?_
  intro p e s m below meth c ls A args Q S hr hlk hnm hQ hK hP hD hZ hA hS hl
  have hx := S.1
  have hb := S.2.1
  have hl : lv_has ls 5 [(0, .ref (n 0)), (1, .int p0), (2, .int p1)] := hl
  have hbfworld := okW_bd hkworld
  refine lv_aload_n hx hb dX11_often_0 rfl (lv_at hl 0 rfl) ?_
  refine lv_iload_n hx hb dX11_often_1 rfl (lv_at hl 1 rfl) ?_
  refine x_muVi (wr := []) (As := [.int p0]) S hK hP hD hZ hS hA hl mwX11_asksHead lkX11_342 (ctX11_asksHead l D k z n mthrown mtaped msize mat mfrom mtoken mvalue mfaultKind mfaultPlace mmoreMany mlawNow mwetSet moverAll mones mtwos mgone mroundNow msampleFor msampleAll maskWorst moftenAll moftenView moftenOnes fworld frowOf fplaceOf ffirstOf fhardNow fmoreHead fmoreView fonesAt ftwosAt fgoneAt p0 (by omega) (by omega) (by omega) (by omega) (by omega) (hkworld)) [0, 1, 2, 3, 4, 5, 6, 7, 8, 9, 10] [] rfl rfl (by decide) (by decide) (by decide) rfl rfl rfl rfl rfl ⟨Nat.le_of_ble_eq_true rfl, Nat.le_of_ble_eq_true rfl, Nat.le_of_ble_eq_true rfl⟩ dX11_often_2 ⟨Nat.le_of_ble_eq_true rfl, Nat.le_of_ble_eq_true rfl⟩ (fun r_1 u_2 H locs hr_1 hP hD hS => ?_)
  have hP : va_P D vwCl [((n 0), .inr (11, [.int mthrown, .ref (n 1), .ref (n 2), .ref (n 3), .ref (n 4), .int (nI mtaped), .ref (n 5), .int (nI msize), .int (nI mat), .int (nI mfrom), .int mtoken, .int mvalue, .int mfaultKind, .int mfaultPlace, .ref (n 6), .ref (n 7), .ref (n 8), .ref (n 9), .ref (n 10), .ref (n 11), .ref (n 12), .int (nI (u_2.2.1 0)), .int (u_2.1 0), .int (u_2.1 1), .int (u_2.1 2), .ref (n 13), .ref (n 14), .ref (n 15), .int (u_2.1 3), .int (u_2.1 4), .int (u_2.1 5), .ref (n 16), .ref (n 17), .int mroundNow, .ref (n 18), .long msampleFor, .long msampleAll, .ref (n 19), .int maskWorst, .long moftenAll, .long moftenView, .long moftenOnes, .ref (n 20), .ref (n 21), .ref (n 22), .ref (n 23)])), ((n 1), .inl (k 0, 99, .inl fworld)), ((n 7), .inl (k 0, 12, .inl (u_2.2.2.1 4))), ((n 8), .inl (k 0, 12, .inl (u_2.2.2.1 5))), ((n 9), .inl (k 0, 4, .inl (u_2.2.2.1 6))), ((n 10), .inl (k 0, 12, .inl (u_2.2.2.1 0))), ((n 11), .inl (k 0, 14, .inl fmoreHead)), ((n 12), .inl (k 0, 14, .inl fmoreView)), ((n 13), .inl (k 0, 17, .inl (u_2.2.2.1 1))), ((n 14), .inl (k 0, 17, .inl (u_2.2.2.1 2))), ((n 15), .inl (k 0, 17, .inl (u_2.2.2.1 3)))] H := hP.sub [0, 1, 2, 3, 4, 5, 6, 7, 8, 9, 10] rfl
  have hD : va_D A [((n 0), .inr (11, [.int mthrown, .ref (n 1), .ref (n 2), .ref (n 3), .ref (n 4), .int (nI mtaped), .ref (n 5), .int (nI msize), .int (nI mat), .int (nI mfrom), .int mtoken, .int mvalue, .int mfaultKind, .int mfaultPlace, .ref (n 6), .ref (n 7), .ref (n 8), .ref (n 9), .ref (n 10), .ref (n 11), .ref (n 12), .int (nI (u_2.2.1 0)), .int (u_2.1 0), .int (u_2.1 1), .int (u_2.1 2), .ref (n 13), .ref (n 14), .ref (n 15), .int (u_2.1 3), .int (u_2.1 4), .int (u_2.1 5), .ref (n 16), .ref (n 17), .int mroundNow, .ref (n 18), .long msampleFor, .long msampleAll, .ref (n 19), .int maskWorst, .long moftenAll, .long moftenView, .long moftenOnes, .ref (n 20), .ref (n 21), .ref (n 22), .ref (n 23)])), ((n 1), .inl (k 0, 99, .inl fworld)), ((n 7), .inl (k 0, 12, .inl (u_2.2.2.1 4))), ((n 8), .inl (k 0, 12, .inl (u_2.2.2.1 5))), ((n 9), .inl (k 0, 4, .inl (u_2.2.2.1 6))), ((n 10), .inl (k 0, 12, .inl (u_2.2.2.1 0))), ((n 11), .inl (k 0, 14, .inl fmoreHead)), ((n 12), .inl (k 0, 14, .inl fmoreView)), ((n 13), .inl (k 0, 17, .inl (u_2.2.2.1 1))), ((n 14), .inl (k 0, 17, .inl (u_2.2.2.1 2))), ((n 15), .inl (k 0, 17, .inl (u_2.2.2.1 3)))] := hD.sub [0, 1, 2, 3, 4, 5, 6, 7, 8, 9, 10] (by decide) rfl
  obtain ⟨hp_3, hz_4, hg_5⟩ := hr_1
  refine lv_if_eq (tgt := 16) hx hb dX11_often_5 (by decide) (fun c_6 => ?_) (fun c_6 => ?_)
  · skip
    refine lv_bipush (v := (-2)) hx hb dX11_often_16 (by decide) ?_
    exact x_reti S hr hlk hQ hS ((fun i => ([(u_2.1 0), (u_2.1 1), (u_2.1 2), (u_2.1 3), (u_2.1 4), (u_2.1 5)] : List (Int32)).getD i 0), (fun i => ([u_2.2.1 0] : List (Nat)).getD i 0), (fun i => ([(u_2.2.2.1 0), (u_2.2.2.1 1), (u_2.2.2.1 2), (u_2.2.2.1 3), (u_2.2.2.1 4), (u_2.2.2.1 5), (u_2.2.2.1 6)] : List (Nat → Int32)).getD i (fun _ => 0)), (fun i => ([] : List (Nat → Int64)).getD i (fun _ => 0)), (fun i => ([] : List (Int64)).getD i 0)) (show u_2.2.1 0 ≤ 14 by omega) (x_B hP hD) dX11_often_18
  · skip
    obtain ⟨n_7, rfl, hn_7⟩ := hp_3.resolve_left c_6
    refine lv_iload_n hx hb dX11_often_8 rfl (lv_at hl 2 rfl) ?_
    refine lv_i2l (v := p1.toInt64) hx hb dX11_often_9 rfl ?_
    refine x_roSi (As := [.long p1.toInt64]) S hK hP hD hZ (fun _ h => h) hA hS hA hl mwX11_isView lkX11_348 (ctX11_isView l D k z p1.toInt64 ) [] rfl (by decide) rfl rfl ⟨Nat.le_of_ble_eq_true rfl, Nat.le_of_ble_eq_true rfl, Nat.le_of_ble_eq_true rfl⟩ dX11_often_10 ⟨Nat.le_of_ble_eq_true rfl, Nat.le_of_ble_eq_true rfl⟩ (fun r_8 H locs hr_8 hP hS => ?_)
    obtain rfl := hr_8
    refine lv_if_ne (tgt := 19) hx hb dX11_often_13 (by decide) (fun c_10 => ?_) (fun c_10 => ?_)
    · skip
      have c_10 : 1 ≤ p1.toInt64 ∧ p1.toInt64 ≤ 2 := bo_1.mp c_10
      refine lv_iconst (v := 0) hx hb dX11_often_19 (by decide) ?_
      refine lv_istore_n (lv' := [(3, .int 0), (0, .ref (n 0)), (1, .int (nI n_7)), (2, .int p1)]) hx hb dX11_often_20 rfl hl (by decide) rfl (fun ls hl => ?_)
      refine lv_iconst (v := 0) hx hb dX11_often_21 (by decide) ?_
      refine lv_istore (lv' := [(4, .int 0), (3, .int 0), (0, .ref (n 0)), (1, .int (nI n_7)), (2, .int p1)]) hx hb dX11_often_22 hl (by decide) rfl (fun ls hl => ?_)
      have lp_33 : ∀ (nn j_31 : Nat) (x_32 : Int32) (H : Heap) (locs : List Loc) (ls : Array Slot), j_31 ≤ wn fworld 0 + 1 → wn fworld 0 + 1 - j_31 < nn → va_P D vwCl [((n 0), .inr (11, [.int mthrown, .ref (n 1), .ref (n 2), .ref (n 3), .ref (n 4), .int (nI mtaped), .ref (n 5), .int (nI msize), .int (nI mat), .int (nI mfrom), .int mtoken, .int mvalue, .int mfaultKind, .int mfaultPlace, .ref (n 6), .ref (n 7), .ref (n 8), .ref (n 9), .ref (n 10), .ref (n 11), .ref (n 12), .int (nI (u_2.2.1 0)), .int (u_2.1 0), .int (u_2.1 1), .int (u_2.1 2), .ref (n 13), .ref (n 14), .ref (n 15), .int (u_2.1 3), .int (u_2.1 4), .int (u_2.1 5), .ref (n 16), .ref (n 17), .int mroundNow, .ref (n 18), .long msampleFor, .long msampleAll, .ref (n 19), .int maskWorst, .long moftenAll, .long moftenView, .long moftenOnes, .ref (n 20), .ref (n 21), .ref (n 22), .ref (n 23)])), ((n 1), .inl (k 0, 99, .inl fworld)), ((n 7), .inl (k 0, 12, .inl (u_2.2.2.1 4))), ((n 8), .inl (k 0, 12, .inl (u_2.2.2.1 5))), ((n 9), .inl (k 0, 4, .inl (u_2.2.2.1 6))), ((n 10), .inl (k 0, 12, .inl (u_2.2.2.1 0))), ((n 11), .inl (k 0, 14, .inl fmoreHead)), ((n 12), .inl (k 0, 14, .inl fmoreView)), ((n 13), .inl (k 0, 17, .inl (u_2.2.2.1 1))), ((n 14), .inl (k 0, 17, .inl (u_2.2.2.1 2))), ((n 15), .inl (k 0, 17, .inl (u_2.2.2.1 3)))] H → va_D A [((n 0), .inr (11, [.int mthrown, .ref (n 1), .ref (n 2), .ref (n 3), .ref (n 4), .int (nI mtaped), .ref (n 5), .int (nI msize), .int (nI mat), .int (nI mfrom), .int mtoken, .int mvalue, .int mfaultKind, .int mfaultPlace, .ref (n 6), .ref (n 7), .ref (n 8), .ref (n 9), .ref (n 10), .ref (n 11), .ref (n 12), .int (nI (u_2.2.1 0)), .int (u_2.1 0), .int (u_2.1 1), .int (u_2.1 2), .ref (n 13), .ref (n 14), .ref (n 15), .int (u_2.1 3), .int (u_2.1 4), .int (u_2.1 5), .ref (n 16), .ref (n 17), .int mroundNow, .ref (n 18), .long msampleFor, .long msampleAll, .ref (n 19), .int maskWorst, .long moftenAll, .long moftenView, .long moftenOnes, .ref (n 20), .ref (n 21), .ref (n 22), .ref (n 23)])), ((n 1), .inl (k 0, 99, .inl fworld)), ((n 7), .inl (k 0, 12, .inl (u_2.2.2.1 4))), ((n 8), .inl (k 0, 12, .inl (u_2.2.2.1 5))), ((n 9), .inl (k 0, 4, .inl (u_2.2.2.1 6))), ((n 10), .inl (k 0, 12, .inl (u_2.2.2.1 0))), ((n 11), .inl (k 0, 14, .inl fmoreHead)), ((n 12), .inl (k 0, 14, .inl fmoreView)), ((n 13), .inl (k 0, 17, .inl (u_2.2.2.1 1))), ((n 14), .inl (k 0, 17, .inl (u_2.2.2.1 2))), ((n 15), .inl (k 0, 17, .inl (u_2.2.2.1 3)))] → va_S A s.heap H locs → lv_has ls 5 [(4, .int (nI j_31)), (3, .int x_32), (0, .ref (n 0)), (1, .int (nI n_7)), (2, .int p1)] → W p l e (Rm 9 0 0) s m args below meth c H locs 0 0 Q (F0 m 24 ls []) := by
        intro nn
        induction nn with
        | zero => intro j_31 x_32 H locs ls hjj_31 hnj_31; exact absurd hnj_31 (by omega)
        | succ nn ihj_31 =>
          intro j_31 x_32 H locs ls hjj_31 hnj_31 hP hD hS hl
          refine lv_iload hx hb dX11_often_24 (lv_at hl 0 rfl) ?_
          refine lv_aload_n hx hb dX11_often_26 rfl (lv_at hl 2 rfl) ?_
          refine x_roVi (As := []) S hK hP hD hZ (fun _ h => h) hA hS hA hl mwX11_hours lkX11_103 (ctX11_hours l D k z n mthrown mtaped msize mat mfrom mtoken mvalue mfaultKind mfaultPlace (u_2.2.1 0) (u_2.1 0) (u_2.1 1) (u_2.1 2) (u_2.1 3) (u_2.1 4) (u_2.1 5) mroundNow msampleFor msampleAll maskWorst moftenAll moftenView moftenOnes fworld (by omega) (by omega) (by omega) (by omega) (by omega) (hkworld)) [0, 1] rfl (by decide) rfl rfl rfl rfl rfl ⟨Nat.le_of_ble_eq_true rfl, Nat.le_of_ble_eq_true rfl, Nat.le_of_ble_eq_true rfl⟩ dX11_often_27 ⟨Nat.le_of_ble_eq_true rfl, Nat.le_of_ble_eq_true rfl⟩ (fun r_34 H locs hr_34 hP hS => ?_)
          obtain rfl := hr_34
          refine lv_icmp_gt (tgt := 58) hx hb dX11_often_30 (by decide) (fun c_36 => ?_) (fun c_36 => ?_)
          · skip
            have c_36 : wn fworld 0 < j_31 := (ni_lt rfl rfl (by omega) (by omega)).mp c_36
            refine lv_iload_n hx hb dX11_often_58 rfl (lv_at hl 1 rfl) ?_
            exact x_reti S hr hlk hQ hS ((fun i => ([(u_2.1 0), (u_2.1 1), (u_2.1 2), (u_2.1 3), (u_2.1 4), (u_2.1 5)] : List (Int32)).getD i 0), (fun i => ([u_2.2.1 0] : List (Nat)).getD i 0), (fun i => ([(u_2.2.2.1 0), (u_2.2.2.1 1), (u_2.2.2.1 2), (u_2.2.2.1 3), (u_2.2.2.1 4), (u_2.2.2.1 5), (u_2.2.2.1 6)] : List (Nat → Int32)).getD i (fun _ => 0)), (fun i => ([] : List (Nat → Int64)).getD i (fun _ => 0)), (fun i => ([] : List (Int64)).getD i 0)) (show u_2.2.1 0 ≤ 14 by omega) (x_B hP hD) dX11_often_59
          · skip
            have c_36 : ¬ wn fworld 0 < j_31 := fun q => c_36 ((ni_lt rfl rfl (by omega) (by omega)).mpr q)
            refine lv_iload_n hx hb dX11_often_33 rfl (lv_at hl 1 rfl) ?_
            refine lv_aload_n hx hb dX11_often_34 rfl (lv_at hl 2 rfl) ?_
            refine lv_iload_n hx hb dX11_often_35 rfl (lv_at hl 3 rfl) ?_
            refine lv_iload hx hb dX11_often_36 (lv_at hl 0 rfl) ?_
            refine x_roVi (As := [.int (nI n_7), .int (nI j_31)]) S hK hP hD hZ (fun _ h => h) hA hS hA hl mwX11_viewOf lkX11_333 (ctX11_viewOf l D k z n mthrown mtaped msize mat mfrom mtoken mvalue mfaultKind mfaultPlace (u_2.2.1 0) (u_2.1 0) (u_2.1 1) (u_2.1 2) (u_2.1 3) (u_2.1 4) (u_2.1 5) mroundNow msampleFor msampleAll maskWorst moftenAll moftenView moftenOnes (u_2.2.2.1 1) (u_2.2.2.1 2) (nI n_7) j_31 (by omega) (by omega) (by omega) (by omega) (by omega) (by omega)) [0, 8, 9] rfl (by decide) rfl rfl rfl rfl rfl ⟨Nat.le_of_ble_eq_true rfl, Nat.le_of_ble_eq_true rfl, Nat.le_of_ble_eq_true rfl⟩ dX11_often_38 ⟨Nat.le_of_ble_eq_true rfl, Nat.le_of_ble_eq_true rfl⟩ (fun r_37 H locs hr_37 hP hS => ?_)
            refine lv_iload_n hx hb dX11_often_41 rfl (lv_at hl 4 rfl) ?_
            refine lv_icmp_ne (tgt := 49) hx hb dX11_often_42 (by decide) (fun c_39 => ?_) (fun c_39 => ?_)
            · skip
              refine lv_iconst (v := 0) hx hb dX11_often_49 (by decide) ?_
              refine lv_iadd hx hb dX11_often_50 ?_
              refine lv_topi (fun v_40 ev_40 => ?_)
              refine lv_istore_n (lv' := [(3, .int v_40), (4, .int (nI j_31)), (0, .ref (n 0)), (1, .int (nI n_7)), (2, .int p1)]) hx hb dX11_often_51 rfl hl (by decide) rfl (fun ls hl => ?_)
              refine lv_iinc (v := (nI (j_31 + 1))) (lv' := [(4, .int (nI (j_31 + 1))), (3, .int v_40), (0, .ref (n 0)), (1, .int (nI n_7)), (2, .int p1)]) hx hb dX11_often_52 hl (k := 1) rfl (ni_inc _) (by decide) rfl (fun ls hl => ?_)
              refine lv_goto (tgt := 24) hx hb dX11_often_55 (by decide) ?_
              exact ihj_31 (j_31 + 1) v_40 _ _ _ (by omega) (by omega) hP hD hS (lv_sub hl [0, 1, 2, 3, 4] rfl)
            · skip
              refine lv_iconst (v := 1) hx hb dX11_often_45 (by decide) ?_
              refine lv_goto (tgt := 50) hx hb dX11_often_46 (by decide) ?_
              refine lv_iadd hx hb dX11_often_50 ?_
              refine lv_topi (fun v_41 ev_41 => ?_)
              refine lv_istore_n (lv' := [(3, .int v_41), (4, .int (nI j_31)), (0, .ref (n 0)), (1, .int (nI n_7)), (2, .int p1)]) hx hb dX11_often_51 rfl hl (by decide) rfl (fun ls hl => ?_)
              refine lv_iinc (v := (nI (j_31 + 1))) (lv' := [(4, .int (nI (j_31 + 1))), (3, .int v_41), (0, .ref (n 0)), (1, .int (nI n_7)), (2, .int p1)]) hx hb dX11_often_52 hl (k := 1) rfl (ni_inc _) (by decide) rfl (fun ls hl => ?_)
              refine lv_goto (tgt := 24) hx hb dX11_often_55 (by decide) ?_
              exact ihj_31 (j_31 + 1) v_41 _ _ _ (by omega) (by omega) hP hD hS (lv_sub hl [0, 1, 2, 3, 4] rfl)
      exact lp_33 (wn fworld 0 + 1 + 1) 0 0 _ _ _ (by omega) (by omega) hP hD hS (lv_sub hl [0, 1, 2, 3, 4] rfl)
    · skip
      have c_10 : ¬ (1 ≤ p1.toInt64 ∧ p1.toInt64 ≤ 2) := bo_0.mp c_10
      refine lv_bipush (v := (-2)) hx hb dX11_often_16 (by decide) ?_
      exact x_reti S hr hlk hQ hS ((fun i => ([(u_2.1 0), (u_2.1 1), (u_2.1 2), (u_2.1 3), (u_2.1 4), (u_2.1 5)] : List (Int32)).getD i 0), (fun i => ([u_2.2.1 0] : List (Nat)).getD i 0), (fun i => ([(u_2.2.2.1 0), (u_2.2.2.1 1), (u_2.2.2.1 2), (u_2.2.2.1 3), (u_2.2.2.1 4), (u_2.2.2.1 5), (u_2.2.2.1 6)] : List (Nat → Int32)).getD i (fun _ => 0)), (fun i => ([] : List (Nat → Int64)).getD i (fun _ => 0)), (fun i => ([] : List (Int64)).getD i 0)) (show u_2.2.1 0 ≤ 14 by omega) (x_B hP hD) dX11_often_18

set_option maxHeartbeats 4000000 in
set_option maxRecDepth 100000 in
theorem ctX11_heart (l : Launch) (D : va_G) (k : Nat → ClassId) (z : Nat → Nat) (n : Nat → Nat) (mthrown : Int32) (mtaped : Nat) (msize : Nat) (mat : Nat) (mfrom : Nat) (mtoken : Int32) (mvalue : Int32) (mfaultKind : Int32) (mfaultPlace : Int32) (mmoreMany : Nat) (mlawNow : Int32) (mwetSet : Int32) (moverAll : Int32) (mones : Int32) (mtwos : Int32) (mgone : Int32) (mroundNow : Int32) (msampleFor : Int64) (msampleAll : Int64) (maskWorst : Int32) (moftenAll : Int64) (moftenView : Int64) (moftenOnes : Int64) (fworld : Nat → Int32) (frowOf : Nat → Int32) (fplaceOf : Nat → Int32) (ffirstOf : Nat → Int32) (fhardNow : Nat → Int32) (fmoreHead : Nat → Int32) (fmoreView : Nat → Int32) (fonesAt : Nat → Int32) (ftwosAt : Nat → Int32) (fgoneAt : Nat → Int32) (p0 : Int32) (hmtaped : mtaped ≤ 600) (hmsize : msize ≤ 600) (hmat : mat ≤ 600) (hmfrom : mfrom ≤ 600) (hmmoreMany : mmoreMany ≤ 14) (hkworld : okW fworld) : MU l yX11_heart cX11_heart 3 (some .int) 9 D k z [.ref (n 0), .int p0] [((n 0), .inr (11, [.int mthrown, .ref (n 1), .ref (n 2), .ref (n 3), .ref (n 4), .int (nI mtaped), .ref (n 5), .int (nI msize), .int (nI mat), .int (nI mfrom), .int mtoken, .int mvalue, .int mfaultKind, .int mfaultPlace, .ref (n 6), .ref (n 7), .ref (n 8), .ref (n 9), .ref (n 10), .ref (n 11), .ref (n 12), .int (nI mmoreMany), .int mlawNow, .int mwetSet, .int moverAll, .ref (n 13), .ref (n 14), .ref (n 15), .int mones, .int mtwos, .int mgone, .ref (n 16), .ref (n 17), .int mroundNow, .ref (n 18), .long msampleFor, .long msampleAll, .ref (n 19), .int maskWorst, .long moftenAll, .long moftenView, .long moftenOnes, .ref (n 20), .ref (n 21), .ref (n 22), .ref (n 23)])), ((n 1), .inl (k 0, 99, .inl fworld)), ((n 7), .inl (k 0, 12, .inl frowOf)), ((n 8), .inl (k 0, 12, .inl fplaceOf)), ((n 9), .inl (k 0, 4, .inl ffirstOf)), ((n 10), .inl (k 0, 12, .inl fhardNow)), ((n 11), .inl (k 0, 14, .inl fmoreHead)), ((n 12), .inl (k 0, 14, .inl fmoreView)), ((n 13), .inl (k 0, 17, .inl fonesAt)), ((n 14), .inl (k 0, 17, .inl ftwosAt)), ((n 15), .inl (k 0, 17, .inl fgoneAt))] 0 0 (Ui D (fun (r : Int32) (u : (Nat → Int32) × (Nat → Nat) × (Nat → Nat → Int32) × (Nat → Nat → Int64) × (Nat → Int64)) => (u.2.1 0 ≤ 14)) (fun u : (Nat → Int32) × (Nat → Nat) × (Nat → Nat → Int32) × (Nat → Nat → Int64) × (Nat → Int64) => [((n 0), .inr (11, [.int mthrown, .ref (n 1), .ref (n 2), .ref (n 3), .ref (n 4), .int (nI mtaped), .ref (n 5), .int (nI msize), .int (nI mat), .int (nI mfrom), .int mtoken, .int mvalue, .int mfaultKind, .int mfaultPlace, .ref (n 6), .ref (n 7), .ref (n 8), .ref (n 9), .ref (n 10), .ref (n 11), .ref (n 12), .int (nI (u.2.1 0)), .int (u.1 0), .int (u.1 1), .int (u.1 2), .ref (n 13), .ref (n 14), .ref (n 15), .int (u.1 3), .int (u.1 4), .int (u.1 5), .ref (n 16), .ref (n 17), .int mroundNow, .ref (n 18), .long msampleFor, .long msampleAll, .ref (n 19), .int maskWorst, .long moftenAll, .long moftenView, .long moftenOnes, .ref (n 20), .ref (n 21), .ref (n 22), .ref (n 23)])), ((n 1), .inl (k 0, 99, .inl fworld)), ((n 7), .inl (k 0, 12, .inl (u.2.2.1 4))), ((n 8), .inl (k 0, 12, .inl (u.2.2.1 5))), ((n 9), .inl (k 0, 4, .inl (u.2.2.1 6))), ((n 10), .inl (k 0, 12, .inl (u.2.2.1 0))), ((n 11), .inl (k 0, 14, .inl fmoreHead)), ((n 12), .inl (k 0, 14, .inl fmoreView)), ((n 13), .inl (k 0, 17, .inl (u.2.2.1 1))), ((n 14), .inl (k 0, 17, .inl (u.2.2.1 2))), ((n 15), .inl (k 0, 17, .inl (u.2.2.1 3)))])) := by
  refine MU.of (by decide) (Nat.le_of_ble_eq_true rfl) ?_
  intro p e s m below meth c ls A args Q S hr hlk hnm hQ hK hP hD hZ hA hS hl
  have hx := S.1
  have hb := S.2.1
  have hl : lv_has ls 3 [(0, .ref (n 0)), (1, .int p0)] := hl
  have hbfworld := okW_bd hkworld
  refine lv_aload_n hx hb dX11_heart_0 rfl (lv_at hl 0 rfl) ?_
  refine lv_iload_n hx hb dX11_heart_1 rfl (lv_at hl 1 rfl) ?_
  refine x_muVi (wr := []) (As := [.int p0]) S hK hP hD hZ hS hA hl mwX11_asksHead lkX11_342 (ctX11_asksHead l D k z n mthrown mtaped msize mat mfrom mtoken mvalue mfaultKind mfaultPlace mmoreMany mlawNow mwetSet moverAll mones mtwos mgone mroundNow msampleFor msampleAll maskWorst moftenAll moftenView moftenOnes fworld frowOf fplaceOf ffirstOf fhardNow fmoreHead fmoreView fonesAt ftwosAt fgoneAt p0 (by omega) (by omega) (by omega) (by omega) (by omega) (hkworld)) [0, 1, 2, 3, 4, 5, 6, 7, 8, 9, 10] [] rfl rfl (by decide) (by decide) (by decide) rfl rfl rfl rfl rfl ⟨Nat.le_of_ble_eq_true rfl, Nat.le_of_ble_eq_true rfl, Nat.le_of_ble_eq_true rfl⟩ dX11_heart_2 ⟨Nat.le_of_ble_eq_true rfl, Nat.le_of_ble_eq_true rfl⟩ (fun r_1 u_2 H locs hr_1 hP hD hS => ?_)
  have hP : va_P D vwCl [((n 0), .inr (11, [.int mthrown, .ref (n 1), .ref (n 2), .ref (n 3), .ref (n 4), .int (nI mtaped), .ref (n 5), .int (nI msize), .int (nI mat), .int (nI mfrom), .int mtoken, .int mvalue, .int mfaultKind, .int mfaultPlace, .ref (n 6), .ref (n 7), .ref (n 8), .ref (n 9), .ref (n 10), .ref (n 11), .ref (n 12), .int (nI (u_2.2.1 0)), .int (u_2.1 0), .int (u_2.1 1), .int (u_2.1 2), .ref (n 13), .ref (n 14), .ref (n 15), .int (u_2.1 3), .int (u_2.1 4), .int (u_2.1 5), .ref (n 16), .ref (n 17), .int mroundNow, .ref (n 18), .long msampleFor, .long msampleAll, .ref (n 19), .int maskWorst, .long moftenAll, .long moftenView, .long moftenOnes, .ref (n 20), .ref (n 21), .ref (n 22), .ref (n 23)])), ((n 1), .inl (k 0, 99, .inl fworld)), ((n 7), .inl (k 0, 12, .inl (u_2.2.2.1 4))), ((n 8), .inl (k 0, 12, .inl (u_2.2.2.1 5))), ((n 9), .inl (k 0, 4, .inl (u_2.2.2.1 6))), ((n 10), .inl (k 0, 12, .inl (u_2.2.2.1 0))), ((n 11), .inl (k 0, 14, .inl fmoreHead)), ((n 12), .inl (k 0, 14, .inl fmoreView)), ((n 13), .inl (k 0, 17, .inl (u_2.2.2.1 1))), ((n 14), .inl (k 0, 17, .inl (u_2.2.2.1 2))), ((n 15), .inl (k 0, 17, .inl (u_2.2.2.1 3)))] H := hP.sub [0, 1, 2, 3, 4, 5, 6, 7, 8, 9, 10] rfl
  have hD : va_D A [((n 0), .inr (11, [.int mthrown, .ref (n 1), .ref (n 2), .ref (n 3), .ref (n 4), .int (nI mtaped), .ref (n 5), .int (nI msize), .int (nI mat), .int (nI mfrom), .int mtoken, .int mvalue, .int mfaultKind, .int mfaultPlace, .ref (n 6), .ref (n 7), .ref (n 8), .ref (n 9), .ref (n 10), .ref (n 11), .ref (n 12), .int (nI (u_2.2.1 0)), .int (u_2.1 0), .int (u_2.1 1), .int (u_2.1 2), .ref (n 13), .ref (n 14), .ref (n 15), .int (u_2.1 3), .int (u_2.1 4), .int (u_2.1 5), .ref (n 16), .ref (n 17), .int mroundNow, .ref (n 18), .long msampleFor, .long msampleAll, .ref (n 19), .int maskWorst, .long moftenAll, .long moftenView, .long moftenOnes, .ref (n 20), .ref (n 21), .ref (n 22), .ref (n 23)])), ((n 1), .inl (k 0, 99, .inl fworld)), ((n 7), .inl (k 0, 12, .inl (u_2.2.2.1 4))), ((n 8), .inl (k 0, 12, .inl (u_2.2.2.1 5))), ((n 9), .inl (k 0, 4, .inl (u_2.2.2.1 6))), ((n 10), .inl (k 0, 12, .inl (u_2.2.2.1 0))), ((n 11), .inl (k 0, 14, .inl fmoreHead)), ((n 12), .inl (k 0, 14, .inl fmoreView)), ((n 13), .inl (k 0, 17, .inl (u_2.2.2.1 1))), ((n 14), .inl (k 0, 17, .inl (u_2.2.2.1 2))), ((n 15), .inl (k 0, 17, .inl (u_2.2.2.1 3)))] := hD.sub [0, 1, 2, 3, 4, 5, 6, 7, 8, 9, 10] (by decide) rfl
  obtain ⟨hp_3, hz_4, hg_5⟩ := hr_1
  refine lv_if_ne (tgt := 11) hx hb dX11_heart_5 (by decide) (fun c_6 => ?_) (fun c_6 => ?_)
  · skip
    obtain ⟨n_7, rfl, hn_7⟩ := hp_3.resolve_left c_6
    refine lv_iconst (v := 0) hx hb dX11_heart_11 (by decide) ?_
    refine lv_istore_n (lv' := [(2, .int 0), (0, .ref (n 0)), (1, .int (nI n_7))]) hx hb dX11_heart_12 rfl hl (by decide) rfl (fun ls hl => ?_)
    have lp_21 : ∀ (nn j_20 : Nat)  (H : Heap) (locs : List Loc) (ls : Array Slot), j_20 ≤ wn fworld 0 + 1 → wn fworld 0 + 1 - j_20 < nn → va_P D vwCl [((n 0), .inr (11, [.int mthrown, .ref (n 1), .ref (n 2), .ref (n 3), .ref (n 4), .int (nI mtaped), .ref (n 5), .int (nI msize), .int (nI mat), .int (nI mfrom), .int mtoken, .int mvalue, .int mfaultKind, .int mfaultPlace, .ref (n 6), .ref (n 7), .ref (n 8), .ref (n 9), .ref (n 10), .ref (n 11), .ref (n 12), .int (nI (u_2.2.1 0)), .int (u_2.1 0), .int (u_2.1 1), .int (u_2.1 2), .ref (n 13), .ref (n 14), .ref (n 15), .int (u_2.1 3), .int (u_2.1 4), .int (u_2.1 5), .ref (n 16), .ref (n 17), .int mroundNow, .ref (n 18), .long msampleFor, .long msampleAll, .ref (n 19), .int maskWorst, .long moftenAll, .long moftenView, .long moftenOnes, .ref (n 20), .ref (n 21), .ref (n 22), .ref (n 23)])), ((n 1), .inl (k 0, 99, .inl fworld)), ((n 7), .inl (k 0, 12, .inl (u_2.2.2.1 4))), ((n 8), .inl (k 0, 12, .inl (u_2.2.2.1 5))), ((n 9), .inl (k 0, 4, .inl (u_2.2.2.1 6))), ((n 10), .inl (k 0, 12, .inl (u_2.2.2.1 0))), ((n 11), .inl (k 0, 14, .inl fmoreHead)), ((n 12), .inl (k 0, 14, .inl fmoreView)), ((n 13), .inl (k 0, 17, .inl (u_2.2.2.1 1))), ((n 14), .inl (k 0, 17, .inl (u_2.2.2.1 2))), ((n 15), .inl (k 0, 17, .inl (u_2.2.2.1 3)))] H → va_D A [((n 0), .inr (11, [.int mthrown, .ref (n 1), .ref (n 2), .ref (n 3), .ref (n 4), .int (nI mtaped), .ref (n 5), .int (nI msize), .int (nI mat), .int (nI mfrom), .int mtoken, .int mvalue, .int mfaultKind, .int mfaultPlace, .ref (n 6), .ref (n 7), .ref (n 8), .ref (n 9), .ref (n 10), .ref (n 11), .ref (n 12), .int (nI (u_2.2.1 0)), .int (u_2.1 0), .int (u_2.1 1), .int (u_2.1 2), .ref (n 13), .ref (n 14), .ref (n 15), .int (u_2.1 3), .int (u_2.1 4), .int (u_2.1 5), .ref (n 16), .ref (n 17), .int mroundNow, .ref (n 18), .long msampleFor, .long msampleAll, .ref (n 19), .int maskWorst, .long moftenAll, .long moftenView, .long moftenOnes, .ref (n 20), .ref (n 21), .ref (n 22), .ref (n 23)])), ((n 1), .inl (k 0, 99, .inl fworld)), ((n 7), .inl (k 0, 12, .inl (u_2.2.2.1 4))), ((n 8), .inl (k 0, 12, .inl (u_2.2.2.1 5))), ((n 9), .inl (k 0, 4, .inl (u_2.2.2.1 6))), ((n 10), .inl (k 0, 12, .inl (u_2.2.2.1 0))), ((n 11), .inl (k 0, 14, .inl fmoreHead)), ((n 12), .inl (k 0, 14, .inl fmoreView)), ((n 13), .inl (k 0, 17, .inl (u_2.2.2.1 1))), ((n 14), .inl (k 0, 17, .inl (u_2.2.2.1 2))), ((n 15), .inl (k 0, 17, .inl (u_2.2.2.1 3)))] → va_S A s.heap H locs → lv_has ls 3 [(2, .int (nI j_20)), (0, .ref (n 0)), (1, .int (nI n_7))] → W p l e (Rm 9 0 0) s m args below meth c H locs 0 0 Q (F0 m 13 ls []) := by
      intro nn
      induction nn with
      | zero => intro j_20  H locs ls hjj_20 hnj_20; exact absurd hnj_20 (by omega)
      | succ nn ihj_20 =>
        intro j_20  H locs ls hjj_20 hnj_20 hP hD hS hl
        refine lv_iload_n hx hb dX11_heart_13 rfl (lv_at hl 0 rfl) ?_
        refine lv_aload_n hx hb dX11_heart_14 rfl (lv_at hl 1 rfl) ?_
        refine x_roVi (As := []) S hK hP hD hZ (fun _ h => h) hA hS hA hl mwX11_hours lkX11_103 (ctX11_hours l D k z n mthrown mtaped msize mat mfrom mtoken mvalue mfaultKind mfaultPlace (u_2.2.1 0) (u_2.1 0) (u_2.1 1) (u_2.1 2) (u_2.1 3) (u_2.1 4) (u_2.1 5) mroundNow msampleFor msampleAll maskWorst moftenAll moftenView moftenOnes fworld (by omega) (by omega) (by omega) (by omega) (by omega) (hkworld)) [0, 1] rfl (by decide) rfl rfl rfl rfl rfl ⟨Nat.le_of_ble_eq_true rfl, Nat.le_of_ble_eq_true rfl, Nat.le_of_ble_eq_true rfl⟩ dX11_heart_15 ⟨Nat.le_of_ble_eq_true rfl, Nat.le_of_ble_eq_true rfl⟩ (fun r_22 H locs hr_22 hP hS => ?_)
        obtain rfl := hr_22
        refine lv_icmp_gt (tgt := 43) hx hb dX11_heart_18 (by decide) (fun c_24 => ?_) (fun c_24 => ?_)
        · skip
          have c_24 : wn fworld 0 < j_20 := (ni_lt rfl rfl (by omega) (by omega)).mp c_24
          refine lv_iconst (v := 0) hx hb dX11_heart_43 (by decide) ?_
          exact x_reti S hr hlk hQ hS ((fun i => ([(u_2.1 0), (u_2.1 1), (u_2.1 2), (u_2.1 3), (u_2.1 4), (u_2.1 5)] : List (Int32)).getD i 0), (fun i => ([u_2.2.1 0] : List (Nat)).getD i 0), (fun i => ([(u_2.2.2.1 0), (u_2.2.2.1 1), (u_2.2.2.1 2), (u_2.2.2.1 3), (u_2.2.2.1 4), (u_2.2.2.1 5), (u_2.2.2.1 6)] : List (Nat → Int32)).getD i (fun _ => 0)), (fun i => ([] : List (Nat → Int64)).getD i (fun _ => 0)), (fun i => ([] : List (Int64)).getD i 0)) (show u_2.2.1 0 ≤ 14 by omega) (x_B hP hD) dX11_heart_44
        · skip
          have c_24 : ¬ wn fworld 0 < j_20 := fun q => c_24 ((ni_lt rfl rfl (by omega) (by omega)).mpr q)
          refine lv_aload_n hx hb dX11_heart_21 rfl (lv_at hl 1 rfl) ?_
          refine lv_iload_n hx hb dX11_heart_22 rfl (lv_at hl 2 rfl) ?_
          refine lv_iload_n hx hb dX11_heart_23 rfl (lv_at hl 0 rfl) ?_
          refine x_roVi (As := [.int (nI n_7), .int (nI j_20)]) S hK hP hD hZ (fun _ h => h) hA hS hA hl mwX11_viewOf lkX11_333 (ctX11_viewOf l D k z n mthrown mtaped msize mat mfrom mtoken mvalue mfaultKind mfaultPlace (u_2.2.1 0) (u_2.1 0) (u_2.1 1) (u_2.1 2) (u_2.1 3) (u_2.1 4) (u_2.1 5) mroundNow msampleFor msampleAll maskWorst moftenAll moftenView moftenOnes (u_2.2.2.1 1) (u_2.2.2.1 2) (nI n_7) j_20 (by omega) (by omega) (by omega) (by omega) (by omega) (by omega)) [0, 8, 9] rfl (by decide) rfl rfl rfl rfl rfl ⟨Nat.le_of_ble_eq_true rfl, Nat.le_of_ble_eq_true rfl, Nat.le_of_ble_eq_true rfl⟩ dX11_heart_24 ⟨Nat.le_of_ble_eq_true rfl, Nat.le_of_ble_eq_true rfl⟩ (fun r_25 H locs hr_25 hP hS => ?_)
          refine lv_if_le (tgt := 37) hx hb dX11_heart_27 (by decide) (fun c_27 => ?_) (fun c_27 => ?_)
          · skip
            refine lv_iinc (v := (nI (j_20 + 1))) (lv' := [(2, .int (nI (j_20 + 1))), (0, .ref (n 0)), (1, .int (nI n_7))]) hx hb dX11_heart_37 hl (k := 0) rfl (ni_inc _) (by decide) rfl (fun ls hl => ?_)
            refine lv_goto (tgt := 13) hx hb dX11_heart_40 (by decide) ?_
            exact ihj_20 (j_20 + 1)  _ _ _ (by omega) (by omega) hP hD hS (lv_sub hl [0, 1, 2] rfl)
          · skip
            refine lv_aload_n hx hb dX11_heart_30 rfl (lv_at hl 1 rfl) ?_
            refine lv_iload_n hx hb dX11_heart_31 rfl (lv_at hl 2 rfl) ?_
            refine lv_iload_n hx hb dX11_heart_32 rfl (lv_at hl 0 rfl) ?_
            refine x_roVi (As := [.int (nI n_7), .int (nI j_20)]) S hK hP hD hZ (fun _ h => h) hA hS hA hl mwX11_viewOf lkX11_333 (ctX11_viewOf l D k z n mthrown mtaped msize mat mfrom mtoken mvalue mfaultKind mfaultPlace (u_2.2.1 0) (u_2.1 0) (u_2.1 1) (u_2.1 2) (u_2.1 3) (u_2.1 4) (u_2.1 5) mroundNow msampleFor msampleAll maskWorst moftenAll moftenView moftenOnes (u_2.2.2.1 1) (u_2.2.2.1 2) (nI n_7) j_20 (by omega) (by omega) (by omega) (by omega) (by omega) (by omega)) [0, 8, 9] rfl (by decide) rfl rfl rfl rfl rfl ⟨Nat.le_of_ble_eq_true rfl, Nat.le_of_ble_eq_true rfl, Nat.le_of_ble_eq_true rfl⟩ dX11_heart_33 ⟨Nat.le_of_ble_eq_true rfl, Nat.le_of_ble_eq_true rfl⟩ (fun r_28 H locs hr_28 hP hS => ?_)
            exact x_reti S hr hlk hQ hS ((fun i => ([(u_2.1 0), (u_2.1 1), (u_2.1 2), (u_2.1 3), (u_2.1 4), (u_2.1 5)] : List (Int32)).getD i 0), (fun i => ([u_2.2.1 0] : List (Nat)).getD i 0), (fun i => ([(u_2.2.2.1 0), (u_2.2.2.1 1), (u_2.2.2.1 2), (u_2.2.2.1 3), (u_2.2.2.1 4), (u_2.2.2.1 5), (u_2.2.2.1 6)] : List (Nat → Int32)).getD i (fun _ => 0)), (fun i => ([] : List (Nat → Int64)).getD i (fun _ => 0)), (fun i => ([] : List (Int64)).getD i 0)) (show u_2.2.1 0 ≤ 14 by omega) (x_B hP hD) dX11_heart_36
    exact lp_21 (wn fworld 0 + 1 + 1) 0  _ _ _ (by omega) (by omega) hP hD hS (lv_sub hl [0, 1, 2] rfl)
  · skip
    refine lv_bipush (v := (-2)) hx hb dX11_heart_8 (by decide) ?_
    exact x_reti S hr hlk hQ hS ((fun i => ([(u_2.1 0), (u_2.1 1), (u_2.1 2), (u_2.1 3), (u_2.1 4), (u_2.1 5)] : List (Int32)).getD i 0), (fun i => ([u_2.2.1 0] : List (Nat)).getD i 0), (fun i => ([(u_2.2.2.1 0), (u_2.2.2.1 1), (u_2.2.2.1 2), (u_2.2.2.1 3), (u_2.2.2.1 4), (u_2.2.2.1 5), (u_2.2.2.1 6)] : List (Nat → Int32)).getD i (fun _ => 0)), (fun i => ([] : List (Nat → Int64)).getD i (fun _ => 0)), (fun i => ([] : List (Int64)).getD i 0)) (show u_2.2.1 0 ≤ 14 by omega) (x_B hP hD) dX11_heart_10

set_option maxHeartbeats 4000000 in
set_option maxRecDepth 100000 in
theorem ctX11_fickle (l : Launch) (D : va_G) (k : Nat → ClassId) (z : Nat → Nat) (n : Nat → Nat) (mthrown : Int32) (mtaped : Nat) (msize : Nat) (mat : Nat) (mfrom : Nat) (mtoken : Int32) (mvalue : Int32) (mfaultKind : Int32) (mfaultPlace : Int32) (mmoreMany : Nat) (mlawNow : Int32) (mwetSet : Int32) (moverAll : Int32) (mones : Int32) (mtwos : Int32) (mgone : Int32) (mroundNow : Int32) (msampleFor : Int64) (msampleAll : Int64) (maskWorst : Int32) (moftenAll : Int64) (moftenView : Int64) (moftenOnes : Int64) (fworld : Nat → Int32) (frowOf : Nat → Int32) (fplaceOf : Nat → Int32) (ffirstOf : Nat → Int32) (fhardNow : Nat → Int32) (fmoreHead : Nat → Int32) (fmoreView : Nat → Int32) (fonesAt : Nat → Int32) (ftwosAt : Nat → Int32) (fgoneAt : Nat → Int32) (hmtaped : mtaped ≤ 600) (hmsize : msize ≤ 600) (hmat : mat ≤ 600) (hmfrom : mfrom ≤ 600) (hmmoreMany : mmoreMany ≤ 14) (hkworld : okW fworld) : MU l yX11_fickle cX11_fickle 3 (some .int) 8 D k z [.ref (n 0)] [((n 0), .inr (11, [.int mthrown, .ref (n 1), .ref (n 2), .ref (n 3), .ref (n 4), .int (nI mtaped), .ref (n 5), .int (nI msize), .int (nI mat), .int (nI mfrom), .int mtoken, .int mvalue, .int mfaultKind, .int mfaultPlace, .ref (n 6), .ref (n 7), .ref (n 8), .ref (n 9), .ref (n 10), .ref (n 11), .ref (n 12), .int (nI mmoreMany), .int mlawNow, .int mwetSet, .int moverAll, .ref (n 13), .ref (n 14), .ref (n 15), .int mones, .int mtwos, .int mgone, .ref (n 16), .ref (n 17), .int mroundNow, .ref (n 18), .long msampleFor, .long msampleAll, .ref (n 19), .int maskWorst, .long moftenAll, .long moftenView, .long moftenOnes, .ref (n 20), .ref (n 21), .ref (n 22), .ref (n 23)])), ((n 1), .inl (k 0, 99, .inl fworld)), ((n 7), .inl (k 0, 12, .inl frowOf)), ((n 8), .inl (k 0, 12, .inl fplaceOf)), ((n 9), .inl (k 0, 4, .inl ffirstOf)), ((n 10), .inl (k 0, 12, .inl fhardNow)), ((n 11), .inl (k 0, 14, .inl fmoreHead)), ((n 12), .inl (k 0, 14, .inl fmoreView)), ((n 13), .inl (k 0, 17, .inl fonesAt)), ((n 14), .inl (k 0, 17, .inl ftwosAt)), ((n 15), .inl (k 0, 17, .inl fgoneAt))] 0 0 (Ui D (fun (r : Int32) (u : (Nat → Int32) × (Nat → Nat) × (Nat → Nat → Int32) × (Nat → Nat → Int64) × (Nat → Int64)) => (u.2.1 0 ≤ 14)) (fun u : (Nat → Int32) × (Nat → Nat) × (Nat → Nat → Int32) × (Nat → Nat → Int64) × (Nat → Int64) => [((n 0), .inr (11, [.int mthrown, .ref (n 1), .ref (n 2), .ref (n 3), .ref (n 4), .int (nI mtaped), .ref (n 5), .int (nI msize), .int (nI mat), .int (nI mfrom), .int mtoken, .int mvalue, .int mfaultKind, .int mfaultPlace, .ref (n 6), .ref (n 7), .ref (n 8), .ref (n 9), .ref (n 10), .ref (n 11), .ref (n 12), .int (nI (u.2.1 0)), .int (u.1 0), .int (u.1 1), .int (u.1 2), .ref (n 13), .ref (n 14), .ref (n 15), .int (u.1 3), .int (u.1 4), .int (u.1 5), .ref (n 16), .ref (n 17), .int mroundNow, .ref (n 18), .long msampleFor, .long msampleAll, .ref (n 19), .int maskWorst, .long moftenAll, .long moftenView, .long moftenOnes, .ref (n 20), .ref (n 21), .ref (n 22), .ref (n 23)])), ((n 1), .inl (k 0, 99, .inl fworld)), ((n 7), .inl (k 0, 12, .inl (u.2.2.1 4))), ((n 8), .inl (k 0, 12, .inl (u.2.2.1 5))), ((n 9), .inl (k 0, 4, .inl (u.2.2.1 6))), ((n 10), .inl (k 0, 12, .inl (u.2.2.1 0))), ((n 11), .inl (k 0, 14, .inl fmoreHead)), ((n 12), .inl (k 0, 14, .inl fmoreView)), ((n 13), .inl (k 0, 17, .inl (u.2.2.1 1))), ((n 14), .inl (k 0, 17, .inl (u.2.2.1 2))), ((n 15), .inl (k 0, 17, .inl (u.2.2.1 3)))])) := by
  refine MU.of (by decide) (Nat.le_of_ble_eq_true rfl) ?_
  intro p e s m below meth c ls A args Q S hr hlk hnm hQ hK hP hD hZ hA hS hl
  have hx := S.1
  have hb := S.2.1
  have hl : lv_has ls 3 [(0, .ref (n 0))] := hl
  have hbfworld := okW_bd hkworld
  refine lv_aload_n hx hb dX11_fickle_0 rfl (lv_at hl 0 rfl) ?_
  refine x_muVi (wr := []) (As := []) S hK hP hD hZ hS hA hl mwX11_asksGarden lkX11_315 (ctX11_asksGarden l D k z n mthrown mtaped msize mat mfrom mtoken mvalue mfaultKind mfaultPlace mmoreMany mlawNow mwetSet moverAll mones mtwos mgone mroundNow msampleFor msampleAll maskWorst moftenAll moftenView moftenOnes fworld frowOf fplaceOf ffirstOf fhardNow fmoreHead fmoreView fonesAt ftwosAt fgoneAt (by omega) (by omega) (by omega) (by omega) (by omega) (hkworld)) [0, 1, 2, 3, 4, 5, 6, 7, 8, 9, 10] [] rfl rfl (by decide) (by decide) (by decide) rfl rfl rfl rfl rfl ⟨Nat.le_of_ble_eq_true rfl, Nat.le_of_ble_eq_true rfl, Nat.le_of_ble_eq_true rfl⟩ dX11_fickle_1 ⟨Nat.le_of_ble_eq_true rfl, Nat.le_of_ble_eq_true rfl⟩ (fun r_1 u_2 H locs hr_1 hP hD hS => ?_)
  have hP : va_P D vwCl [((n 0), .inr (11, [.int mthrown, .ref (n 1), .ref (n 2), .ref (n 3), .ref (n 4), .int (nI mtaped), .ref (n 5), .int (nI msize), .int (nI mat), .int (nI mfrom), .int mtoken, .int mvalue, .int mfaultKind, .int mfaultPlace, .ref (n 6), .ref (n 7), .ref (n 8), .ref (n 9), .ref (n 10), .ref (n 11), .ref (n 12), .int (nI (u_2.2.1 0)), .int (u_2.1 0), .int (u_2.1 1), .int (u_2.1 2), .ref (n 13), .ref (n 14), .ref (n 15), .int (u_2.1 3), .int (u_2.1 4), .int (u_2.1 5), .ref (n 16), .ref (n 17), .int mroundNow, .ref (n 18), .long msampleFor, .long msampleAll, .ref (n 19), .int maskWorst, .long moftenAll, .long moftenView, .long moftenOnes, .ref (n 20), .ref (n 21), .ref (n 22), .ref (n 23)])), ((n 1), .inl (k 0, 99, .inl fworld)), ((n 7), .inl (k 0, 12, .inl (u_2.2.2.1 4))), ((n 8), .inl (k 0, 12, .inl (u_2.2.2.1 5))), ((n 9), .inl (k 0, 4, .inl (u_2.2.2.1 6))), ((n 10), .inl (k 0, 12, .inl (u_2.2.2.1 0))), ((n 11), .inl (k 0, 14, .inl fmoreHead)), ((n 12), .inl (k 0, 14, .inl fmoreView)), ((n 13), .inl (k 0, 17, .inl (u_2.2.2.1 1))), ((n 14), .inl (k 0, 17, .inl (u_2.2.2.1 2))), ((n 15), .inl (k 0, 17, .inl (u_2.2.2.1 3)))] H := hP.sub [0, 1, 2, 3, 4, 5, 6, 7, 8, 9, 10] rfl
  have hD : va_D A [((n 0), .inr (11, [.int mthrown, .ref (n 1), .ref (n 2), .ref (n 3), .ref (n 4), .int (nI mtaped), .ref (n 5), .int (nI msize), .int (nI mat), .int (nI mfrom), .int mtoken, .int mvalue, .int mfaultKind, .int mfaultPlace, .ref (n 6), .ref (n 7), .ref (n 8), .ref (n 9), .ref (n 10), .ref (n 11), .ref (n 12), .int (nI (u_2.2.1 0)), .int (u_2.1 0), .int (u_2.1 1), .int (u_2.1 2), .ref (n 13), .ref (n 14), .ref (n 15), .int (u_2.1 3), .int (u_2.1 4), .int (u_2.1 5), .ref (n 16), .ref (n 17), .int mroundNow, .ref (n 18), .long msampleFor, .long msampleAll, .ref (n 19), .int maskWorst, .long moftenAll, .long moftenView, .long moftenOnes, .ref (n 20), .ref (n 21), .ref (n 22), .ref (n 23)])), ((n 1), .inl (k 0, 99, .inl fworld)), ((n 7), .inl (k 0, 12, .inl (u_2.2.2.1 4))), ((n 8), .inl (k 0, 12, .inl (u_2.2.2.1 5))), ((n 9), .inl (k 0, 4, .inl (u_2.2.2.1 6))), ((n 10), .inl (k 0, 12, .inl (u_2.2.2.1 0))), ((n 11), .inl (k 0, 14, .inl fmoreHead)), ((n 12), .inl (k 0, 14, .inl fmoreView)), ((n 13), .inl (k 0, 17, .inl (u_2.2.2.1 1))), ((n 14), .inl (k 0, 17, .inl (u_2.2.2.1 2))), ((n 15), .inl (k 0, 17, .inl (u_2.2.2.1 3)))] := hD.sub [0, 1, 2, 3, 4, 5, 6, 7, 8, 9, 10] (by decide) rfl
  obtain ⟨hz_3, hg_4⟩ := hr_1
  refine lv_if_ne (tgt := 10) hx hb dX11_fickle_4 (by decide) (fun c_5 => ?_) (fun c_5 => ?_)
  · skip
    refine lv_iconst (v := (-1)) hx hb dX11_fickle_10 (by decide) ?_
    refine lv_istore_n (lv' := [(1, .int (-1)), (0, .ref (n 0))]) hx hb dX11_fickle_11 rfl hl (by decide) rfl (fun ls hl => ?_)
    refine lv_iconst (v := 0) hx hb dX11_fickle_12 (by decide) ?_
    refine lv_istore_n (lv' := [(2, .int 0), (1, .int (-1)), (0, .ref (n 0))]) hx hb dX11_fickle_13 rfl hl (by decide) rfl (fun ls hl => ?_)
    have lp_31 : ∀ (nn j_29 : Nat) (x_30 : Int32) (H : Heap) (locs : List Loc) (ls : Array Slot), j_29 ≤ wn fworld 4 → wn fworld 4 - j_29 < nn → va_P D vwCl [((n 0), .inr (11, [.int mthrown, .ref (n 1), .ref (n 2), .ref (n 3), .ref (n 4), .int (nI mtaped), .ref (n 5), .int (nI msize), .int (nI mat), .int (nI mfrom), .int mtoken, .int mvalue, .int mfaultKind, .int mfaultPlace, .ref (n 6), .ref (n 7), .ref (n 8), .ref (n 9), .ref (n 10), .ref (n 11), .ref (n 12), .int (nI (u_2.2.1 0)), .int (u_2.1 0), .int (u_2.1 1), .int (u_2.1 2), .ref (n 13), .ref (n 14), .ref (n 15), .int (u_2.1 3), .int (u_2.1 4), .int (u_2.1 5), .ref (n 16), .ref (n 17), .int mroundNow, .ref (n 18), .long msampleFor, .long msampleAll, .ref (n 19), .int maskWorst, .long moftenAll, .long moftenView, .long moftenOnes, .ref (n 20), .ref (n 21), .ref (n 22), .ref (n 23)])), ((n 1), .inl (k 0, 99, .inl fworld)), ((n 7), .inl (k 0, 12, .inl (u_2.2.2.1 4))), ((n 8), .inl (k 0, 12, .inl (u_2.2.2.1 5))), ((n 9), .inl (k 0, 4, .inl (u_2.2.2.1 6))), ((n 10), .inl (k 0, 12, .inl (u_2.2.2.1 0))), ((n 11), .inl (k 0, 14, .inl fmoreHead)), ((n 12), .inl (k 0, 14, .inl fmoreView)), ((n 13), .inl (k 0, 17, .inl (u_2.2.2.1 1))), ((n 14), .inl (k 0, 17, .inl (u_2.2.2.1 2))), ((n 15), .inl (k 0, 17, .inl (u_2.2.2.1 3)))] H → va_D A [((n 0), .inr (11, [.int mthrown, .ref (n 1), .ref (n 2), .ref (n 3), .ref (n 4), .int (nI mtaped), .ref (n 5), .int (nI msize), .int (nI mat), .int (nI mfrom), .int mtoken, .int mvalue, .int mfaultKind, .int mfaultPlace, .ref (n 6), .ref (n 7), .ref (n 8), .ref (n 9), .ref (n 10), .ref (n 11), .ref (n 12), .int (nI (u_2.2.1 0)), .int (u_2.1 0), .int (u_2.1 1), .int (u_2.1 2), .ref (n 13), .ref (n 14), .ref (n 15), .int (u_2.1 3), .int (u_2.1 4), .int (u_2.1 5), .ref (n 16), .ref (n 17), .int mroundNow, .ref (n 18), .long msampleFor, .long msampleAll, .ref (n 19), .int maskWorst, .long moftenAll, .long moftenView, .long moftenOnes, .ref (n 20), .ref (n 21), .ref (n 22), .ref (n 23)])), ((n 1), .inl (k 0, 99, .inl fworld)), ((n 7), .inl (k 0, 12, .inl (u_2.2.2.1 4))), ((n 8), .inl (k 0, 12, .inl (u_2.2.2.1 5))), ((n 9), .inl (k 0, 4, .inl (u_2.2.2.1 6))), ((n 10), .inl (k 0, 12, .inl (u_2.2.2.1 0))), ((n 11), .inl (k 0, 14, .inl fmoreHead)), ((n 12), .inl (k 0, 14, .inl fmoreView)), ((n 13), .inl (k 0, 17, .inl (u_2.2.2.1 1))), ((n 14), .inl (k 0, 17, .inl (u_2.2.2.1 2))), ((n 15), .inl (k 0, 17, .inl (u_2.2.2.1 3)))] → va_S A s.heap H locs → lv_has ls 3 [(2, .int (nI j_29)), (1, .int x_30), (0, .ref (n 0))] → W p l e (Rm 8 0 0) s m args below meth c H locs 0 0 Q (F0 m 14 ls []) := by
      intro nn
      induction nn with
      | zero => intro j_29 x_30 H locs ls hjj_29 hnj_29; exact absurd hnj_29 (by omega)
      | succ nn ihj_29 =>
        intro j_29 x_30 H locs ls hjj_29 hnj_29 hP hD hS hl
        refine lv_iload_n hx hb dX11_fickle_14 rfl (lv_at hl 0 rfl) ?_
        refine lv_aload_n hx hb dX11_fickle_15 rfl (lv_at hl 2 rfl) ?_
        refine x_roVi (As := []) S hK hP hD hZ (fun _ h => h) hA hS hA hl mwX11_headMany lkX11_95 (ctX11_headMany l D k z n mthrown mtaped msize mat mfrom mtoken mvalue mfaultKind mfaultPlace (u_2.2.1 0) (u_2.1 0) (u_2.1 1) (u_2.1 2) (u_2.1 3) (u_2.1 4) (u_2.1 5) mroundNow msampleFor msampleAll maskWorst moftenAll moftenView moftenOnes fworld (by omega) (by omega) (by omega) (by omega) (by omega) (hkworld)) [0, 1] rfl (by decide) rfl rfl rfl rfl rfl ⟨Nat.le_of_ble_eq_true rfl, Nat.le_of_ble_eq_true rfl, Nat.le_of_ble_eq_true rfl⟩ dX11_fickle_16 ⟨Nat.le_of_ble_eq_true rfl, Nat.le_of_ble_eq_true rfl⟩ (fun r_32 H locs hr_32 hP hS => ?_)
        obtain rfl := hr_32
        refine lv_icmp_ge (tgt := 52) hx hb dX11_fickle_19 (by decide) (fun c_34 => ?_) (fun c_34 => ?_)
        · skip
          have c_34 : wn fworld 4 ≤ j_29 := (ni_le rfl rfl (by omega) (by omega)).mp c_34
          refine lv_iload_n hx hb dX11_fickle_52 rfl (lv_at hl 1 rfl) ?_
          exact x_reti S hr hlk hQ hS ((fun i => ([(u_2.1 0), (u_2.1 1), (u_2.1 2), (u_2.1 3), (u_2.1 4), (u_2.1 5)] : List (Int32)).getD i 0), (fun i => ([u_2.2.1 0] : List (Nat)).getD i 0), (fun i => ([(u_2.2.2.1 0), (u_2.2.2.1 1), (u_2.2.2.1 2), (u_2.2.2.1 3), (u_2.2.2.1 4), (u_2.2.2.1 5), (u_2.2.2.1 6)] : List (Nat → Int32)).getD i (fun _ => 0)), (fun i => ([] : List (Nat → Int64)).getD i (fun _ => 0)), (fun i => ([] : List (Int64)).getD i 0)) (show u_2.2.1 0 ≤ 14 by omega) (x_B hP hD) dX11_fickle_53
        · skip
          have c_34 : ¬ wn fworld 4 ≤ j_29 := fun q => c_34 ((ni_le rfl rfl (by omega) (by omega)).mpr q)
          refine lv_aload_n hx hb dX11_fickle_22 rfl (lv_at hl 2 rfl) ?_
          refine lv_iload_n hx hb dX11_fickle_23 rfl (lv_at hl 0 rfl) ?_
          refine x_roVi (As := [.int (nI j_29)]) S hK hP hD hZ (fun _ h => h) hA hS hA hl mwX11_swaysOf lkX11_345 (ctX11_swaysOf l D k z n mthrown mtaped msize mat mfrom mtoken mvalue mfaultKind mfaultPlace (u_2.2.1 0) (u_2.1 0) (u_2.1 1) (u_2.1 2) (u_2.1 3) (u_2.1 4) (u_2.1 5) mroundNow msampleFor msampleAll maskWorst moftenAll moftenView moftenOnes fworld (u_2.2.2.1 1) (u_2.2.2.1 2) (nI j_29) (by omega) (by omega) (by omega) (by omega) (by omega) (hkworld)) [0, 1, 8, 9] rfl (by decide) rfl rfl rfl rfl rfl ⟨Nat.le_of_ble_eq_true rfl, Nat.le_of_ble_eq_true rfl, Nat.le_of_ble_eq_true rfl⟩ dX11_fickle_24 ⟨Nat.le_of_ble_eq_true rfl, Nat.le_of_ble_eq_true rfl⟩ (fun r_35 H locs hr_35 hP hS => ?_)
          refine lv_iload_n hx hb dX11_fickle_27 rfl (lv_at hl 1 rfl) ?_
          refine lv_iconst (v := (-1)) hx hb dX11_fickle_28 (by decide) ?_
          refine lv_icmp_ne (tgt := 36) hx hb dX11_fickle_29 (by decide) (fun c_37 => ?_) (fun c_37 => ?_)
          · skip
            refine lv_aload_n hx hb dX11_fickle_36 rfl (lv_at hl 2 rfl) ?_
            refine lv_iload_n hx hb dX11_fickle_37 rfl (lv_at hl 1 rfl) ?_
            refine x_roVi (As := [.int x_30]) S hK hP hD hZ (fun _ h => h) hA hS hA hl mwX11_swaysOf lkX11_345 (ctX11_swaysOf l D k z n mthrown mtaped msize mat mfrom mtoken mvalue mfaultKind mfaultPlace (u_2.2.1 0) (u_2.1 0) (u_2.1 1) (u_2.1 2) (u_2.1 3) (u_2.1 4) (u_2.1 5) mroundNow msampleFor msampleAll maskWorst moftenAll moftenView moftenOnes fworld (u_2.2.2.1 1) (u_2.2.2.1 2) x_30 (by omega) (by omega) (by omega) (by omega) (by omega) (hkworld)) [0, 1, 8, 9] rfl (by decide) rfl rfl rfl rfl rfl ⟨Nat.le_of_ble_eq_true rfl, Nat.le_of_ble_eq_true rfl, Nat.le_of_ble_eq_true rfl⟩ dX11_fickle_38 ⟨Nat.le_of_ble_eq_true rfl, Nat.le_of_ble_eq_true rfl⟩ (fun r_38 H locs hr_38 hP hS => ?_)
            refine lv_icmp_le (tgt := 46) hx hb dX11_fickle_41 (by decide) (fun c_40 => ?_) (fun c_40 => ?_)
            · skip
              refine lv_iinc (v := (nI (j_29 + 1))) (lv' := [(2, .int (nI (j_29 + 1))), (1, .int x_30), (0, .ref (n 0))]) hx hb dX11_fickle_46 hl (k := 0) rfl (ni_inc _) (by decide) rfl (fun ls hl => ?_)
              refine lv_goto (tgt := 14) hx hb dX11_fickle_49 (by decide) ?_
              exact ihj_29 (j_29 + 1) x_30 _ _ _ (by omega) (by omega) hP hD hS (lv_sub hl [0, 1, 2] rfl)
            · skip
              refine lv_iload_n hx hb dX11_fickle_44 rfl (lv_at hl 0 rfl) ?_
              refine lv_istore_n (lv' := [(1, .int (nI j_29)), (2, .int (nI j_29)), (0, .ref (n 0))]) hx hb dX11_fickle_45 rfl hl (by decide) rfl (fun ls hl => ?_)
              refine lv_iinc (v := (nI (j_29 + 1))) (lv' := [(2, .int (nI (j_29 + 1))), (1, .int (nI j_29)), (0, .ref (n 0))]) hx hb dX11_fickle_46 hl (k := 1) rfl (ni_inc _) (by decide) rfl (fun ls hl => ?_)
              refine lv_goto (tgt := 14) hx hb dX11_fickle_49 (by decide) ?_
              exact ihj_29 (j_29 + 1) (nI j_29) _ _ _ (by omega) (by omega) hP hD hS (lv_sub hl [0, 1, 2] rfl)
          · skip
            refine lv_iconst (v := 0) hx hb dX11_fickle_32 (by decide) ?_
            refine lv_goto (tgt := 41) hx hb dX11_fickle_33 (by decide) ?_
            refine lv_icmp_le (tgt := 46) hx hb dX11_fickle_41 (by decide) (fun c_41 => ?_) (fun c_41 => ?_)
            · skip
              refine lv_iinc (v := (nI (j_29 + 1))) (lv' := [(2, .int (nI (j_29 + 1))), (1, .int x_30), (0, .ref (n 0))]) hx hb dX11_fickle_46 hl (k := 0) rfl (ni_inc _) (by decide) rfl (fun ls hl => ?_)
              refine lv_goto (tgt := 14) hx hb dX11_fickle_49 (by decide) ?_
              exact ihj_29 (j_29 + 1) x_30 _ _ _ (by omega) (by omega) hP hD hS (lv_sub hl [0, 1, 2] rfl)
            · skip
              refine lv_iload_n hx hb dX11_fickle_44 rfl (lv_at hl 0 rfl) ?_
              refine lv_istore_n (lv' := [(1, .int (nI j_29)), (2, .int (nI j_29)), (0, .ref (n 0))]) hx hb dX11_fickle_45 rfl hl (by decide) rfl (fun ls hl => ?_)
              refine lv_iinc (v := (nI (j_29 + 1))) (lv' := [(2, .int (nI (j_29 + 1))), (1, .int (nI j_29)), (0, .ref (n 0))]) hx hb dX11_fickle_46 hl (k := 1) rfl (ni_inc _) (by decide) rfl (fun ls hl => ?_)
              refine lv_goto (tgt := 14) hx hb dX11_fickle_49 (by decide) ?_
              exact ihj_29 (j_29 + 1) (nI j_29) _ _ _ (by omega) (by omega) hP hD hS (lv_sub hl [0, 1, 2] rfl)
    exact lp_31 (wn fworld 4 + 1) 0 (-1) _ _ _ (by omega) (by omega) hP hD hS (lv_sub hl [0, 1, 2] rfl)
  · skip
    refine lv_bipush (v := (-2)) hx hb dX11_fickle_7 (by decide) ?_
    exact x_reti S hr hlk hQ hS ((fun i => ([(u_2.1 0), (u_2.1 1), (u_2.1 2), (u_2.1 3), (u_2.1 4), (u_2.1 5)] : List (Int32)).getD i 0), (fun i => ([u_2.2.1 0] : List (Nat)).getD i 0), (fun i => ([(u_2.2.2.1 0), (u_2.2.2.1 1), (u_2.2.2.1 2), (u_2.2.2.1 3), (u_2.2.2.1 4), (u_2.2.2.1 5), (u_2.2.2.1 6)] : List (Nat → Int32)).getD i (fun _ => 0)), (fun i => ([] : List (Nat → Int64)).getD i (fun _ => 0)), (fun i => ([] : List (Int64)).getD i 0)) (show u_2.2.1 0 ≤ 14 by omega) (x_B hP hD) dX11_fickle_9

set_option maxHeartbeats 4000000 in
set_option maxRecDepth 100000 in
theorem ctX11_agree (l : Launch) (D : va_G) (k : Nat → ClassId) (z : Nat → Nat) (n : Nat → Nat) (mthrown : Int32) (mtaped : Nat) (msize : Nat) (mat : Nat) (mfrom : Nat) (mtoken : Int32) (mvalue : Int32) (mfaultKind : Int32) (mfaultPlace : Int32) (mmoreMany : Nat) (mlawNow : Int32) (mwetSet : Int32) (moverAll : Int32) (mones : Int32) (mtwos : Int32) (mgone : Int32) (mroundNow : Int32) (msampleFor : Int64) (msampleAll : Int64) (maskWorst : Int32) (moftenAll : Int64) (moftenView : Int64) (moftenOnes : Int64) (fworld : Nat → Int32) (frowOf : Nat → Int32) (fplaceOf : Nat → Int32) (ffirstOf : Nat → Int32) (fhardNow : Nat → Int32) (fmoreHead : Nat → Int32) (fmoreView : Nat → Int32) (fonesAt : Nat → Int32) (ftwosAt : Nat → Int32) (fgoneAt : Nat → Int32) (hmtaped : mtaped ≤ 600) (hmsize : msize ≤ 600) (hmat : mat ≤ 600) (hmfrom : mfrom ≤ 600) (hmmoreMany : mmoreMany ≤ 14) (hkworld : okW fworld) : MU l yX11_agree cX11_agree 2 (some .int) 8 D k z [.ref (n 0)] [((n 0), .inr (11, [.int mthrown, .ref (n 1), .ref (n 2), .ref (n 3), .ref (n 4), .int (nI mtaped), .ref (n 5), .int (nI msize), .int (nI mat), .int (nI mfrom), .int mtoken, .int mvalue, .int mfaultKind, .int mfaultPlace, .ref (n 6), .ref (n 7), .ref (n 8), .ref (n 9), .ref (n 10), .ref (n 11), .ref (n 12), .int (nI mmoreMany), .int mlawNow, .int mwetSet, .int moverAll, .ref (n 13), .ref (n 14), .ref (n 15), .int mones, .int mtwos, .int mgone, .ref (n 16), .ref (n 17), .int mroundNow, .ref (n 18), .long msampleFor, .long msampleAll, .ref (n 19), .int maskWorst, .long moftenAll, .long moftenView, .long moftenOnes, .ref (n 20), .ref (n 21), .ref (n 22), .ref (n 23)])), ((n 1), .inl (k 0, 99, .inl fworld)), ((n 7), .inl (k 0, 12, .inl frowOf)), ((n 8), .inl (k 0, 12, .inl fplaceOf)), ((n 9), .inl (k 0, 4, .inl ffirstOf)), ((n 10), .inl (k 0, 12, .inl fhardNow)), ((n 11), .inl (k 0, 14, .inl fmoreHead)), ((n 12), .inl (k 0, 14, .inl fmoreView)), ((n 13), .inl (k 0, 17, .inl fonesAt)), ((n 14), .inl (k 0, 17, .inl ftwosAt)), ((n 15), .inl (k 0, 17, .inl fgoneAt))] 0 0 (Ui D (fun (r : Int32) (u : (Nat → Int32) × (Nat → Nat) × (Nat → Nat → Int32) × (Nat → Nat → Int64) × (Nat → Int64)) => (u.2.1 0 ≤ 14)) (fun u : (Nat → Int32) × (Nat → Nat) × (Nat → Nat → Int32) × (Nat → Nat → Int64) × (Nat → Int64) => [((n 0), .inr (11, [.int mthrown, .ref (n 1), .ref (n 2), .ref (n 3), .ref (n 4), .int (nI mtaped), .ref (n 5), .int (nI msize), .int (nI mat), .int (nI mfrom), .int mtoken, .int mvalue, .int mfaultKind, .int mfaultPlace, .ref (n 6), .ref (n 7), .ref (n 8), .ref (n 9), .ref (n 10), .ref (n 11), .ref (n 12), .int (nI (u.2.1 0)), .int (u.1 0), .int (u.1 1), .int (u.1 2), .ref (n 13), .ref (n 14), .ref (n 15), .int (u.1 3), .int (u.1 4), .int (u.1 5), .ref (n 16), .ref (n 17), .int mroundNow, .ref (n 18), .long msampleFor, .long msampleAll, .ref (n 19), .int maskWorst, .long moftenAll, .long moftenView, .long moftenOnes, .ref (n 20), .ref (n 21), .ref (n 22), .ref (n 23)])), ((n 1), .inl (k 0, 99, .inl fworld)), ((n 7), .inl (k 0, 12, .inl (u.2.2.1 4))), ((n 8), .inl (k 0, 12, .inl (u.2.2.1 5))), ((n 9), .inl (k 0, 4, .inl (u.2.2.1 6))), ((n 10), .inl (k 0, 12, .inl (u.2.2.1 0))), ((n 11), .inl (k 0, 14, .inl fmoreHead)), ((n 12), .inl (k 0, 14, .inl fmoreView)), ((n 13), .inl (k 0, 17, .inl (u.2.2.1 1))), ((n 14), .inl (k 0, 17, .inl (u.2.2.1 2))), ((n 15), .inl (k 0, 17, .inl (u.2.2.1 3)))])) := by
  refine MU.of (by decide) (Nat.le_of_ble_eq_true rfl) ?_
  intro p e s m below meth c ls A args Q S hr hlk hnm hQ hK hP hD hZ hA hS hl
  have hx := S.1
  have hb := S.2.1
  have hl : lv_has ls 2 [(0, .ref (n 0))] := hl
  have hbfworld := okW_bd hkworld
  refine lv_aload_n hx hb dX11_agree_0 rfl (lv_at hl 0 rfl) ?_
  refine x_muVi (wr := []) (As := []) S hK hP hD hZ hS hA hl mwX11_asksGarden lkX11_315 (ctX11_asksGarden l D k z n mthrown mtaped msize mat mfrom mtoken mvalue mfaultKind mfaultPlace mmoreMany mlawNow mwetSet moverAll mones mtwos mgone mroundNow msampleFor msampleAll maskWorst moftenAll moftenView moftenOnes fworld frowOf fplaceOf ffirstOf fhardNow fmoreHead fmoreView fonesAt ftwosAt fgoneAt (by omega) (by omega) (by omega) (by omega) (by omega) (hkworld)) [0, 1, 2, 3, 4, 5, 6, 7, 8, 9, 10] [] rfl rfl (by decide) (by decide) (by decide) rfl rfl rfl rfl rfl ⟨Nat.le_of_ble_eq_true rfl, Nat.le_of_ble_eq_true rfl, Nat.le_of_ble_eq_true rfl⟩ dX11_agree_1 ⟨Nat.le_of_ble_eq_true rfl, Nat.le_of_ble_eq_true rfl⟩ (fun r_1 u_2 H locs hr_1 hP hD hS => ?_)
  have hP : va_P D vwCl [((n 0), .inr (11, [.int mthrown, .ref (n 1), .ref (n 2), .ref (n 3), .ref (n 4), .int (nI mtaped), .ref (n 5), .int (nI msize), .int (nI mat), .int (nI mfrom), .int mtoken, .int mvalue, .int mfaultKind, .int mfaultPlace, .ref (n 6), .ref (n 7), .ref (n 8), .ref (n 9), .ref (n 10), .ref (n 11), .ref (n 12), .int (nI (u_2.2.1 0)), .int (u_2.1 0), .int (u_2.1 1), .int (u_2.1 2), .ref (n 13), .ref (n 14), .ref (n 15), .int (u_2.1 3), .int (u_2.1 4), .int (u_2.1 5), .ref (n 16), .ref (n 17), .int mroundNow, .ref (n 18), .long msampleFor, .long msampleAll, .ref (n 19), .int maskWorst, .long moftenAll, .long moftenView, .long moftenOnes, .ref (n 20), .ref (n 21), .ref (n 22), .ref (n 23)])), ((n 1), .inl (k 0, 99, .inl fworld)), ((n 7), .inl (k 0, 12, .inl (u_2.2.2.1 4))), ((n 8), .inl (k 0, 12, .inl (u_2.2.2.1 5))), ((n 9), .inl (k 0, 4, .inl (u_2.2.2.1 6))), ((n 10), .inl (k 0, 12, .inl (u_2.2.2.1 0))), ((n 11), .inl (k 0, 14, .inl fmoreHead)), ((n 12), .inl (k 0, 14, .inl fmoreView)), ((n 13), .inl (k 0, 17, .inl (u_2.2.2.1 1))), ((n 14), .inl (k 0, 17, .inl (u_2.2.2.1 2))), ((n 15), .inl (k 0, 17, .inl (u_2.2.2.1 3)))] H := hP.sub [0, 1, 2, 3, 4, 5, 6, 7, 8, 9, 10] rfl
  have hD : va_D A [((n 0), .inr (11, [.int mthrown, .ref (n 1), .ref (n 2), .ref (n 3), .ref (n 4), .int (nI mtaped), .ref (n 5), .int (nI msize), .int (nI mat), .int (nI mfrom), .int mtoken, .int mvalue, .int mfaultKind, .int mfaultPlace, .ref (n 6), .ref (n 7), .ref (n 8), .ref (n 9), .ref (n 10), .ref (n 11), .ref (n 12), .int (nI (u_2.2.1 0)), .int (u_2.1 0), .int (u_2.1 1), .int (u_2.1 2), .ref (n 13), .ref (n 14), .ref (n 15), .int (u_2.1 3), .int (u_2.1 4), .int (u_2.1 5), .ref (n 16), .ref (n 17), .int mroundNow, .ref (n 18), .long msampleFor, .long msampleAll, .ref (n 19), .int maskWorst, .long moftenAll, .long moftenView, .long moftenOnes, .ref (n 20), .ref (n 21), .ref (n 22), .ref (n 23)])), ((n 1), .inl (k 0, 99, .inl fworld)), ((n 7), .inl (k 0, 12, .inl (u_2.2.2.1 4))), ((n 8), .inl (k 0, 12, .inl (u_2.2.2.1 5))), ((n 9), .inl (k 0, 4, .inl (u_2.2.2.1 6))), ((n 10), .inl (k 0, 12, .inl (u_2.2.2.1 0))), ((n 11), .inl (k 0, 14, .inl fmoreHead)), ((n 12), .inl (k 0, 14, .inl fmoreView)), ((n 13), .inl (k 0, 17, .inl (u_2.2.2.1 1))), ((n 14), .inl (k 0, 17, .inl (u_2.2.2.1 2))), ((n 15), .inl (k 0, 17, .inl (u_2.2.2.1 3)))] := hD.sub [0, 1, 2, 3, 4, 5, 6, 7, 8, 9, 10] (by decide) rfl
  obtain ⟨hz_3, hg_4⟩ := hr_1
  refine lv_if_ne (tgt := 10) hx hb dX11_agree_4 (by decide) (fun c_5 => ?_) (fun c_5 => ?_)
  · skip
    refine lv_iconst (v := 0) hx hb dX11_agree_10 (by decide) ?_
    refine lv_istore_n (lv' := [(1, .int 0), (0, .ref (n 0))]) hx hb dX11_agree_11 rfl hl (by decide) rfl (fun ls hl => ?_)
    have lp_28 : ∀ (nn j_27 : Nat)  (H : Heap) (locs : List Loc) (ls : Array Slot), j_27 ≤ wn fworld 0 + 1 → wn fworld 0 + 1 - j_27 < nn → va_P D vwCl [((n 0), .inr (11, [.int mthrown, .ref (n 1), .ref (n 2), .ref (n 3), .ref (n 4), .int (nI mtaped), .ref (n 5), .int (nI msize), .int (nI mat), .int (nI mfrom), .int mtoken, .int mvalue, .int mfaultKind, .int mfaultPlace, .ref (n 6), .ref (n 7), .ref (n 8), .ref (n 9), .ref (n 10), .ref (n 11), .ref (n 12), .int (nI (u_2.2.1 0)), .int (u_2.1 0), .int (u_2.1 1), .int (u_2.1 2), .ref (n 13), .ref (n 14), .ref (n 15), .int (u_2.1 3), .int (u_2.1 4), .int (u_2.1 5), .ref (n 16), .ref (n 17), .int mroundNow, .ref (n 18), .long msampleFor, .long msampleAll, .ref (n 19), .int maskWorst, .long moftenAll, .long moftenView, .long moftenOnes, .ref (n 20), .ref (n 21), .ref (n 22), .ref (n 23)])), ((n 1), .inl (k 0, 99, .inl fworld)), ((n 7), .inl (k 0, 12, .inl (u_2.2.2.1 4))), ((n 8), .inl (k 0, 12, .inl (u_2.2.2.1 5))), ((n 9), .inl (k 0, 4, .inl (u_2.2.2.1 6))), ((n 10), .inl (k 0, 12, .inl (u_2.2.2.1 0))), ((n 11), .inl (k 0, 14, .inl fmoreHead)), ((n 12), .inl (k 0, 14, .inl fmoreView)), ((n 13), .inl (k 0, 17, .inl (u_2.2.2.1 1))), ((n 14), .inl (k 0, 17, .inl (u_2.2.2.1 2))), ((n 15), .inl (k 0, 17, .inl (u_2.2.2.1 3)))] H → va_D A [((n 0), .inr (11, [.int mthrown, .ref (n 1), .ref (n 2), .ref (n 3), .ref (n 4), .int (nI mtaped), .ref (n 5), .int (nI msize), .int (nI mat), .int (nI mfrom), .int mtoken, .int mvalue, .int mfaultKind, .int mfaultPlace, .ref (n 6), .ref (n 7), .ref (n 8), .ref (n 9), .ref (n 10), .ref (n 11), .ref (n 12), .int (nI (u_2.2.1 0)), .int (u_2.1 0), .int (u_2.1 1), .int (u_2.1 2), .ref (n 13), .ref (n 14), .ref (n 15), .int (u_2.1 3), .int (u_2.1 4), .int (u_2.1 5), .ref (n 16), .ref (n 17), .int mroundNow, .ref (n 18), .long msampleFor, .long msampleAll, .ref (n 19), .int maskWorst, .long moftenAll, .long moftenView, .long moftenOnes, .ref (n 20), .ref (n 21), .ref (n 22), .ref (n 23)])), ((n 1), .inl (k 0, 99, .inl fworld)), ((n 7), .inl (k 0, 12, .inl (u_2.2.2.1 4))), ((n 8), .inl (k 0, 12, .inl (u_2.2.2.1 5))), ((n 9), .inl (k 0, 4, .inl (u_2.2.2.1 6))), ((n 10), .inl (k 0, 12, .inl (u_2.2.2.1 0))), ((n 11), .inl (k 0, 14, .inl fmoreHead)), ((n 12), .inl (k 0, 14, .inl fmoreView)), ((n 13), .inl (k 0, 17, .inl (u_2.2.2.1 1))), ((n 14), .inl (k 0, 17, .inl (u_2.2.2.1 2))), ((n 15), .inl (k 0, 17, .inl (u_2.2.2.1 3)))] → va_S A s.heap H locs → lv_has ls 2 [(1, .int (nI j_27)), (0, .ref (n 0))] → W p l e (Rm 8 0 0) s m args below meth c H locs 0 0 Q (F0 m 12 ls []) := by
      intro nn
      induction nn with
      | zero => intro j_27  H locs ls hjj_27 hnj_27; exact absurd hnj_27 (by omega)
      | succ nn ihj_27 =>
        intro j_27  H locs ls hjj_27 hnj_27 hP hD hS hl
        refine lv_iload_n hx hb dX11_agree_12 rfl (lv_at hl 0 rfl) ?_
        refine lv_aload_n hx hb dX11_agree_13 rfl (lv_at hl 1 rfl) ?_
        refine x_roVi (As := []) S hK hP hD hZ (fun _ h => h) hA hS hA hl mwX11_hours lkX11_103 (ctX11_hours l D k z n mthrown mtaped msize mat mfrom mtoken mvalue mfaultKind mfaultPlace (u_2.2.1 0) (u_2.1 0) (u_2.1 1) (u_2.1 2) (u_2.1 3) (u_2.1 4) (u_2.1 5) mroundNow msampleFor msampleAll maskWorst moftenAll moftenView moftenOnes fworld (by omega) (by omega) (by omega) (by omega) (by omega) (hkworld)) [0, 1] rfl (by decide) rfl rfl rfl rfl rfl ⟨Nat.le_of_ble_eq_true rfl, Nat.le_of_ble_eq_true rfl, Nat.le_of_ble_eq_true rfl⟩ dX11_agree_14 ⟨Nat.le_of_ble_eq_true rfl, Nat.le_of_ble_eq_true rfl⟩ (fun r_29 H locs hr_29 hP hS => ?_)
        obtain rfl := hr_29
        refine lv_icmp_gt (tgt := 62) hx hb dX11_agree_17 (by decide) (fun c_31 => ?_) (fun c_31 => ?_)
        · skip
          have c_31 : wn fworld 0 < j_27 := (ni_lt rfl rfl (by omega) (by omega)).mp c_31
          refine lv_iconst (v := (-1)) hx hb dX11_agree_62 (by decide) ?_
          exact x_reti S hr hlk hQ hS ((fun i => ([(u_2.1 0), (u_2.1 1), (u_2.1 2), (u_2.1 3), (u_2.1 4), (u_2.1 5)] : List (Int32)).getD i 0), (fun i => ([u_2.2.1 0] : List (Nat)).getD i 0), (fun i => ([(u_2.2.2.1 0), (u_2.2.2.1 1), (u_2.2.2.1 2), (u_2.2.2.1 3), (u_2.2.2.1 4), (u_2.2.2.1 5), (u_2.2.2.1 6)] : List (Nat → Int32)).getD i (fun _ => 0)), (fun i => ([] : List (Nat → Int64)).getD i (fun _ => 0)), (fun i => ([] : List (Int64)).getD i 0)) (show u_2.2.1 0 ≤ 14 by omega) (x_B hP hD) dX11_agree_63
        · skip
          have c_31 : ¬ wn fworld 0 < j_27 := fun q => c_31 ((ni_lt rfl rfl (by omega) (by omega)).mpr q)
          refine lv_aload_n hx hb dX11_agree_20 rfl (lv_at hl 1 rfl) ?_
          refine lv_iload_n hx hb dX11_agree_21 rfl (lv_at hl 0 rfl) ?_
          refine x_roVi (As := [.int (nI j_27)]) S hK hP hD hZ (fun _ h => h) hA hS hA hl mwX11_stillThere lkX11_324 (ctX11_stillThere l D k z n mthrown mtaped msize mat mfrom mtoken mvalue mfaultKind mfaultPlace (u_2.2.1 0) (u_2.1 0) (u_2.1 1) (u_2.1 2) (u_2.1 3) (u_2.1 4) (u_2.1 5) mroundNow msampleFor msampleAll maskWorst moftenAll moftenView moftenOnes fworld (u_2.2.2.1 3) j_27 (by omega) (by omega) (by omega) (by omega) (by omega) (hkworld) (by omega)) [0, 1, 10] rfl (by decide) rfl rfl rfl rfl rfl ⟨Nat.le_of_ble_eq_true rfl, Nat.le_of_ble_eq_true rfl, Nat.le_of_ble_eq_true rfl⟩ dX11_agree_22 ⟨Nat.le_of_ble_eq_true rfl, Nat.le_of_ble_eq_true rfl⟩ (fun r_32 H locs hr_32 hP hS => ?_)
          obtain rfl := hr_32
          refine lv_aload_n hx hb dX11_agree_25 rfl (lv_at hl 1 rfl) ?_
          refine x_get S hK hP 0 rfl cfX11 25 lkX11_52 (by decide) rfl dX11_agree_26 ?_
          refine lv_iload_n hx hb dX11_agree_29 rfl (lv_at hl 0 rfl) ?_
          refine x_iald S hK hP 8 rfl (vp_in_nI (by omega) (by decide)) dX11_agree_30 ?_
          refine lv_topi (fun v_34 ev_34 => ?_)
          refine x_roSi (As := [.int (stT (nI (2 ^ wn fworld 4 - 1)) ((u_2.2.2.1 3) j_27)), .int v_34]) S hK hP hD hZ (fun _ h => h) hA hS hA hl mwX11_isOne lkX11_351 (ctX11_isOne l D k z (stT (nI (2 ^ wn fworld 4 - 1)) ((u_2.2.2.1 3) j_27)) v_34 ) [] rfl (by decide) rfl rfl ⟨Nat.le_of_ble_eq_true rfl, Nat.le_of_ble_eq_true rfl, Nat.le_of_ble_eq_true rfl⟩ dX11_agree_31 ⟨Nat.le_of_ble_eq_true rfl, Nat.le_of_ble_eq_true rfl⟩ (fun r_35 H locs hr_35 hP hS => ?_)
          have hz_37 := hr_35
          refine lv_if_ne (tgt := 54) hx hb dX11_agree_34 (by decide) (fun c_38 => ?_) (fun c_38 => ?_)
          · skip
            refine lv_iload_n hx hb dX11_agree_54 rfl (lv_at hl 0 rfl) ?_
            exact x_reti S hr hlk hQ hS ((fun i => ([(u_2.1 0), (u_2.1 1), (u_2.1 2), (u_2.1 3), (u_2.1 4), (u_2.1 5)] : List (Int32)).getD i 0), (fun i => ([u_2.2.1 0] : List (Nat)).getD i 0), (fun i => ([(u_2.2.2.1 0), (u_2.2.2.1 1), (u_2.2.2.1 2), (u_2.2.2.1 3), (u_2.2.2.1 4), (u_2.2.2.1 5), (u_2.2.2.1 6)] : List (Nat → Int32)).getD i (fun _ => 0)), (fun i => ([] : List (Nat → Int64)).getD i (fun _ => 0)), (fun i => ([] : List (Int64)).getD i 0)) (show u_2.2.1 0 ≤ 14 by omega) (x_B hP hD) dX11_agree_55
          · skip
            refine lv_aload_n hx hb dX11_agree_37 rfl (lv_at hl 1 rfl) ?_
            refine lv_iload_n hx hb dX11_agree_38 rfl (lv_at hl 0 rfl) ?_
            refine x_roVi (As := [.int (nI j_27)]) S hK hP hD hZ (fun _ h => h) hA hS hA hl mwX11_stillThere lkX11_324 (ctX11_stillThere l D k z n mthrown mtaped msize mat mfrom mtoken mvalue mfaultKind mfaultPlace (u_2.2.1 0) (u_2.1 0) (u_2.1 1) (u_2.1 2) (u_2.1 3) (u_2.1 4) (u_2.1 5) mroundNow msampleFor msampleAll maskWorst moftenAll moftenView moftenOnes fworld (u_2.2.2.1 3) j_27 (by omega) (by omega) (by omega) (by omega) (by omega) (hkworld) (by omega)) [0, 1, 10] rfl (by decide) rfl rfl rfl rfl rfl ⟨Nat.le_of_ble_eq_true rfl, Nat.le_of_ble_eq_true rfl, Nat.le_of_ble_eq_true rfl⟩ dX11_agree_39 ⟨Nat.le_of_ble_eq_true rfl, Nat.le_of_ble_eq_true rfl⟩ (fun r_39 H locs hr_39 hP hS => ?_)
            obtain rfl := hr_39
            refine lv_aload_n hx hb dX11_agree_42 rfl (lv_at hl 1 rfl) ?_
            refine x_get S hK hP 0 rfl cfX11 26 lkX11_55 (by decide) rfl dX11_agree_43 ?_
            refine lv_iload_n hx hb dX11_agree_46 rfl (lv_at hl 0 rfl) ?_
            refine x_iald S hK hP 9 rfl (vp_in_nI (by omega) (by decide)) dX11_agree_47 ?_
            refine lv_topi (fun v_41 ev_41 => ?_)
            refine x_roSi (As := [.int (stT (nI (2 ^ wn fworld 4 - 1)) ((u_2.2.2.1 3) j_27)), .int v_41]) S hK hP hD hZ (fun _ h => h) hA hS hA hl mwX11_isOne lkX11_351 (ctX11_isOne l D k z (stT (nI (2 ^ wn fworld 4 - 1)) ((u_2.2.2.1 3) j_27)) v_41 ) [] rfl (by decide) rfl rfl ⟨Nat.le_of_ble_eq_true rfl, Nat.le_of_ble_eq_true rfl, Nat.le_of_ble_eq_true rfl⟩ dX11_agree_48 ⟨Nat.le_of_ble_eq_true rfl, Nat.le_of_ble_eq_true rfl⟩ (fun r_42 H locs hr_42 hP hS => ?_)
            have hz_44 := hr_42
            refine lv_if_eq (tgt := 56) hx hb dX11_agree_51 (by decide) (fun c_45 => ?_) (fun c_45 => ?_)
            · skip
              refine lv_iinc (v := (nI (j_27 + 1))) (lv' := [(1, .int (nI (j_27 + 1))), (0, .ref (n 0))]) hx hb dX11_agree_56 hl (k := 0) rfl (ni_inc _) (by decide) rfl (fun ls hl => ?_)
              refine lv_goto (tgt := 12) hx hb dX11_agree_59 (by decide) ?_
              exact ihj_27 (j_27 + 1)  _ _ _ (by omega) (by omega) hP hD hS (lv_sub hl [0, 1] rfl)
            · skip
              refine lv_iload_n hx hb dX11_agree_54 rfl (lv_at hl 0 rfl) ?_
              exact x_reti S hr hlk hQ hS ((fun i => ([(u_2.1 0), (u_2.1 1), (u_2.1 2), (u_2.1 3), (u_2.1 4), (u_2.1 5)] : List (Int32)).getD i 0), (fun i => ([u_2.2.1 0] : List (Nat)).getD i 0), (fun i => ([(u_2.2.2.1 0), (u_2.2.2.1 1), (u_2.2.2.1 2), (u_2.2.2.1 3), (u_2.2.2.1 4), (u_2.2.2.1 5), (u_2.2.2.1 6)] : List (Nat → Int32)).getD i (fun _ => 0)), (fun i => ([] : List (Nat → Int64)).getD i (fun _ => 0)), (fun i => ([] : List (Int64)).getD i 0)) (show u_2.2.1 0 ≤ 14 by omega) (x_B hP hD) dX11_agree_55
    exact lp_28 (wn fworld 0 + 1 + 1) 0  _ _ _ (by omega) (by omega) hP hD hS (lv_sub hl [0, 1] rfl)
  · skip
    refine lv_bipush (v := (-2)) hx hb dX11_agree_7 (by decide) ?_
    exact x_reti S hr hlk hQ hS ((fun i => ([(u_2.1 0), (u_2.1 1), (u_2.1 2), (u_2.1 3), (u_2.1 4), (u_2.1 5)] : List (Int32)).getD i 0), (fun i => ([u_2.2.1 0] : List (Nat)).getD i 0), (fun i => ([(u_2.2.2.1 0), (u_2.2.2.1 1), (u_2.2.2.1 2), (u_2.2.2.1 3), (u_2.2.2.1 4), (u_2.2.2.1 5), (u_2.2.2.1 6)] : List (Nat → Int32)).getD i (fun _ => 0)), (fun i => ([] : List (Nat → Int64)).getD i (fun _ => 0)), (fun i => ([] : List (Int64)).getD i 0)) (show u_2.2.1 0 ≤ 14 by omega) (x_B hP hD) dX11_agree_9

set_option maxHeartbeats 4000000 in
set_option maxRecDepth 100000 in
theorem ctX11_still (l : Launch) (D : va_G) (k : Nat → ClassId) (z : Nat → Nat) (n : Nat → Nat) (mthrown : Int32) (mtaped : Nat) (msize : Nat) (mat : Nat) (mfrom : Nat) (mtoken : Int32) (mvalue : Int32) (mfaultKind : Int32) (mfaultPlace : Int32) (mmoreMany : Nat) (mlawNow : Int32) (mwetSet : Int32) (moverAll : Int32) (mones : Int32) (mtwos : Int32) (mgone : Int32) (mroundNow : Int32) (msampleFor : Int64) (msampleAll : Int64) (maskWorst : Int32) (moftenAll : Int64) (moftenView : Int64) (moftenOnes : Int64) (fworld : Nat → Int32) (frowOf : Nat → Int32) (fplaceOf : Nat → Int32) (ffirstOf : Nat → Int32) (fhardNow : Nat → Int32) (fmoreHead : Nat → Int32) (fmoreView : Nat → Int32) (fonesAt : Nat → Int32) (ftwosAt : Nat → Int32) (fgoneAt : Nat → Int32) (hmtaped : mtaped ≤ 600) (hmsize : msize ≤ 600) (hmat : mat ≤ 600) (hmfrom : mfrom ≤ 600) (hmmoreMany : mmoreMany ≤ 14) (hkworld : okW fworld) : MU l yX11_still cX11_still 2 (some .int) 8 D k z [.ref (n 0)] [((n 0), .inr (11, [.int mthrown, .ref (n 1), .ref (n 2), .ref (n 3), .ref (n 4), .int (nI mtaped), .ref (n 5), .int (nI msize), .int (nI mat), .int (nI mfrom), .int mtoken, .int mvalue, .int mfaultKind, .int mfaultPlace, .ref (n 6), .ref (n 7), .ref (n 8), .ref (n 9), .ref (n 10), .ref (n 11), .ref (n 12), .int (nI mmoreMany), .int mlawNow, .int mwetSet, .int moverAll, .ref (n 13), .ref (n 14), .ref (n 15), .int mones, .int mtwos, .int mgone, .ref (n 16), .ref (n 17), .int mroundNow, .ref (n 18), .long msampleFor, .long msampleAll, .ref (n 19), .int maskWorst, .long moftenAll, .long moftenView, .long moftenOnes, .ref (n 20), .ref (n 21), .ref (n 22), .ref (n 23)])), ((n 1), .inl (k 0, 99, .inl fworld)), ((n 7), .inl (k 0, 12, .inl frowOf)), ((n 8), .inl (k 0, 12, .inl fplaceOf)), ((n 9), .inl (k 0, 4, .inl ffirstOf)), ((n 10), .inl (k 0, 12, .inl fhardNow)), ((n 11), .inl (k 0, 14, .inl fmoreHead)), ((n 12), .inl (k 0, 14, .inl fmoreView)), ((n 13), .inl (k 0, 17, .inl fonesAt)), ((n 14), .inl (k 0, 17, .inl ftwosAt)), ((n 15), .inl (k 0, 17, .inl fgoneAt))] 0 0 (Ui D (fun (r : Int32) (u : (Nat → Int32) × (Nat → Nat) × (Nat → Nat → Int32) × (Nat → Nat → Int64) × (Nat → Int64)) => (u.2.1 0 ≤ 14)) (fun u : (Nat → Int32) × (Nat → Nat) × (Nat → Nat → Int32) × (Nat → Nat → Int64) × (Nat → Int64) => [((n 0), .inr (11, [.int mthrown, .ref (n 1), .ref (n 2), .ref (n 3), .ref (n 4), .int (nI mtaped), .ref (n 5), .int (nI msize), .int (nI mat), .int (nI mfrom), .int mtoken, .int mvalue, .int mfaultKind, .int mfaultPlace, .ref (n 6), .ref (n 7), .ref (n 8), .ref (n 9), .ref (n 10), .ref (n 11), .ref (n 12), .int (nI (u.2.1 0)), .int (u.1 0), .int (u.1 1), .int (u.1 2), .ref (n 13), .ref (n 14), .ref (n 15), .int (u.1 3), .int (u.1 4), .int (u.1 5), .ref (n 16), .ref (n 17), .int mroundNow, .ref (n 18), .long msampleFor, .long msampleAll, .ref (n 19), .int maskWorst, .long moftenAll, .long moftenView, .long moftenOnes, .ref (n 20), .ref (n 21), .ref (n 22), .ref (n 23)])), ((n 1), .inl (k 0, 99, .inl fworld)), ((n 7), .inl (k 0, 12, .inl (u.2.2.1 4))), ((n 8), .inl (k 0, 12, .inl (u.2.2.1 5))), ((n 9), .inl (k 0, 4, .inl (u.2.2.1 6))), ((n 10), .inl (k 0, 12, .inl (u.2.2.1 0))), ((n 11), .inl (k 0, 14, .inl fmoreHead)), ((n 12), .inl (k 0, 14, .inl fmoreView)), ((n 13), .inl (k 0, 17, .inl (u.2.2.1 1))), ((n 14), .inl (k 0, 17, .inl (u.2.2.1 2))), ((n 15), .inl (k 0, 17, .inl (u.2.2.1 3)))])) := by
  refine MU.of (by decide) (Nat.le_of_ble_eq_true rfl) ?_
  intro p e s m below meth c ls A args Q S hr hlk hnm hQ hK hP hD hZ hA hS hl
  have hx := S.1
  have hb := S.2.1
  have hl : lv_has ls 2 [(0, .ref (n 0))] := hl
  have hbfworld := okW_bd hkworld
  refine lv_aload_n hx hb dX11_still_0 rfl (lv_at hl 0 rfl) ?_
  refine x_muVi (wr := []) (As := []) S hK hP hD hZ hS hA hl mwX11_asksGarden lkX11_315 (ctX11_asksGarden l D k z n mthrown mtaped msize mat mfrom mtoken mvalue mfaultKind mfaultPlace mmoreMany mlawNow mwetSet moverAll mones mtwos mgone mroundNow msampleFor msampleAll maskWorst moftenAll moftenView moftenOnes fworld frowOf fplaceOf ffirstOf fhardNow fmoreHead fmoreView fonesAt ftwosAt fgoneAt (by omega) (by omega) (by omega) (by omega) (by omega) (hkworld)) [0, 1, 2, 3, 4, 5, 6, 7, 8, 9, 10] [] rfl rfl (by decide) (by decide) (by decide) rfl rfl rfl rfl rfl ⟨Nat.le_of_ble_eq_true rfl, Nat.le_of_ble_eq_true rfl, Nat.le_of_ble_eq_true rfl⟩ dX11_still_1 ⟨Nat.le_of_ble_eq_true rfl, Nat.le_of_ble_eq_true rfl⟩ (fun r_1 u_2 H locs hr_1 hP hD hS => ?_)
  have hP : va_P D vwCl [((n 0), .inr (11, [.int mthrown, .ref (n 1), .ref (n 2), .ref (n 3), .ref (n 4), .int (nI mtaped), .ref (n 5), .int (nI msize), .int (nI mat), .int (nI mfrom), .int mtoken, .int mvalue, .int mfaultKind, .int mfaultPlace, .ref (n 6), .ref (n 7), .ref (n 8), .ref (n 9), .ref (n 10), .ref (n 11), .ref (n 12), .int (nI (u_2.2.1 0)), .int (u_2.1 0), .int (u_2.1 1), .int (u_2.1 2), .ref (n 13), .ref (n 14), .ref (n 15), .int (u_2.1 3), .int (u_2.1 4), .int (u_2.1 5), .ref (n 16), .ref (n 17), .int mroundNow, .ref (n 18), .long msampleFor, .long msampleAll, .ref (n 19), .int maskWorst, .long moftenAll, .long moftenView, .long moftenOnes, .ref (n 20), .ref (n 21), .ref (n 22), .ref (n 23)])), ((n 1), .inl (k 0, 99, .inl fworld)), ((n 7), .inl (k 0, 12, .inl (u_2.2.2.1 4))), ((n 8), .inl (k 0, 12, .inl (u_2.2.2.1 5))), ((n 9), .inl (k 0, 4, .inl (u_2.2.2.1 6))), ((n 10), .inl (k 0, 12, .inl (u_2.2.2.1 0))), ((n 11), .inl (k 0, 14, .inl fmoreHead)), ((n 12), .inl (k 0, 14, .inl fmoreView)), ((n 13), .inl (k 0, 17, .inl (u_2.2.2.1 1))), ((n 14), .inl (k 0, 17, .inl (u_2.2.2.1 2))), ((n 15), .inl (k 0, 17, .inl (u_2.2.2.1 3)))] H := hP.sub [0, 1, 2, 3, 4, 5, 6, 7, 8, 9, 10] rfl
  have hD : va_D A [((n 0), .inr (11, [.int mthrown, .ref (n 1), .ref (n 2), .ref (n 3), .ref (n 4), .int (nI mtaped), .ref (n 5), .int (nI msize), .int (nI mat), .int (nI mfrom), .int mtoken, .int mvalue, .int mfaultKind, .int mfaultPlace, .ref (n 6), .ref (n 7), .ref (n 8), .ref (n 9), .ref (n 10), .ref (n 11), .ref (n 12), .int (nI (u_2.2.1 0)), .int (u_2.1 0), .int (u_2.1 1), .int (u_2.1 2), .ref (n 13), .ref (n 14), .ref (n 15), .int (u_2.1 3), .int (u_2.1 4), .int (u_2.1 5), .ref (n 16), .ref (n 17), .int mroundNow, .ref (n 18), .long msampleFor, .long msampleAll, .ref (n 19), .int maskWorst, .long moftenAll, .long moftenView, .long moftenOnes, .ref (n 20), .ref (n 21), .ref (n 22), .ref (n 23)])), ((n 1), .inl (k 0, 99, .inl fworld)), ((n 7), .inl (k 0, 12, .inl (u_2.2.2.1 4))), ((n 8), .inl (k 0, 12, .inl (u_2.2.2.1 5))), ((n 9), .inl (k 0, 4, .inl (u_2.2.2.1 6))), ((n 10), .inl (k 0, 12, .inl (u_2.2.2.1 0))), ((n 11), .inl (k 0, 14, .inl fmoreHead)), ((n 12), .inl (k 0, 14, .inl fmoreView)), ((n 13), .inl (k 0, 17, .inl (u_2.2.2.1 1))), ((n 14), .inl (k 0, 17, .inl (u_2.2.2.1 2))), ((n 15), .inl (k 0, 17, .inl (u_2.2.2.1 3)))] := hD.sub [0, 1, 2, 3, 4, 5, 6, 7, 8, 9, 10] (by decide) rfl
  obtain ⟨hz_3, hg_4⟩ := hr_1
  refine lv_if_ne (tgt := 10) hx hb dX11_still_4 (by decide) (fun c_5 => ?_) (fun c_5 => ?_)
  · skip
    refine lv_aload_n hx hb dX11_still_10 rfl (lv_at hl 0 rfl) ?_
    refine x_roVi (As := []) S hK hP hD hZ (fun _ h => h) hA hS hA hl mwX11_hours lkX11_103 (ctX11_hours l D k z n mthrown mtaped msize mat mfrom mtoken mvalue mfaultKind mfaultPlace (u_2.2.1 0) (u_2.1 0) (u_2.1 1) (u_2.1 2) (u_2.1 3) (u_2.1 4) (u_2.1 5) mroundNow msampleFor msampleAll maskWorst moftenAll moftenView moftenOnes fworld (by omega) (by omega) (by omega) (by omega) (by omega) (hkworld)) [0, 1] rfl (by decide) rfl rfl rfl rfl rfl ⟨Nat.le_of_ble_eq_true rfl, Nat.le_of_ble_eq_true rfl, Nat.le_of_ble_eq_true rfl⟩ dX11_still_11 ⟨Nat.le_of_ble_eq_true rfl, Nat.le_of_ble_eq_true rfl⟩ (fun r_6 H locs hr_6 hP hS => ?_)
    obtain rfl := hr_6
    refine lv_istore_n (lv' := [(1, .int (nI (wn fworld 0))), (0, .ref (n 0))]) hx hb dX11_still_14 rfl hl (by decide) rfl (fun ls hl => ?_)
    have lp_14 : ∀ (nn j_13 : Nat)  (H : Heap) (locs : List Loc) (ls : Array Slot), j_13 ≤ 16 → j_13 < nn → va_P D vwCl [((n 0), .inr (11, [.int mthrown, .ref (n 1), .ref (n 2), .ref (n 3), .ref (n 4), .int (nI mtaped), .ref (n 5), .int (nI msize), .int (nI mat), .int (nI mfrom), .int mtoken, .int mvalue, .int mfaultKind, .int mfaultPlace, .ref (n 6), .ref (n 7), .ref (n 8), .ref (n 9), .ref (n 10), .ref (n 11), .ref (n 12), .int (nI (u_2.2.1 0)), .int (u_2.1 0), .int (u_2.1 1), .int (u_2.1 2), .ref (n 13), .ref (n 14), .ref (n 15), .int (u_2.1 3), .int (u_2.1 4), .int (u_2.1 5), .ref (n 16), .ref (n 17), .int mroundNow, .ref (n 18), .long msampleFor, .long msampleAll, .ref (n 19), .int maskWorst, .long moftenAll, .long moftenView, .long moftenOnes, .ref (n 20), .ref (n 21), .ref (n 22), .ref (n 23)])), ((n 1), .inl (k 0, 99, .inl fworld)), ((n 7), .inl (k 0, 12, .inl (u_2.2.2.1 4))), ((n 8), .inl (k 0, 12, .inl (u_2.2.2.1 5))), ((n 9), .inl (k 0, 4, .inl (u_2.2.2.1 6))), ((n 10), .inl (k 0, 12, .inl (u_2.2.2.1 0))), ((n 11), .inl (k 0, 14, .inl fmoreHead)), ((n 12), .inl (k 0, 14, .inl fmoreView)), ((n 13), .inl (k 0, 17, .inl (u_2.2.2.1 1))), ((n 14), .inl (k 0, 17, .inl (u_2.2.2.1 2))), ((n 15), .inl (k 0, 17, .inl (u_2.2.2.1 3)))] H → va_D A [((n 0), .inr (11, [.int mthrown, .ref (n 1), .ref (n 2), .ref (n 3), .ref (n 4), .int (nI mtaped), .ref (n 5), .int (nI msize), .int (nI mat), .int (nI mfrom), .int mtoken, .int mvalue, .int mfaultKind, .int mfaultPlace, .ref (n 6), .ref (n 7), .ref (n 8), .ref (n 9), .ref (n 10), .ref (n 11), .ref (n 12), .int (nI (u_2.2.1 0)), .int (u_2.1 0), .int (u_2.1 1), .int (u_2.1 2), .ref (n 13), .ref (n 14), .ref (n 15), .int (u_2.1 3), .int (u_2.1 4), .int (u_2.1 5), .ref (n 16), .ref (n 17), .int mroundNow, .ref (n 18), .long msampleFor, .long msampleAll, .ref (n 19), .int maskWorst, .long moftenAll, .long moftenView, .long moftenOnes, .ref (n 20), .ref (n 21), .ref (n 22), .ref (n 23)])), ((n 1), .inl (k 0, 99, .inl fworld)), ((n 7), .inl (k 0, 12, .inl (u_2.2.2.1 4))), ((n 8), .inl (k 0, 12, .inl (u_2.2.2.1 5))), ((n 9), .inl (k 0, 4, .inl (u_2.2.2.1 6))), ((n 10), .inl (k 0, 12, .inl (u_2.2.2.1 0))), ((n 11), .inl (k 0, 14, .inl fmoreHead)), ((n 12), .inl (k 0, 14, .inl fmoreView)), ((n 13), .inl (k 0, 17, .inl (u_2.2.2.1 1))), ((n 14), .inl (k 0, 17, .inl (u_2.2.2.1 2))), ((n 15), .inl (k 0, 17, .inl (u_2.2.2.1 3)))] → va_S A s.heap H locs → lv_has ls 2 [(1, .int (nI j_13)), (0, .ref (n 0))] → W p l e (Rm 8 0 0) s m args below meth c H locs 0 0 Q (F0 m 15 ls []) := by
      intro nn
      induction nn with
      | zero => intro j_13  H locs ls hjj_13 hnj_13; exact absurd hnj_13 (by omega)
      | succ nn ihj_13 =>
        intro j_13  H locs ls hjj_13 hnj_13 hP hD hS hl
        refine lv_iload_n hx hb dX11_still_15 rfl (lv_at hl 0 rfl) ?_
        refine lv_if_le (tgt := 33) hx hb dX11_still_16 (by decide) (fun c_15 => ?_) (fun c_15 => ?_)
        · skip
          have c_15 : j_13 ≤ 0 := (ni_le rfl (by decide) (by omega) (by omega)).mp c_15
          refine lv_iload_n hx hb dX11_still_33 rfl (lv_at hl 0 rfl) ?_
          exact x_reti S hr hlk hQ hS ((fun i => ([(u_2.1 0), (u_2.1 1), (u_2.1 2), (u_2.1 3), (u_2.1 4), (u_2.1 5)] : List (Int32)).getD i 0), (fun i => ([u_2.2.1 0] : List (Nat)).getD i 0), (fun i => ([(u_2.2.2.1 0), (u_2.2.2.1 1), (u_2.2.2.1 2), (u_2.2.2.1 3), (u_2.2.2.1 4), (u_2.2.2.1 5), (u_2.2.2.1 6)] : List (Nat → Int32)).getD i (fun _ => 0)), (fun i => ([] : List (Nat → Int64)).getD i (fun _ => 0)), (fun i => ([] : List (Int64)).getD i 0)) (show u_2.2.1 0 ≤ 14 by omega) (x_B hP hD) dX11_still_34
        · skip
          have c_15 : ¬ j_13 ≤ 0 := fun q => c_15 ((ni_le rfl (by decide) (by omega) (by omega)).mpr q)
          refine lv_aload_n hx hb dX11_still_19 rfl (lv_at hl 1 rfl) ?_
          refine lv_iload_n hx hb dX11_still_20 rfl (lv_at hl 0 rfl) ?_
          refine x_roVi (As := [.int (nI j_13)]) S hK hP hD hZ (fun _ h => h) hA hS hA hl mwX11_turnedOf lkX11_339 (ctX11_turnedOf l D k z n mthrown mtaped msize mat mfrom mtoken mvalue mfaultKind mfaultPlace (u_2.2.1 0) (u_2.1 0) (u_2.1 1) (u_2.1 2) (u_2.1 3) (u_2.1 4) (u_2.1 5) mroundNow msampleFor msampleAll maskWorst moftenAll moftenView moftenOnes (u_2.2.2.1 1) (u_2.2.2.1 2) j_13 (by omega) (by omega) (by omega) (by omega) (by omega) (by omega)) [0, 8, 9] rfl (by decide) rfl rfl rfl rfl rfl ⟨Nat.le_of_ble_eq_true rfl, Nat.le_of_ble_eq_true rfl, Nat.le_of_ble_eq_true rfl⟩ dX11_still_21 ⟨Nat.le_of_ble_eq_true rfl, Nat.le_of_ble_eq_true rfl⟩ (fun r_16 H locs hr_16 hP hS => ?_)
          refine lv_if_ne (tgt := 33) hx hb dX11_still_24 (by decide) (fun c_18 => ?_) (fun c_18 => ?_)
          · skip
            refine lv_iload_n hx hb dX11_still_33 rfl (lv_at hl 0 rfl) ?_
            exact x_reti S hr hlk hQ hS ((fun i => ([(u_2.1 0), (u_2.1 1), (u_2.1 2), (u_2.1 3), (u_2.1 4), (u_2.1 5)] : List (Int32)).getD i 0), (fun i => ([u_2.2.1 0] : List (Nat)).getD i 0), (fun i => ([(u_2.2.2.1 0), (u_2.2.2.1 1), (u_2.2.2.1 2), (u_2.2.2.1 3), (u_2.2.2.1 4), (u_2.2.2.1 5), (u_2.2.2.1 6)] : List (Nat → Int32)).getD i (fun _ => 0)), (fun i => ([] : List (Nat → Int64)).getD i (fun _ => 0)), (fun i => ([] : List (Int64)).getD i 0)) (show u_2.2.1 0 ≤ 14 by omega) (x_B hP hD) dX11_still_34
          · skip
            refine lv_iinc (v := (nI (j_13 - 1))) (lv' := [(1, .int (nI (j_13 - 1))), (0, .ref (n 0))]) hx hb dX11_still_27 hl (k := 0) rfl (ni_dec (by omega)) (by decide) rfl (fun ls hl => ?_)
            refine lv_goto (tgt := 15) hx hb dX11_still_30 (by decide) ?_
            exact ihj_13 (j_13 - 1)  _ _ _ (by omega) (by omega) hP hD hS (lv_sub hl [0, 1] rfl)
    exact lp_14 (wn fworld 0 + 1) (wn fworld 0)  _ _ _ (by omega) (by omega) hP hD hS (lv_sub hl [0, 1] rfl)
  · skip
    refine lv_bipush (v := (-2)) hx hb dX11_still_7 (by decide) ?_
    exact x_reti S hr hlk hQ hS ((fun i => ([(u_2.1 0), (u_2.1 1), (u_2.1 2), (u_2.1 3), (u_2.1 4), (u_2.1 5)] : List (Int32)).getD i 0), (fun i => ([u_2.2.1 0] : List (Nat)).getD i 0), (fun i => ([(u_2.2.2.1 0), (u_2.2.2.1 1), (u_2.2.2.1 2), (u_2.2.2.1 3), (u_2.2.2.1 4), (u_2.2.2.1 5), (u_2.2.2.1 6)] : List (Nat → Int32)).getD i (fun _ => 0)), (fun i => ([] : List (Nat → Int64)).getD i (fun _ => 0)), (fun i => ([] : List (Int64)).getD i 0)) (show u_2.2.1 0 ≤ 14 by omega) (x_B hP hD) dX11_still_9

set_option maxHeartbeats 4000000 in
set_option maxRecDepth 100000 in
theorem ctX11_quiet (l : Launch) (D : va_G) (k : Nat → ClassId) (z : Nat → Nat) (n : Nat → Nat) (mthrown : Int32) (mtaped : Nat) (msize : Nat) (mat : Nat) (mfrom : Nat) (mtoken : Int32) (mvalue : Int32) (mfaultKind : Int32) (mfaultPlace : Int32) (mmoreMany : Nat) (mlawNow : Int32) (mwetSet : Int32) (moverAll : Int32) (mones : Int32) (mtwos : Int32) (mgone : Int32) (mroundNow : Int32) (msampleFor : Int64) (msampleAll : Int64) (maskWorst : Int32) (moftenAll : Int64) (moftenView : Int64) (moftenOnes : Int64) (fworld : Nat → Int32) (frowOf : Nat → Int32) (fplaceOf : Nat → Int32) (ffirstOf : Nat → Int32) (fhardNow : Nat → Int32) (fmoreHead : Nat → Int32) (fmoreView : Nat → Int32) (fonesAt : Nat → Int32) (ftwosAt : Nat → Int32) (fgoneAt : Nat → Int32) (hmtaped : mtaped ≤ 600) (hmsize : msize ≤ 600) (hmat : mat ≤ 600) (hmfrom : mfrom ≤ 600) (hmmoreMany : mmoreMany ≤ 14) (hkworld : okW fworld) : MU l yX11_quiet cX11_quiet 4 (some .int) 8 D k z [.ref (n 0)] [((n 0), .inr (11, [.int mthrown, .ref (n 1), .ref (n 2), .ref (n 3), .ref (n 4), .int (nI mtaped), .ref (n 5), .int (nI msize), .int (nI mat), .int (nI mfrom), .int mtoken, .int mvalue, .int mfaultKind, .int mfaultPlace, .ref (n 6), .ref (n 7), .ref (n 8), .ref (n 9), .ref (n 10), .ref (n 11), .ref (n 12), .int (nI mmoreMany), .int mlawNow, .int mwetSet, .int moverAll, .ref (n 13), .ref (n 14), .ref (n 15), .int mones, .int mtwos, .int mgone, .ref (n 16), .ref (n 17), .int mroundNow, .ref (n 18), .long msampleFor, .long msampleAll, .ref (n 19), .int maskWorst, .long moftenAll, .long moftenView, .long moftenOnes, .ref (n 20), .ref (n 21), .ref (n 22), .ref (n 23)])), ((n 1), .inl (k 0, 99, .inl fworld)), ((n 7), .inl (k 0, 12, .inl frowOf)), ((n 8), .inl (k 0, 12, .inl fplaceOf)), ((n 9), .inl (k 0, 4, .inl ffirstOf)), ((n 10), .inl (k 0, 12, .inl fhardNow)), ((n 11), .inl (k 0, 14, .inl fmoreHead)), ((n 12), .inl (k 0, 14, .inl fmoreView)), ((n 13), .inl (k 0, 17, .inl fonesAt)), ((n 14), .inl (k 0, 17, .inl ftwosAt)), ((n 15), .inl (k 0, 17, .inl fgoneAt))] 0 0 (Ui D (fun (r : Int32) (u : (Nat → Int32) × (Nat → Nat) × (Nat → Nat → Int32) × (Nat → Nat → Int64) × (Nat → Int64)) => (u.2.1 0 ≤ 14)) (fun u : (Nat → Int32) × (Nat → Nat) × (Nat → Nat → Int32) × (Nat → Nat → Int64) × (Nat → Int64) => [((n 0), .inr (11, [.int mthrown, .ref (n 1), .ref (n 2), .ref (n 3), .ref (n 4), .int (nI mtaped), .ref (n 5), .int (nI msize), .int (nI mat), .int (nI mfrom), .int mtoken, .int mvalue, .int mfaultKind, .int mfaultPlace, .ref (n 6), .ref (n 7), .ref (n 8), .ref (n 9), .ref (n 10), .ref (n 11), .ref (n 12), .int (nI (u.2.1 0)), .int (u.1 0), .int (u.1 1), .int (u.1 2), .ref (n 13), .ref (n 14), .ref (n 15), .int (u.1 3), .int (u.1 4), .int (u.1 5), .ref (n 16), .ref (n 17), .int mroundNow, .ref (n 18), .long msampleFor, .long msampleAll, .ref (n 19), .int maskWorst, .long moftenAll, .long moftenView, .long moftenOnes, .ref (n 20), .ref (n 21), .ref (n 22), .ref (n 23)])), ((n 1), .inl (k 0, 99, .inl fworld)), ((n 7), .inl (k 0, 12, .inl (u.2.2.1 4))), ((n 8), .inl (k 0, 12, .inl (u.2.2.1 5))), ((n 9), .inl (k 0, 4, .inl (u.2.2.1 6))), ((n 10), .inl (k 0, 12, .inl (u.2.2.1 0))), ((n 11), .inl (k 0, 14, .inl fmoreHead)), ((n 12), .inl (k 0, 14, .inl fmoreView)), ((n 13), .inl (k 0, 17, .inl (u.2.2.1 1))), ((n 14), .inl (k 0, 17, .inl (u.2.2.1 2))), ((n 15), .inl (k 0, 17, .inl (u.2.2.1 3)))])) := by
  refine MU.of (by decide) (Nat.le_of_ble_eq_true rfl) ?_
  intro p e s m below meth c ls A args Q S hr hlk hnm hQ hK hP hD hZ hA hS hl
  have hx := S.1
  have hb := S.2.1
  have hl : lv_has ls 4 [(0, .ref (n 0))] := hl
  have hbfworld := okW_bd hkworld
  refine lv_aload_n hx hb dX11_quiet_0 rfl (lv_at hl 0 rfl) ?_
  refine x_muVi (wr := []) (As := []) S hK hP hD hZ hS hA hl mwX11_asksGarden lkX11_315 (ctX11_asksGarden l D k z n mthrown mtaped msize mat mfrom mtoken mvalue mfaultKind mfaultPlace mmoreMany mlawNow mwetSet moverAll mones mtwos mgone mroundNow msampleFor msampleAll maskWorst moftenAll moftenView moftenOnes fworld frowOf fplaceOf ffirstOf fhardNow fmoreHead fmoreView fonesAt ftwosAt fgoneAt (by omega) (by omega) (by omega) (by omega) (by omega) (hkworld)) [0, 1, 2, 3, 4, 5, 6, 7, 8, 9, 10] [] rfl rfl (by decide) (by decide) (by decide) rfl rfl rfl rfl rfl ⟨Nat.le_of_ble_eq_true rfl, Nat.le_of_ble_eq_true rfl, Nat.le_of_ble_eq_true rfl⟩ dX11_quiet_1 ⟨Nat.le_of_ble_eq_true rfl, Nat.le_of_ble_eq_true rfl⟩ (fun r_1 u_2 H locs hr_1 hP hD hS => ?_)
  have hP : va_P D vwCl [((n 0), .inr (11, [.int mthrown, .ref (n 1), .ref (n 2), .ref (n 3), .ref (n 4), .int (nI mtaped), .ref (n 5), .int (nI msize), .int (nI mat), .int (nI mfrom), .int mtoken, .int mvalue, .int mfaultKind, .int mfaultPlace, .ref (n 6), .ref (n 7), .ref (n 8), .ref (n 9), .ref (n 10), .ref (n 11), .ref (n 12), .int (nI (u_2.2.1 0)), .int (u_2.1 0), .int (u_2.1 1), .int (u_2.1 2), .ref (n 13), .ref (n 14), .ref (n 15), .int (u_2.1 3), .int (u_2.1 4), .int (u_2.1 5), .ref (n 16), .ref (n 17), .int mroundNow, .ref (n 18), .long msampleFor, .long msampleAll, .ref (n 19), .int maskWorst, .long moftenAll, .long moftenView, .long moftenOnes, .ref (n 20), .ref (n 21), .ref (n 22), .ref (n 23)])), ((n 1), .inl (k 0, 99, .inl fworld)), ((n 7), .inl (k 0, 12, .inl (u_2.2.2.1 4))), ((n 8), .inl (k 0, 12, .inl (u_2.2.2.1 5))), ((n 9), .inl (k 0, 4, .inl (u_2.2.2.1 6))), ((n 10), .inl (k 0, 12, .inl (u_2.2.2.1 0))), ((n 11), .inl (k 0, 14, .inl fmoreHead)), ((n 12), .inl (k 0, 14, .inl fmoreView)), ((n 13), .inl (k 0, 17, .inl (u_2.2.2.1 1))), ((n 14), .inl (k 0, 17, .inl (u_2.2.2.1 2))), ((n 15), .inl (k 0, 17, .inl (u_2.2.2.1 3)))] H := hP.sub [0, 1, 2, 3, 4, 5, 6, 7, 8, 9, 10] rfl
  have hD : va_D A [((n 0), .inr (11, [.int mthrown, .ref (n 1), .ref (n 2), .ref (n 3), .ref (n 4), .int (nI mtaped), .ref (n 5), .int (nI msize), .int (nI mat), .int (nI mfrom), .int mtoken, .int mvalue, .int mfaultKind, .int mfaultPlace, .ref (n 6), .ref (n 7), .ref (n 8), .ref (n 9), .ref (n 10), .ref (n 11), .ref (n 12), .int (nI (u_2.2.1 0)), .int (u_2.1 0), .int (u_2.1 1), .int (u_2.1 2), .ref (n 13), .ref (n 14), .ref (n 15), .int (u_2.1 3), .int (u_2.1 4), .int (u_2.1 5), .ref (n 16), .ref (n 17), .int mroundNow, .ref (n 18), .long msampleFor, .long msampleAll, .ref (n 19), .int maskWorst, .long moftenAll, .long moftenView, .long moftenOnes, .ref (n 20), .ref (n 21), .ref (n 22), .ref (n 23)])), ((n 1), .inl (k 0, 99, .inl fworld)), ((n 7), .inl (k 0, 12, .inl (u_2.2.2.1 4))), ((n 8), .inl (k 0, 12, .inl (u_2.2.2.1 5))), ((n 9), .inl (k 0, 4, .inl (u_2.2.2.1 6))), ((n 10), .inl (k 0, 12, .inl (u_2.2.2.1 0))), ((n 11), .inl (k 0, 14, .inl fmoreHead)), ((n 12), .inl (k 0, 14, .inl fmoreView)), ((n 13), .inl (k 0, 17, .inl (u_2.2.2.1 1))), ((n 14), .inl (k 0, 17, .inl (u_2.2.2.1 2))), ((n 15), .inl (k 0, 17, .inl (u_2.2.2.1 3)))] := hD.sub [0, 1, 2, 3, 4, 5, 6, 7, 8, 9, 10] (by decide) rfl
  obtain ⟨hz_3, hg_4⟩ := hr_1
  refine lv_if_ne (tgt := 10) hx hb dX11_quiet_4 (by decide) (fun c_5 => ?_) (fun c_5 => ?_)
  · skip
    refine lv_iconst (v := 0) hx hb dX11_quiet_10 (by decide) ?_
    refine lv_istore_n (lv' := [(1, .int 0), (0, .ref (n 0))]) hx hb dX11_quiet_11 rfl hl (by decide) rfl (fun ls hl => ?_)
    refine lv_iconst (v := 0) hx hb dX11_quiet_12 (by decide) ?_
    refine lv_istore_n (lv' := [(2, .int 0), (1, .int 0), (0, .ref (n 0))]) hx hb dX11_quiet_13 rfl hl (by decide) rfl (fun ls hl => ?_)
    refine lv_iconst (v := 1) hx hb dX11_quiet_14 (by decide) ?_
    refine lv_istore_n (lv' := [(3, .int 1), (2, .int 0), (1, .int 0), (0, .ref (n 0))]) hx hb dX11_quiet_15 rfl hl (by decide) rfl (fun ls hl => ?_)
    have lp_35 : ∀ (nn j_32 : Nat) (x_33 : Int32) (x_34 : Int32) (H : Heap) (locs : List Loc) (ls : Array Slot), j_32 ≤ wn fworld 0 + 1 → wn fworld 0 + 1 - j_32 < nn → va_P D vwCl [((n 0), .inr (11, [.int mthrown, .ref (n 1), .ref (n 2), .ref (n 3), .ref (n 4), .int (nI mtaped), .ref (n 5), .int (nI msize), .int (nI mat), .int (nI mfrom), .int mtoken, .int mvalue, .int mfaultKind, .int mfaultPlace, .ref (n 6), .ref (n 7), .ref (n 8), .ref (n 9), .ref (n 10), .ref (n 11), .ref (n 12), .int (nI (u_2.2.1 0)), .int (u_2.1 0), .int (u_2.1 1), .int (u_2.1 2), .ref (n 13), .ref (n 14), .ref (n 15), .int (u_2.1 3), .int (u_2.1 4), .int (u_2.1 5), .ref (n 16), .ref (n 17), .int mroundNow, .ref (n 18), .long msampleFor, .long msampleAll, .ref (n 19), .int maskWorst, .long moftenAll, .long moftenView, .long moftenOnes, .ref (n 20), .ref (n 21), .ref (n 22), .ref (n 23)])), ((n 1), .inl (k 0, 99, .inl fworld)), ((n 7), .inl (k 0, 12, .inl (u_2.2.2.1 4))), ((n 8), .inl (k 0, 12, .inl (u_2.2.2.1 5))), ((n 9), .inl (k 0, 4, .inl (u_2.2.2.1 6))), ((n 10), .inl (k 0, 12, .inl (u_2.2.2.1 0))), ((n 11), .inl (k 0, 14, .inl fmoreHead)), ((n 12), .inl (k 0, 14, .inl fmoreView)), ((n 13), .inl (k 0, 17, .inl (u_2.2.2.1 1))), ((n 14), .inl (k 0, 17, .inl (u_2.2.2.1 2))), ((n 15), .inl (k 0, 17, .inl (u_2.2.2.1 3)))] H → va_D A [((n 0), .inr (11, [.int mthrown, .ref (n 1), .ref (n 2), .ref (n 3), .ref (n 4), .int (nI mtaped), .ref (n 5), .int (nI msize), .int (nI mat), .int (nI mfrom), .int mtoken, .int mvalue, .int mfaultKind, .int mfaultPlace, .ref (n 6), .ref (n 7), .ref (n 8), .ref (n 9), .ref (n 10), .ref (n 11), .ref (n 12), .int (nI (u_2.2.1 0)), .int (u_2.1 0), .int (u_2.1 1), .int (u_2.1 2), .ref (n 13), .ref (n 14), .ref (n 15), .int (u_2.1 3), .int (u_2.1 4), .int (u_2.1 5), .ref (n 16), .ref (n 17), .int mroundNow, .ref (n 18), .long msampleFor, .long msampleAll, .ref (n 19), .int maskWorst, .long moftenAll, .long moftenView, .long moftenOnes, .ref (n 20), .ref (n 21), .ref (n 22), .ref (n 23)])), ((n 1), .inl (k 0, 99, .inl fworld)), ((n 7), .inl (k 0, 12, .inl (u_2.2.2.1 4))), ((n 8), .inl (k 0, 12, .inl (u_2.2.2.1 5))), ((n 9), .inl (k 0, 4, .inl (u_2.2.2.1 6))), ((n 10), .inl (k 0, 12, .inl (u_2.2.2.1 0))), ((n 11), .inl (k 0, 14, .inl fmoreHead)), ((n 12), .inl (k 0, 14, .inl fmoreView)), ((n 13), .inl (k 0, 17, .inl (u_2.2.2.1 1))), ((n 14), .inl (k 0, 17, .inl (u_2.2.2.1 2))), ((n 15), .inl (k 0, 17, .inl (u_2.2.2.1 3)))] → va_S A s.heap H locs → lv_has ls 4 [(3, .int (nI j_32)), (2, .int x_34), (1, .int x_33), (0, .ref (n 0))] → W p l e (Rm 8 0 0) s m args below meth c H locs 0 0 Q (F0 m 16 ls []) := by
      intro nn
      induction nn with
      | zero => intro j_32 x_33 x_34 H locs ls hjj_32 hnj_32; exact absurd hnj_32 (by omega)
      | succ nn ihj_32 =>
        intro j_32 x_33 x_34 H locs ls hjj_32 hnj_32 hP hD hS hl
        refine lv_iload_n hx hb dX11_quiet_16 rfl (lv_at hl 0 rfl) ?_
        refine lv_aload_n hx hb dX11_quiet_17 rfl (lv_at hl 3 rfl) ?_
        refine x_roVi (As := []) S hK hP hD hZ (fun _ h => h) hA hS hA hl mwX11_hours lkX11_103 (ctX11_hours l D k z n mthrown mtaped msize mat mfrom mtoken mvalue mfaultKind mfaultPlace (u_2.2.1 0) (u_2.1 0) (u_2.1 1) (u_2.1 2) (u_2.1 3) (u_2.1 4) (u_2.1 5) mroundNow msampleFor msampleAll maskWorst moftenAll moftenView moftenOnes fworld (by omega) (by omega) (by omega) (by omega) (by omega) (hkworld)) [0, 1] rfl (by decide) rfl rfl rfl rfl rfl ⟨Nat.le_of_ble_eq_true rfl, Nat.le_of_ble_eq_true rfl, Nat.le_of_ble_eq_true rfl⟩ dX11_quiet_18 ⟨Nat.le_of_ble_eq_true rfl, Nat.le_of_ble_eq_true rfl⟩ (fun r_36 H locs hr_36 hP hS => ?_)
        obtain rfl := hr_36
        refine lv_icmp_gt (tgt := 52) hx hb dX11_quiet_21 (by decide) (fun c_38 => ?_) (fun c_38 => ?_)
        · skip
          have c_38 : wn fworld 0 < j_32 := (ni_lt rfl rfl (by omega) (by omega)).mp c_38
          refine lv_iload_n hx hb dX11_quiet_52 rfl (lv_at hl 2 rfl) ?_
          exact x_reti S hr hlk hQ hS ((fun i => ([(u_2.1 0), (u_2.1 1), (u_2.1 2), (u_2.1 3), (u_2.1 4), (u_2.1 5)] : List (Int32)).getD i 0), (fun i => ([u_2.2.1 0] : List (Nat)).getD i 0), (fun i => ([(u_2.2.2.1 0), (u_2.2.2.1 1), (u_2.2.2.1 2), (u_2.2.2.1 3), (u_2.2.2.1 4), (u_2.2.2.1 5), (u_2.2.2.1 6)] : List (Nat → Int32)).getD i (fun _ => 0)), (fun i => ([] : List (Nat → Int64)).getD i (fun _ => 0)), (fun i => ([] : List (Int64)).getD i 0)) (show u_2.2.1 0 ≤ 14 by omega) (x_B hP hD) dX11_quiet_53
        · skip
          have c_38 : ¬ wn fworld 0 < j_32 := fun q => c_38 ((ni_lt rfl rfl (by omega) (by omega)).mpr q)
          refine lv_aload_n hx hb dX11_quiet_24 rfl (lv_at hl 3 rfl) ?_
          refine lv_iload_n hx hb dX11_quiet_25 rfl (lv_at hl 0 rfl) ?_
          refine x_roVi (As := [.int (nI j_32)]) S hK hP hD hZ (fun _ h => h) hA hS hA hl mwX11_turnedOf lkX11_339 (ctX11_turnedOf l D k z n mthrown mtaped msize mat mfrom mtoken mvalue mfaultKind mfaultPlace (u_2.2.1 0) (u_2.1 0) (u_2.1 1) (u_2.1 2) (u_2.1 3) (u_2.1 4) (u_2.1 5) mroundNow msampleFor msampleAll maskWorst moftenAll moftenView moftenOnes (u_2.2.2.1 1) (u_2.2.2.1 2) j_32 (by omega) (by omega) (by omega) (by omega) (by omega) (by omega)) [0, 8, 9] rfl (by decide) rfl rfl rfl rfl rfl ⟨Nat.le_of_ble_eq_true rfl, Nat.le_of_ble_eq_true rfl, Nat.le_of_ble_eq_true rfl⟩ dX11_quiet_26 ⟨Nat.le_of_ble_eq_true rfl, Nat.le_of_ble_eq_true rfl⟩ (fun r_39 H locs hr_39 hP hS => ?_)
          refine lv_if_ne (tgt := 38) hx hb dX11_quiet_29 (by decide) (fun c_41 => ?_) (fun c_41 => ?_)
          · skip
            refine lv_iconst (v := 0) hx hb dX11_quiet_38 (by decide) ?_
            refine lv_istore_n (lv' := [(2, .int 0), (3, .int (nI j_32)), (1, .int x_33), (0, .ref (n 0))]) hx hb dX11_quiet_39 rfl hl (by decide) rfl (fun ls hl => ?_)
            refine lv_iload_n hx hb dX11_quiet_40 rfl (lv_at hl 2 rfl) ?_
            refine lv_iload_n hx hb dX11_quiet_41 rfl (lv_at hl 0 rfl) ?_
            refine x_mmax S hl lkX11_355 (Nat.le_of_ble_eq_true rfl) (Nat.le_of_ble_eq_true rfl) ⟨Nat.le_of_ble_eq_true rfl, Nat.le_of_ble_eq_true rfl⟩ dX11_quiet_42 (fun v_42 ev_42 => ?_)
            refine lv_istore_n (lv' := [(1, .int v_42), (2, .int 0), (3, .int (nI j_32)), (0, .ref (n 0))]) hx hb dX11_quiet_45 rfl hl (by decide) rfl (fun ls hl => ?_)
            refine lv_iinc (v := (nI (j_32 + 1))) (lv' := [(3, .int (nI (j_32 + 1))), (1, .int v_42), (2, .int 0), (0, .ref (n 0))]) hx hb dX11_quiet_46 hl (k := 2) rfl (ni_inc _) (by decide) rfl (fun ls hl => ?_)
            refine lv_goto (tgt := 16) hx hb dX11_quiet_49 (by decide) ?_
            exact ihj_32 (j_32 + 1) v_42 0 _ _ _ (by omega) (by omega) hP hD hS (lv_sub hl [0, 2, 1, 3] rfl)
          · skip
            refine lv_iload_n hx hb dX11_quiet_32 rfl (lv_at hl 1 rfl) ?_
            refine lv_iconst (v := 1) hx hb dX11_quiet_33 (by decide) ?_
            refine lv_iadd hx hb dX11_quiet_34 ?_
            refine lv_topi (fun v_43 ev_43 => ?_)
            refine lv_goto (tgt := 39) hx hb dX11_quiet_35 (by decide) ?_
            refine lv_istore_n (lv' := [(2, .int v_43), (3, .int (nI j_32)), (1, .int x_33), (0, .ref (n 0))]) hx hb dX11_quiet_39 rfl hl (by decide) rfl (fun ls hl => ?_)
            refine lv_iload_n hx hb dX11_quiet_40 rfl (lv_at hl 2 rfl) ?_
            refine lv_iload_n hx hb dX11_quiet_41 rfl (lv_at hl 0 rfl) ?_
            refine x_mmax S hl lkX11_355 (Nat.le_of_ble_eq_true rfl) (Nat.le_of_ble_eq_true rfl) ⟨Nat.le_of_ble_eq_true rfl, Nat.le_of_ble_eq_true rfl⟩ dX11_quiet_42 (fun v_44 ev_44 => ?_)
            refine lv_istore_n (lv' := [(1, .int v_44), (2, .int v_43), (3, .int (nI j_32)), (0, .ref (n 0))]) hx hb dX11_quiet_45 rfl hl (by decide) rfl (fun ls hl => ?_)
            refine lv_iinc (v := (nI (j_32 + 1))) (lv' := [(3, .int (nI (j_32 + 1))), (1, .int v_44), (2, .int v_43), (0, .ref (n 0))]) hx hb dX11_quiet_46 hl (k := 2) rfl (ni_inc _) (by decide) rfl (fun ls hl => ?_)
            refine lv_goto (tgt := 16) hx hb dX11_quiet_49 (by decide) ?_
            exact ihj_32 (j_32 + 1) v_44 v_43 _ _ _ (by omega) (by omega) hP hD hS (lv_sub hl [0, 2, 1, 3] rfl)
    exact lp_35 (wn fworld 0 + 1 + 1) 1 0 0 _ _ _ (by omega) (by omega) hP hD hS (lv_sub hl [0, 1, 2, 3] rfl)
  · skip
    refine lv_bipush (v := (-2)) hx hb dX11_quiet_7 (by decide) ?_
    exact x_reti S hr hlk hQ hS ((fun i => ([(u_2.1 0), (u_2.1 1), (u_2.1 2), (u_2.1 3), (u_2.1 4), (u_2.1 5)] : List (Int32)).getD i 0), (fun i => ([u_2.2.1 0] : List (Nat)).getD i 0), (fun i => ([(u_2.2.2.1 0), (u_2.2.2.1 1), (u_2.2.2.1 2), (u_2.2.2.1 3), (u_2.2.2.1 4), (u_2.2.2.1 5), (u_2.2.2.1 6)] : List (Nat → Int32)).getD i (fun _ => 0)), (fun i => ([] : List (Nat → Int64)).getD i (fun _ => 0)), (fun i => ([] : List (Int64)).getD i 0)) (show u_2.2.1 0 ≤ 14 by omega) (x_B hP hD) dX11_quiet_9

set_option maxHeartbeats 4000000 in
set_option maxRecDepth 100000 in
theorem ctX11_settlesOf (l : Launch) (D : va_G) (k : Nat → ClassId) (z : Nat → Nat) (n : Nat → Nat) (mthrown : Int32) (mtaped : Nat) (msize : Nat) (mat : Nat) (mfrom : Nat) (mtoken : Int32) (mvalue : Int32) (mfaultKind : Int32) (mfaultPlace : Int32) (mmoreMany : Nat) (mlawNow : Int32) (mwetSet : Int32) (moverAll : Int32) (mones : Int32) (mtwos : Int32) (mgone : Int32) (mroundNow : Int32) (msampleFor : Int64) (msampleAll : Int64) (maskWorst : Int32) (moftenAll : Int64) (moftenView : Int64) (moftenOnes : Int64) (fworld : Nat → Int32) (frowOf : Nat → Int32) (fplaceOf : Nat → Int32) (ffirstOf : Nat → Int32) (fhardNow : Nat → Int32) (fmoreHead : Nat → Int32) (fmoreView : Nat → Int32) (fonesAt : Nat → Int32) (ftwosAt : Nat → Int32) (fgoneAt : Nat → Int32) (fonesBy : Nat → Int32) (ftwosBy : Nat → Int32) (hmtaped : mtaped ≤ 600) (hmsize : msize ≤ 600) (hmat : mat ≤ 600) (hmfrom : mfrom ≤ 600) (hmmoreMany : mmoreMany ≤ 14) (hkworld : okW fworld) : MU l yX11_settlesOf cX11_settlesOf 3 (some .int) 6 D k z [.ref (n 0)] [((n 0), .inr (11, [.int mthrown, .ref (n 1), .ref (n 2), .ref (n 3), .ref (n 4), .int (nI mtaped), .ref (n 5), .int (nI msize), .int (nI mat), .int (nI mfrom), .int mtoken, .int mvalue, .int mfaultKind, .int mfaultPlace, .ref (n 6), .ref (n 7), .ref (n 8), .ref (n 9), .ref (n 10), .ref (n 11), .ref (n 12), .int (nI mmoreMany), .int mlawNow, .int mwetSet, .int moverAll, .ref (n 13), .ref (n 14), .ref (n 15), .int mones, .int mtwos, .int mgone, .ref (n 16), .ref (n 17), .int mroundNow, .ref (n 18), .long msampleFor, .long msampleAll, .ref (n 19), .int maskWorst, .long moftenAll, .long moftenView, .long moftenOnes, .ref (n 20), .ref (n 21), .ref (n 22), .ref (n 23)])), ((n 1), .inl (k 0, 99, .inl fworld)), ((n 7), .inl (k 0, 12, .inl frowOf)), ((n 8), .inl (k 0, 12, .inl fplaceOf)), ((n 9), .inl (k 0, 4, .inl ffirstOf)), ((n 10), .inl (k 0, 12, .inl fhardNow)), ((n 11), .inl (k 0, 14, .inl fmoreHead)), ((n 12), .inl (k 0, 14, .inl fmoreView)), ((n 13), .inl (k 0, 17, .inl fonesAt)), ((n 14), .inl (k 0, 17, .inl ftwosAt)), ((n 15), .inl (k 0, 17, .inl fgoneAt)), ((n 16), .inl (k 0, 4000, .inl fonesBy)), ((n 17), .inl (k 0, 4000, .inl ftwosBy))] 0 0 (Ui D (fun (r : Int32) (u : (Nat → Int32) × (Nat → Nat) × (Nat → Nat → Int32) × (Nat → Nat → Int64) × (Nat → Int64)) => True) (fun u : (Nat → Int32) × (Nat → Nat) × (Nat → Nat → Int32) × (Nat → Nat → Int64) × (Nat → Int64) => [((n 0), .inr (11, [.int mthrown, .ref (n 1), .ref (n 2), .ref (n 3), .ref (n 4), .int (nI mtaped), .ref (n 5), .int (nI msize), .int (nI mat), .int (nI mfrom), .int mtoken, .int mvalue, .int mfaultKind, .int mfaultPlace, .ref (n 6), .ref (n 7), .ref (n 8), .ref (n 9), .ref (n 10), .ref (n 11), .ref (n 12), .int (nI mmoreMany), .int mlawNow, .int mwetSet, .int (u.1 0), .ref (n 13), .ref (n 14), .ref (n 15), .int (u.1 1), .int (u.1 2), .int (u.1 3), .ref (n 16), .ref (n 17), .int (u.1 4), .ref (n 18), .long msampleFor, .long msampleAll, .ref (n 19), .int maskWorst, .long moftenAll, .long moftenView, .long moftenOnes, .ref (n 20), .ref (n 21), .ref (n 22), .ref (n 23)])), ((n 1), .inl (k 0, 99, .inl fworld)), ((n 7), .inl (k 0, 12, .inl frowOf)), ((n 8), .inl (k 0, 12, .inl fplaceOf)), ((n 9), .inl (k 0, 4, .inl ffirstOf)), ((n 10), .inl (k 0, 12, .inl fhardNow)), ((n 11), .inl (k 0, 14, .inl fmoreHead)), ((n 12), .inl (k 0, 14, .inl fmoreView)), ((n 13), .inl (k 0, 17, .inl fonesAt)), ((n 14), .inl (k 0, 17, .inl ftwosAt)), ((n 15), .inl (k 0, 17, .inl fgoneAt)), ((n 16), .inl (k 0, 4000, .inl (u.2.2.1 0))), ((n 17), .inl (k 0, 4000, .inl (u.2.2.1 1)))])) := by
  refine MU.of (by decide) (Nat.le_of_ble_eq_true rfl) ?_
  intro p e s m below meth c ls A args Q S hr hlk hnm hQ hK hP hD hZ hA hS hl
  have hx := S.1
  have hb := S.2.1
  have hl : lv_has ls 3 [(0, .ref (n 0))] := hl
  have hbfworld := okW_bd hkworld
  refine lv_aload_n hx hb dX11_settlesOf_0 rfl (lv_at hl 0 rfl) ?_
  refine lv_iconst (v := 1) hx hb dX11_settlesOf_1 (by decide) ?_
  refine x_put (ws' := [((n 0), .inr (11, [.int mthrown, .ref (n 1), .ref (n 2), .ref (n 3), .ref (n 4), .int (nI mtaped), .ref (n 5), .int (nI msize), .int (nI mat), .int (nI mfrom), .int mtoken, .int mvalue, .int mfaultKind, .int mfaultPlace, .ref (n 6), .ref (n 7), .ref (n 8), .ref (n 9), .ref (n 10), .ref (n 11), .ref (n 12), .int (nI mmoreMany), .int mlawNow, .int mwetSet, .int 1, .ref (n 13), .ref (n 14), .ref (n 15), .int mones, .int mtwos, .int mgone, .ref (n 16), .ref (n 17), .int mroundNow, .ref (n 18), .long msampleFor, .long msampleAll, .ref (n 19), .int maskWorst, .long moftenAll, .long moftenView, .long moftenOnes, .ref (n 20), .ref (n 21), .ref (n 22), .ref (n 23)])), ((n 1), .inl (k 0, 99, .inl fworld)), ((n 7), .inl (k 0, 12, .inl frowOf)), ((n 8), .inl (k 0, 12, .inl fplaceOf)), ((n 9), .inl (k 0, 4, .inl ffirstOf)), ((n 10), .inl (k 0, 12, .inl fhardNow)), ((n 11), .inl (k 0, 14, .inl fmoreHead)), ((n 12), .inl (k 0, 14, .inl fmoreView)), ((n 13), .inl (k 0, 17, .inl fonesAt)), ((n 14), .inl (k 0, 17, .inl ftwosAt)), ((n 15), .inl (k 0, 17, .inl fgoneAt)), ((n 16), .inl (k 0, 4000, .inl fonesBy)), ((n 17), .inl (k 0, 4000, .inl ftwosBy))]) S hK hP hD hS 0 rfl cfX11 24 lkX11_270 (by decide) rfl rfl rfl (Nat.le_of_ble_eq_true rfl) rfl dX11_settlesOf_2 (fun H locs hP hD hS => ?_)
  refine lv_aload_n hx hb dX11_settlesOf_5 rfl (lv_at hl 0 rfl) ?_
  refine lv_aload_n hx hb dX11_settlesOf_6 rfl (lv_at hl 0 rfl) ?_
  refine x_get S hK hP 0 rfl cfX11 25 lkX11_52 (by decide) rfl dX11_settlesOf_7 ?_
  refine lv_aload_n hx hb dX11_settlesOf_10 rfl (lv_at hl 0 rfl) ?_
  refine x_roVi (As := []) S hK hP hD hZ (fun _ h => h) hA hS hA hl mwX11_hours lkX11_103 (ctX11_hours l D k z n mthrown mtaped msize mat mfrom mtoken mvalue mfaultKind mfaultPlace mmoreMany mlawNow mwetSet 1 mones mtwos mgone mroundNow msampleFor msampleAll maskWorst moftenAll moftenView moftenOnes fworld (by omega) (by omega) (by omega) (by omega) (by omega) (hkworld)) [0, 1] rfl (by decide) rfl rfl rfl rfl rfl ⟨Nat.le_of_ble_eq_true rfl, Nat.le_of_ble_eq_true rfl, Nat.le_of_ble_eq_true rfl⟩ dX11_settlesOf_11 ⟨Nat.le_of_ble_eq_true rfl, Nat.le_of_ble_eq_true rfl⟩ (fun r_1 H locs hr_1 hP hS => ?_)
  obtain rfl := hr_1
  refine x_iald S hK hP 8 rfl (vp_in_nI (by omega) (by decide)) dX11_settlesOf_14 ?_
  refine lv_topi (fun v_3 ev_3 => ?_)
  refine x_put (ws' := [((n 0), .inr (11, [.int mthrown, .ref (n 1), .ref (n 2), .ref (n 3), .ref (n 4), .int (nI mtaped), .ref (n 5), .int (nI msize), .int (nI mat), .int (nI mfrom), .int mtoken, .int mvalue, .int mfaultKind, .int mfaultPlace, .ref (n 6), .ref (n 7), .ref (n 8), .ref (n 9), .ref (n 10), .ref (n 11), .ref (n 12), .int (nI mmoreMany), .int mlawNow, .int mwetSet, .int 1, .ref (n 13), .ref (n 14), .ref (n 15), .int v_3, .int mtwos, .int mgone, .ref (n 16), .ref (n 17), .int mroundNow, .ref (n 18), .long msampleFor, .long msampleAll, .ref (n 19), .int maskWorst, .long moftenAll, .long moftenView, .long moftenOnes, .ref (n 20), .ref (n 21), .ref (n 22), .ref (n 23)])), ((n 1), .inl (k 0, 99, .inl fworld)), ((n 7), .inl (k 0, 12, .inl frowOf)), ((n 8), .inl (k 0, 12, .inl fplaceOf)), ((n 9), .inl (k 0, 4, .inl ffirstOf)), ((n 10), .inl (k 0, 12, .inl fhardNow)), ((n 11), .inl (k 0, 14, .inl fmoreHead)), ((n 12), .inl (k 0, 14, .inl fmoreView)), ((n 13), .inl (k 0, 17, .inl fonesAt)), ((n 14), .inl (k 0, 17, .inl ftwosAt)), ((n 15), .inl (k 0, 17, .inl fgoneAt)), ((n 16), .inl (k 0, 4000, .inl fonesBy)), ((n 17), .inl (k 0, 4000, .inl ftwosBy))]) S hK hP hD hS 0 rfl cfX11 28 lkX11_284 (by decide) rfl rfl rfl (Nat.le_of_ble_eq_true rfl) rfl dX11_settlesOf_15 (fun H locs hP hD hS => ?_)
  refine lv_aload_n hx hb dX11_settlesOf_18 rfl (lv_at hl 0 rfl) ?_
  refine lv_aload_n hx hb dX11_settlesOf_19 rfl (lv_at hl 0 rfl) ?_
  refine x_get S hK hP 0 rfl cfX11 26 lkX11_55 (by decide) rfl dX11_settlesOf_20 ?_
  refine lv_aload_n hx hb dX11_settlesOf_23 rfl (lv_at hl 0 rfl) ?_
  refine x_roVi (As := []) S hK hP hD hZ (fun _ h => h) hA hS hA hl mwX11_hours lkX11_103 (ctX11_hours l D k z n mthrown mtaped msize mat mfrom mtoken mvalue mfaultKind mfaultPlace mmoreMany mlawNow mwetSet 1 v_3 mtwos mgone mroundNow msampleFor msampleAll maskWorst moftenAll moftenView moftenOnes fworld (by omega) (by omega) (by omega) (by omega) (by omega) (hkworld)) [0, 1] rfl (by decide) rfl rfl rfl rfl rfl ⟨Nat.le_of_ble_eq_true rfl, Nat.le_of_ble_eq_true rfl, Nat.le_of_ble_eq_true rfl⟩ dX11_settlesOf_24 ⟨Nat.le_of_ble_eq_true rfl, Nat.le_of_ble_eq_true rfl⟩ (fun r_4 H locs hr_4 hP hS => ?_)
  obtain rfl := hr_4
  refine x_iald S hK hP 9 rfl (vp_in_nI (by omega) (by decide)) dX11_settlesOf_27 ?_
  refine lv_topi (fun v_6 ev_6 => ?_)
  refine x_put (ws' := [((n 0), .inr (11, [.int mthrown, .ref (n 1), .ref (n 2), .ref (n 3), .ref (n 4), .int (nI mtaped), .ref (n 5), .int (nI msize), .int (nI mat), .int (nI mfrom), .int mtoken, .int mvalue, .int mfaultKind, .int mfaultPlace, .ref (n 6), .ref (n 7), .ref (n 8), .ref (n 9), .ref (n 10), .ref (n 11), .ref (n 12), .int (nI mmoreMany), .int mlawNow, .int mwetSet, .int 1, .ref (n 13), .ref (n 14), .ref (n 15), .int v_3, .int v_6, .int mgone, .ref (n 16), .ref (n 17), .int mroundNow, .ref (n 18), .long msampleFor, .long msampleAll, .ref (n 19), .int maskWorst, .long moftenAll, .long moftenView, .long moftenOnes, .ref (n 20), .ref (n 21), .ref (n 22), .ref (n 23)])), ((n 1), .inl (k 0, 99, .inl fworld)), ((n 7), .inl (k 0, 12, .inl frowOf)), ((n 8), .inl (k 0, 12, .inl fplaceOf)), ((n 9), .inl (k 0, 4, .inl ffirstOf)), ((n 10), .inl (k 0, 12, .inl fhardNow)), ((n 11), .inl (k 0, 14, .inl fmoreHead)), ((n 12), .inl (k 0, 14, .inl fmoreView)), ((n 13), .inl (k 0, 17, .inl fonesAt)), ((n 14), .inl (k 0, 17, .inl ftwosAt)), ((n 15), .inl (k 0, 17, .inl fgoneAt)), ((n 16), .inl (k 0, 4000, .inl fonesBy)), ((n 17), .inl (k 0, 4000, .inl ftwosBy))]) S hK hP hD hS 0 rfl cfX11 29 lkX11_287 (by decide) rfl rfl rfl (Nat.le_of_ble_eq_true rfl) rfl dX11_settlesOf_28 (fun H locs hP hD hS => ?_)
  refine lv_aload_n hx hb dX11_settlesOf_31 rfl (lv_at hl 0 rfl) ?_
  refine lv_aload_n hx hb dX11_settlesOf_32 rfl (lv_at hl 0 rfl) ?_
  refine x_get S hK hP 0 rfl cfX11 27 lkX11_58 (by decide) rfl dX11_settlesOf_33 ?_
  refine lv_aload_n hx hb dX11_settlesOf_36 rfl (lv_at hl 0 rfl) ?_
  refine x_roVi (As := []) S hK hP hD hZ (fun _ h => h) hA hS hA hl mwX11_hours lkX11_103 (ctX11_hours l D k z n mthrown mtaped msize mat mfrom mtoken mvalue mfaultKind mfaultPlace mmoreMany mlawNow mwetSet 1 v_3 v_6 mgone mroundNow msampleFor msampleAll maskWorst moftenAll moftenView moftenOnes fworld (by omega) (by omega) (by omega) (by omega) (by omega) (hkworld)) [0, 1] rfl (by decide) rfl rfl rfl rfl rfl ⟨Nat.le_of_ble_eq_true rfl, Nat.le_of_ble_eq_true rfl, Nat.le_of_ble_eq_true rfl⟩ dX11_settlesOf_37 ⟨Nat.le_of_ble_eq_true rfl, Nat.le_of_ble_eq_true rfl⟩ (fun r_7 H locs hr_7 hP hS => ?_)
  obtain rfl := hr_7
  refine x_iald S hK hP 10 rfl (vp_in_nI (by omega) (by decide)) dX11_settlesOf_40 ?_
  refine lv_topi (fun v_9 ev_9 => ?_)
  refine x_put (ws' := [((n 0), .inr (11, [.int mthrown, .ref (n 1), .ref (n 2), .ref (n 3), .ref (n 4), .int (nI mtaped), .ref (n 5), .int (nI msize), .int (nI mat), .int (nI mfrom), .int mtoken, .int mvalue, .int mfaultKind, .int mfaultPlace, .ref (n 6), .ref (n 7), .ref (n 8), .ref (n 9), .ref (n 10), .ref (n 11), .ref (n 12), .int (nI mmoreMany), .int mlawNow, .int mwetSet, .int 1, .ref (n 13), .ref (n 14), .ref (n 15), .int v_3, .int v_6, .int v_9, .ref (n 16), .ref (n 17), .int mroundNow, .ref (n 18), .long msampleFor, .long msampleAll, .ref (n 19), .int maskWorst, .long moftenAll, .long moftenView, .long moftenOnes, .ref (n 20), .ref (n 21), .ref (n 22), .ref (n 23)])), ((n 1), .inl (k 0, 99, .inl fworld)), ((n 7), .inl (k 0, 12, .inl frowOf)), ((n 8), .inl (k 0, 12, .inl fplaceOf)), ((n 9), .inl (k 0, 4, .inl ffirstOf)), ((n 10), .inl (k 0, 12, .inl fhardNow)), ((n 11), .inl (k 0, 14, .inl fmoreHead)), ((n 12), .inl (k 0, 14, .inl fmoreView)), ((n 13), .inl (k 0, 17, .inl fonesAt)), ((n 14), .inl (k 0, 17, .inl ftwosAt)), ((n 15), .inl (k 0, 17, .inl fgoneAt)), ((n 16), .inl (k 0, 4000, .inl fonesBy)), ((n 17), .inl (k 0, 4000, .inl ftwosBy))]) S hK hP hD hS 0 rfl cfX11 30 lkX11_281 (by decide) rfl rfl rfl (Nat.le_of_ble_eq_true rfl) rfl dX11_settlesOf_41 (fun H locs hP hD hS => ?_)
  refine lv_iconst (v := 0) hx hb dX11_settlesOf_44 (by decide) ?_
  refine lv_istore_n (lv' := [(1, .int 0), (0, .ref (n 0))]) hx hb dX11_settlesOf_45 rfl hl (by decide) rfl (fun ls hl => ?_)
  have lp_62 : ∀ (nn j_57 : Nat) (x_58 : Int32) (x_59 : Int32) (g_60 : Nat → Int32) (g_61 : Nat → Int32) (H : Heap) (locs : List Loc) (ls : Array Slot), j_57 ≤ 4000 → 4000 - j_57 < nn → va_P D vwCl [((n 0), .inr (11, [.int mthrown, .ref (n 1), .ref (n 2), .ref (n 3), .ref (n 4), .int (nI mtaped), .ref (n 5), .int (nI msize), .int (nI mat), .int (nI mfrom), .int mtoken, .int mvalue, .int mfaultKind, .int mfaultPlace, .ref (n 6), .ref (n 7), .ref (n 8), .ref (n 9), .ref (n 10), .ref (n 11), .ref (n 12), .int (nI mmoreMany), .int mlawNow, .int mwetSet, .int 1, .ref (n 13), .ref (n 14), .ref (n 15), .int x_58, .int x_59, .int v_9, .ref (n 16), .ref (n 17), .int mroundNow, .ref (n 18), .long msampleFor, .long msampleAll, .ref (n 19), .int maskWorst, .long moftenAll, .long moftenView, .long moftenOnes, .ref (n 20), .ref (n 21), .ref (n 22), .ref (n 23)])), ((n 1), .inl (k 0, 99, .inl fworld)), ((n 7), .inl (k 0, 12, .inl frowOf)), ((n 8), .inl (k 0, 12, .inl fplaceOf)), ((n 9), .inl (k 0, 4, .inl ffirstOf)), ((n 10), .inl (k 0, 12, .inl fhardNow)), ((n 11), .inl (k 0, 14, .inl fmoreHead)), ((n 12), .inl (k 0, 14, .inl fmoreView)), ((n 13), .inl (k 0, 17, .inl fonesAt)), ((n 14), .inl (k 0, 17, .inl ftwosAt)), ((n 15), .inl (k 0, 17, .inl fgoneAt)), ((n 16), .inl (k 0, 4000, .inl g_60)), ((n 17), .inl (k 0, 4000, .inl g_61))] H → va_D A [((n 0), .inr (11, [.int mthrown, .ref (n 1), .ref (n 2), .ref (n 3), .ref (n 4), .int (nI mtaped), .ref (n 5), .int (nI msize), .int (nI mat), .int (nI mfrom), .int mtoken, .int mvalue, .int mfaultKind, .int mfaultPlace, .ref (n 6), .ref (n 7), .ref (n 8), .ref (n 9), .ref (n 10), .ref (n 11), .ref (n 12), .int (nI mmoreMany), .int mlawNow, .int mwetSet, .int 1, .ref (n 13), .ref (n 14), .ref (n 15), .int x_58, .int x_59, .int v_9, .ref (n 16), .ref (n 17), .int mroundNow, .ref (n 18), .long msampleFor, .long msampleAll, .ref (n 19), .int maskWorst, .long moftenAll, .long moftenView, .long moftenOnes, .ref (n 20), .ref (n 21), .ref (n 22), .ref (n 23)])), ((n 1), .inl (k 0, 99, .inl fworld)), ((n 7), .inl (k 0, 12, .inl frowOf)), ((n 8), .inl (k 0, 12, .inl fplaceOf)), ((n 9), .inl (k 0, 4, .inl ffirstOf)), ((n 10), .inl (k 0, 12, .inl fhardNow)), ((n 11), .inl (k 0, 14, .inl fmoreHead)), ((n 12), .inl (k 0, 14, .inl fmoreView)), ((n 13), .inl (k 0, 17, .inl fonesAt)), ((n 14), .inl (k 0, 17, .inl ftwosAt)), ((n 15), .inl (k 0, 17, .inl fgoneAt)), ((n 16), .inl (k 0, 4000, .inl g_60)), ((n 17), .inl (k 0, 4000, .inl g_61))] → va_S A s.heap H locs → lv_has ls 3 [(1, .int (nI j_57)), (0, .ref (n 0))] → W p l e (Rm 6 0 0) s m args below meth c H locs 0 0 Q (F0 m 46 ls []) := by
    intro nn
    induction nn with
    | zero => intro j_57 x_58 x_59 g_60 g_61 H locs ls hjj_57 hnj_57; exact absurd hnj_57 (by omega)
    | succ nn ihj_57 =>
      intro j_57 x_58 x_59 g_60 g_61 H locs ls hjj_57 hnj_57 hP hD hS hl
      refine lv_iload_n hx hb dX11_settlesOf_46 rfl (lv_at hl 0 rfl) ?_
      refine lv_sipush (v := 4000) hx hb dX11_settlesOf_47 (by decide) ?_
      refine lv_icmp_ge (tgt := 135) hx hb dX11_settlesOf_50 (by decide) (fun c_63 => ?_) (fun c_63 => ?_)
      · skip
        have c_63 : 4000 ≤ j_57 := (ni_le (by decide) rfl (by omega) (by omega)).mp c_63
        refine lv_iload_n hx hb dX11_settlesOf_135 rfl (lv_at hl 0 rfl) ?_
        exact x_reti S hr hlk hQ hS ((fun i => ([1, x_58, x_59, v_9, mroundNow] : List (Int32)).getD i 0), (fun i => ([] : List (Nat)).getD i 0), (fun i => ([g_60, g_61] : List (Nat → Int32)).getD i (fun _ => 0)), (fun i => ([] : List (Nat → Int64)).getD i (fun _ => 0)), (fun i => ([] : List (Int64)).getD i 0)) trivial (x_B hP hD) dX11_settlesOf_136
      · skip
        have c_63 : ¬ 4000 ≤ j_57 := fun q => c_63 ((ni_le (by decide) rfl (by omega) (by omega)).mpr q)
        refine lv_iconst (v := 0) hx hb dX11_settlesOf_53 (by decide) ?_
        refine lv_istore_n (lv' := [(2, .int 0), (1, .int (nI j_57)), (0, .ref (n 0))]) hx hb dX11_settlesOf_54 rfl hl (by decide) rfl (fun ls hl => ?_)
        have lp_73 : ∀ (nn j_72 : Nat)  (H : Heap) (locs : List Loc) (ls : Array Slot), j_72 ≤ j_57 → j_57 - j_72 < nn → va_P D vwCl [((n 0), .inr (11, [.int mthrown, .ref (n 1), .ref (n 2), .ref (n 3), .ref (n 4), .int (nI mtaped), .ref (n 5), .int (nI msize), .int (nI mat), .int (nI mfrom), .int mtoken, .int mvalue, .int mfaultKind, .int mfaultPlace, .ref (n 6), .ref (n 7), .ref (n 8), .ref (n 9), .ref (n 10), .ref (n 11), .ref (n 12), .int (nI mmoreMany), .int mlawNow, .int mwetSet, .int 1, .ref (n 13), .ref (n 14), .ref (n 15), .int x_58, .int x_59, .int v_9, .ref (n 16), .ref (n 17), .int mroundNow, .ref (n 18), .long msampleFor, .long msampleAll, .ref (n 19), .int maskWorst, .long moftenAll, .long moftenView, .long moftenOnes, .ref (n 20), .ref (n 21), .ref (n 22), .ref (n 23)])), ((n 1), .inl (k 0, 99, .inl fworld)), ((n 7), .inl (k 0, 12, .inl frowOf)), ((n 8), .inl (k 0, 12, .inl fplaceOf)), ((n 9), .inl (k 0, 4, .inl ffirstOf)), ((n 10), .inl (k 0, 12, .inl fhardNow)), ((n 11), .inl (k 0, 14, .inl fmoreHead)), ((n 12), .inl (k 0, 14, .inl fmoreView)), ((n 13), .inl (k 0, 17, .inl fonesAt)), ((n 14), .inl (k 0, 17, .inl ftwosAt)), ((n 15), .inl (k 0, 17, .inl fgoneAt)), ((n 16), .inl (k 0, 4000, .inl g_60)), ((n 17), .inl (k 0, 4000, .inl g_61))] H → va_D A [((n 0), .inr (11, [.int mthrown, .ref (n 1), .ref (n 2), .ref (n 3), .ref (n 4), .int (nI mtaped), .ref (n 5), .int (nI msize), .int (nI mat), .int (nI mfrom), .int mtoken, .int mvalue, .int mfaultKind, .int mfaultPlace, .ref (n 6), .ref (n 7), .ref (n 8), .ref (n 9), .ref (n 10), .ref (n 11), .ref (n 12), .int (nI mmoreMany), .int mlawNow, .int mwetSet, .int 1, .ref (n 13), .ref (n 14), .ref (n 15), .int x_58, .int x_59, .int v_9, .ref (n 16), .ref (n 17), .int mroundNow, .ref (n 18), .long msampleFor, .long msampleAll, .ref (n 19), .int maskWorst, .long moftenAll, .long moftenView, .long moftenOnes, .ref (n 20), .ref (n 21), .ref (n 22), .ref (n 23)])), ((n 1), .inl (k 0, 99, .inl fworld)), ((n 7), .inl (k 0, 12, .inl frowOf)), ((n 8), .inl (k 0, 12, .inl fplaceOf)), ((n 9), .inl (k 0, 4, .inl ffirstOf)), ((n 10), .inl (k 0, 12, .inl fhardNow)), ((n 11), .inl (k 0, 14, .inl fmoreHead)), ((n 12), .inl (k 0, 14, .inl fmoreView)), ((n 13), .inl (k 0, 17, .inl fonesAt)), ((n 14), .inl (k 0, 17, .inl ftwosAt)), ((n 15), .inl (k 0, 17, .inl fgoneAt)), ((n 16), .inl (k 0, 4000, .inl g_60)), ((n 17), .inl (k 0, 4000, .inl g_61))] → va_S A s.heap H locs → lv_has ls 3 [(2, .int (nI j_72)), (1, .int (nI j_57)), (0, .ref (n 0))] → W p l e (Rm 6 0 0) s m args below meth c H locs 0 0 Q (F0 m 55 ls []) := by
          intro nn
          induction nn with
          | zero => intro j_72  H locs ls hjj_72 hnj_72; exact absurd hnj_72 (by omega)
          | succ nn ihj_72 =>
            intro j_72  H locs ls hjj_72 hnj_72 hP hD hS hl
            refine lv_iload_n hx hb dX11_settlesOf_55 rfl (lv_at hl 0 rfl) ?_
            refine lv_iload_n hx hb dX11_settlesOf_56 rfl (lv_at hl 1 rfl) ?_
            refine lv_icmp_ge (tgt := 104) hx hb dX11_settlesOf_57 (by decide) (fun c_74 => ?_) (fun c_74 => ?_)
            · skip
              have c_74 : j_57 ≤ j_72 := (ni_le rfl rfl (by omega) (by omega)).mp c_74
              refine lv_aload_n hx hb dX11_settlesOf_104 rfl (lv_at hl 2 rfl) ?_
              refine x_get S hK hP 0 rfl cfX11 31 lkX11_61 (by decide) rfl dX11_settlesOf_105 ?_
              refine lv_iload_n hx hb dX11_settlesOf_108 rfl (lv_at hl 1 rfl) ?_
              refine lv_aload_n hx hb dX11_settlesOf_109 rfl (lv_at hl 2 rfl) ?_
              refine x_get S hK hP 0 rfl cfX11 28 lkX11_284 (by decide) rfl dX11_settlesOf_110 ?_
              refine x_iast (ws' := fun f_75 => [((n 0), .inr (11, [.int mthrown, .ref (n 1), .ref (n 2), .ref (n 3), .ref (n 4), .int (nI mtaped), .ref (n 5), .int (nI msize), .int (nI mat), .int (nI mfrom), .int mtoken, .int mvalue, .int mfaultKind, .int mfaultPlace, .ref (n 6), .ref (n 7), .ref (n 8), .ref (n 9), .ref (n 10), .ref (n 11), .ref (n 12), .int (nI mmoreMany), .int mlawNow, .int mwetSet, .int 1, .ref (n 13), .ref (n 14), .ref (n 15), .int x_58, .int x_59, .int v_9, .ref (n 16), .ref (n 17), .int mroundNow, .ref (n 18), .long msampleFor, .long msampleAll, .ref (n 19), .int maskWorst, .long moftenAll, .long moftenView, .long moftenOnes, .ref (n 20), .ref (n 21), .ref (n 22), .ref (n 23)])), ((n 1), .inl (k 0, 99, .inl fworld)), ((n 7), .inl (k 0, 12, .inl frowOf)), ((n 8), .inl (k 0, 12, .inl fplaceOf)), ((n 9), .inl (k 0, 4, .inl ffirstOf)), ((n 10), .inl (k 0, 12, .inl fhardNow)), ((n 11), .inl (k 0, 14, .inl fmoreHead)), ((n 12), .inl (k 0, 14, .inl fmoreView)), ((n 13), .inl (k 0, 17, .inl fonesAt)), ((n 14), .inl (k 0, 17, .inl ftwosAt)), ((n 15), .inl (k 0, 17, .inl fgoneAt)), ((n 16), .inl (k 0, 4000, .inl f_75)), ((n 17), .inl (k 0, 4000, .inl g_61))]) S hK hP hD hS 11 rfl (vp_in_nI (by omega) (by decide)) (fun _ => rfl) dX11_settlesOf_113 (fun f_75 H locs ef_75 hP hD hS => ?_)
              refine lv_aload_n hx hb dX11_settlesOf_114 rfl (lv_at hl 2 rfl) ?_
              refine x_get S hK hP 0 rfl cfX11 32 lkX11_64 (by decide) rfl dX11_settlesOf_115 ?_
              refine lv_iload_n hx hb dX11_settlesOf_118 rfl (lv_at hl 1 rfl) ?_
              refine lv_aload_n hx hb dX11_settlesOf_119 rfl (lv_at hl 2 rfl) ?_
              refine x_get S hK hP 0 rfl cfX11 29 lkX11_287 (by decide) rfl dX11_settlesOf_120 ?_
              refine x_iast (ws' := fun f_76 => [((n 0), .inr (11, [.int mthrown, .ref (n 1), .ref (n 2), .ref (n 3), .ref (n 4), .int (nI mtaped), .ref (n 5), .int (nI msize), .int (nI mat), .int (nI mfrom), .int mtoken, .int mvalue, .int mfaultKind, .int mfaultPlace, .ref (n 6), .ref (n 7), .ref (n 8), .ref (n 9), .ref (n 10), .ref (n 11), .ref (n 12), .int (nI mmoreMany), .int mlawNow, .int mwetSet, .int 1, .ref (n 13), .ref (n 14), .ref (n 15), .int x_58, .int x_59, .int v_9, .ref (n 16), .ref (n 17), .int mroundNow, .ref (n 18), .long msampleFor, .long msampleAll, .ref (n 19), .int maskWorst, .long moftenAll, .long moftenView, .long moftenOnes, .ref (n 20), .ref (n 21), .ref (n 22), .ref (n 23)])), ((n 1), .inl (k 0, 99, .inl fworld)), ((n 7), .inl (k 0, 12, .inl frowOf)), ((n 8), .inl (k 0, 12, .inl fplaceOf)), ((n 9), .inl (k 0, 4, .inl ffirstOf)), ((n 10), .inl (k 0, 12, .inl fhardNow)), ((n 11), .inl (k 0, 14, .inl fmoreHead)), ((n 12), .inl (k 0, 14, .inl fmoreView)), ((n 13), .inl (k 0, 17, .inl fonesAt)), ((n 14), .inl (k 0, 17, .inl ftwosAt)), ((n 15), .inl (k 0, 17, .inl fgoneAt)), ((n 16), .inl (k 0, 4000, .inl f_75)), ((n 17), .inl (k 0, 4000, .inl f_76))]) S hK hP hD hS 12 rfl (vp_in_nI (by omega) (by decide)) (fun _ => rfl) dX11_settlesOf_123 (fun f_76 H locs ef_76 hP hD hS => ?_)
              refine lv_aload_n hx hb dX11_settlesOf_124 rfl (lv_at hl 2 rfl) ?_
              refine lv_iconst (v := 0) hx hb dX11_settlesOf_125 (by decide) ?_
              refine x_muVv (wr := [((n 11), .inl (k 0, 14, .inl fmoreHead)), ((n 12), .inl (k 0, 14, .inl fmoreView)), ((n 13), .inl (k 0, 17, .inl fonesAt)), ((n 14), .inl (k 0, 17, .inl ftwosAt)), ((n 15), .inl (k 0, 17, .inl fgoneAt)), ((n 16), .inl (k 0, 4000, .inl f_75)), ((n 17), .inl (k 0, 4000, .inl f_76))]) (As := [.int 0]) S hK hP hD hZ hS hA hl mwX11_passOn lkX11_306 (ctX11_passOn l D k z n mthrown mtaped msize mat mfrom mtoken mvalue mfaultKind mfaultPlace mmoreMany mlawNow mwetSet 1 x_58 x_59 v_9 mroundNow msampleFor msampleAll maskWorst moftenAll moftenView moftenOnes fworld frowOf fplaceOf ffirstOf fhardNow 0 (by omega) (by omega) (by omega) (by omega) (by omega) (hkworld)) [0, 1, 2, 3, 4, 5] [6, 7, 8, 9, 10, 11, 12] rfl rfl (by decide) (by decide) (by decide) rfl rfl rfl rfl rfl ⟨Nat.le_of_ble_eq_true rfl, Nat.le_of_ble_eq_true rfl, Nat.le_of_ble_eq_true rfl⟩ dX11_settlesOf_126 ⟨Nat.le_of_ble_eq_true rfl, Nat.le_of_ble_eq_true rfl⟩ (fun u_78 H locs hr_77 hP hD hS => ?_)
              have hP : va_P D vwCl [((n 0), .inr (11, [.int mthrown, .ref (n 1), .ref (n 2), .ref (n 3), .ref (n 4), .int (nI mtaped), .ref (n 5), .int (nI msize), .int (nI mat), .int (nI mfrom), .int mtoken, .int mvalue, .int mfaultKind, .int mfaultPlace, .ref (n 6), .ref (n 7), .ref (n 8), .ref (n 9), .ref (n 10), .ref (n 11), .ref (n 12), .int (nI mmoreMany), .int mlawNow, .int mwetSet, .int 1, .ref (n 13), .ref (n 14), .ref (n 15), .int (u_78.1 0), .int (u_78.1 1), .int v_9, .ref (n 16), .ref (n 17), .int mroundNow, .ref (n 18), .long msampleFor, .long msampleAll, .ref (n 19), .int maskWorst, .long moftenAll, .long moftenView, .long moftenOnes, .ref (n 20), .ref (n 21), .ref (n 22), .ref (n 23)])), ((n 1), .inl (k 0, 99, .inl fworld)), ((n 7), .inl (k 0, 12, .inl frowOf)), ((n 8), .inl (k 0, 12, .inl fplaceOf)), ((n 9), .inl (k 0, 4, .inl ffirstOf)), ((n 10), .inl (k 0, 12, .inl fhardNow)), ((n 11), .inl (k 0, 14, .inl fmoreHead)), ((n 12), .inl (k 0, 14, .inl fmoreView)), ((n 13), .inl (k 0, 17, .inl fonesAt)), ((n 14), .inl (k 0, 17, .inl ftwosAt)), ((n 15), .inl (k 0, 17, .inl fgoneAt)), ((n 16), .inl (k 0, 4000, .inl f_75)), ((n 17), .inl (k 0, 4000, .inl f_76))] H := hP.sub [7, 8, 9, 10, 11, 12, 0, 1, 2, 3, 4, 5, 6] rfl
              have hD : va_D A [((n 0), .inr (11, [.int mthrown, .ref (n 1), .ref (n 2), .ref (n 3), .ref (n 4), .int (nI mtaped), .ref (n 5), .int (nI msize), .int (nI mat), .int (nI mfrom), .int mtoken, .int mvalue, .int mfaultKind, .int mfaultPlace, .ref (n 6), .ref (n 7), .ref (n 8), .ref (n 9), .ref (n 10), .ref (n 11), .ref (n 12), .int (nI mmoreMany), .int mlawNow, .int mwetSet, .int 1, .ref (n 13), .ref (n 14), .ref (n 15), .int (u_78.1 0), .int (u_78.1 1), .int v_9, .ref (n 16), .ref (n 17), .int mroundNow, .ref (n 18), .long msampleFor, .long msampleAll, .ref (n 19), .int maskWorst, .long moftenAll, .long moftenView, .long moftenOnes, .ref (n 20), .ref (n 21), .ref (n 22), .ref (n 23)])), ((n 1), .inl (k 0, 99, .inl fworld)), ((n 7), .inl (k 0, 12, .inl frowOf)), ((n 8), .inl (k 0, 12, .inl fplaceOf)), ((n 9), .inl (k 0, 4, .inl ffirstOf)), ((n 10), .inl (k 0, 12, .inl fhardNow)), ((n 11), .inl (k 0, 14, .inl fmoreHead)), ((n 12), .inl (k 0, 14, .inl fmoreView)), ((n 13), .inl (k 0, 17, .inl fonesAt)), ((n 14), .inl (k 0, 17, .inl ftwosAt)), ((n 15), .inl (k 0, 17, .inl fgoneAt)), ((n 16), .inl (k 0, 4000, .inl f_75)), ((n 17), .inl (k 0, 4000, .inl f_76))] := hD.sub [7, 8, 9, 10, 11, 12, 0, 1, 2, 3, 4, 5, 6] (by decide) rfl
              refine lv_iinc (v := (nI (j_57 + 1))) (lv' := [(1, .int (nI (j_57 + 1))), (2, .int (nI j_72)), (0, .ref (n 0))]) hx hb dX11_settlesOf_129 hl (k := 1) rfl (ni_inc _) (by decide) rfl (fun ls hl => ?_)
              refine lv_goto (tgt := 46) hx hb dX11_settlesOf_132 (by decide) ?_
              exact ihj_57 (j_57 + 1) (u_78.1 0) (u_78.1 1) f_75 f_76 _ _ _ (by omega) (by omega) hP hD hS (lv_sub hl [0, 2] rfl)
            · skip
              have c_74 : ¬ j_57 ≤ j_72 := fun q => c_74 ((ni_le rfl rfl (by omega) (by omega)).mpr q)
              refine lv_aload_n hx hb dX11_settlesOf_60 rfl (lv_at hl 2 rfl) ?_
              refine x_get S hK hP 0 rfl cfX11 31 lkX11_61 (by decide) rfl dX11_settlesOf_61 ?_
              refine lv_iload_n hx hb dX11_settlesOf_64 rfl (lv_at hl 0 rfl) ?_
              refine x_iald S hK hP 11 rfl (vp_in_nI (by omega) (by decide)) dX11_settlesOf_65 ?_
              refine lv_topi (fun v_79 ev_79 => ?_)
              refine lv_aload_n hx hb dX11_settlesOf_66 rfl (lv_at hl 2 rfl) ?_
              refine x_get S hK hP 0 rfl cfX11 28 lkX11_284 (by decide) rfl dX11_settlesOf_67 ?_
              refine lv_icmp_ne (tgt := 98) hx hb dX11_settlesOf_70 (by decide) (fun c_80 => ?_) (fun c_80 => ?_)
              · skip
                refine lv_iinc (v := (nI (j_72 + 1))) (lv' := [(2, .int (nI (j_72 + 1))), (1, .int (nI j_57)), (0, .ref (n 0))]) hx hb dX11_settlesOf_98 hl (k := 0) rfl (ni_inc _) (by decide) rfl (fun ls hl => ?_)
                refine lv_goto (tgt := 55) hx hb dX11_settlesOf_101 (by decide) ?_
                exact ihj_72 (j_72 + 1)  _ _ _ (by omega) (by omega) hP hD hS (lv_sub hl [0, 1, 2] rfl)
              · skip
                refine lv_aload_n hx hb dX11_settlesOf_73 rfl (lv_at hl 2 rfl) ?_
                refine x_get S hK hP 0 rfl cfX11 32 lkX11_64 (by decide) rfl dX11_settlesOf_74 ?_
                refine lv_iload_n hx hb dX11_settlesOf_77 rfl (lv_at hl 0 rfl) ?_
                refine x_iald S hK hP 12 rfl (vp_in_nI (by omega) (by decide)) dX11_settlesOf_78 ?_
                refine lv_topi (fun v_81 ev_81 => ?_)
                refine lv_aload_n hx hb dX11_settlesOf_79 rfl (lv_at hl 2 rfl) ?_
                refine x_get S hK hP 0 rfl cfX11 29 lkX11_287 (by decide) rfl dX11_settlesOf_80 ?_
                refine lv_icmp_eq (tgt := 89) hx hb dX11_settlesOf_83 (by decide) (fun c_82 => ?_) (fun c_82 => ?_)
                · skip
                  refine lv_aload_n hx hb dX11_settlesOf_89 rfl (lv_at hl 2 rfl) ?_
                  refine lv_iload_n hx hb dX11_settlesOf_90 rfl (lv_at hl 1 rfl) ?_
                  refine lv_iload_n hx hb dX11_settlesOf_91 rfl (lv_at hl 0 rfl) ?_
                  refine lv_isub hx hb dX11_settlesOf_92 ?_
                  refine lv_topi (fun v_83 ev_83 => ?_)
                  refine x_put (ws' := [((n 0), .inr (11, [.int mthrown, .ref (n 1), .ref (n 2), .ref (n 3), .ref (n 4), .int (nI mtaped), .ref (n 5), .int (nI msize), .int (nI mat), .int (nI mfrom), .int mtoken, .int mvalue, .int mfaultKind, .int mfaultPlace, .ref (n 6), .ref (n 7), .ref (n 8), .ref (n 9), .ref (n 10), .ref (n 11), .ref (n 12), .int (nI mmoreMany), .int mlawNow, .int mwetSet, .int 1, .ref (n 13), .ref (n 14), .ref (n 15), .int x_58, .int x_59, .int v_9, .ref (n 16), .ref (n 17), .int v_83, .ref (n 18), .long msampleFor, .long msampleAll, .ref (n 19), .int maskWorst, .long moftenAll, .long moftenView, .long moftenOnes, .ref (n 20), .ref (n 21), .ref (n 22), .ref (n 23)])), ((n 1), .inl (k 0, 99, .inl fworld)), ((n 7), .inl (k 0, 12, .inl frowOf)), ((n 8), .inl (k 0, 12, .inl fplaceOf)), ((n 9), .inl (k 0, 4, .inl ffirstOf)), ((n 10), .inl (k 0, 12, .inl fhardNow)), ((n 11), .inl (k 0, 14, .inl fmoreHead)), ((n 12), .inl (k 0, 14, .inl fmoreView)), ((n 13), .inl (k 0, 17, .inl fonesAt)), ((n 14), .inl (k 0, 17, .inl ftwosAt)), ((n 15), .inl (k 0, 17, .inl fgoneAt)), ((n 16), .inl (k 0, 4000, .inl g_60)), ((n 17), .inl (k 0, 4000, .inl g_61))]) S hK hP hD hS 0 rfl cfX11 33 lkX11_358 (by decide) rfl rfl rfl (Nat.le_of_ble_eq_true rfl) rfl dX11_settlesOf_93 (fun H locs hP hD hS => ?_)
                  refine lv_iload_n hx hb dX11_settlesOf_96 rfl (lv_at hl 1 rfl) ?_
                  exact x_reti S hr hlk hQ hS ((fun i => ([1, x_58, x_59, v_9, v_83] : List (Int32)).getD i 0), (fun i => ([] : List (Nat)).getD i 0), (fun i => ([g_60, g_61] : List (Nat → Int32)).getD i (fun _ => 0)), (fun i => ([] : List (Nat → Int64)).getD i (fun _ => 0)), (fun i => ([] : List (Int64)).getD i 0)) trivial (x_B hP hD) dX11_settlesOf_97
                · skip
                  refine lv_goto (tgt := 98) hx hb dX11_settlesOf_86 (by decide) ?_
                  refine lv_iinc (v := (nI (j_72 + 1))) (lv' := [(2, .int (nI (j_72 + 1))), (1, .int (nI j_57)), (0, .ref (n 0))]) hx hb dX11_settlesOf_98 hl (k := 0) rfl (ni_inc _) (by decide) rfl (fun ls hl => ?_)
                  refine lv_goto (tgt := 55) hx hb dX11_settlesOf_101 (by decide) ?_
                  exact ihj_72 (j_72 + 1)  _ _ _ (by omega) (by omega) hP hD hS (lv_sub hl [0, 1, 2] rfl)
        exact lp_73 (j_57 + 1) 0  _ _ _ (by omega) (by omega) hP hD hS (lv_sub hl [0, 1, 2] rfl)
  exact lp_62 (4000 + 1) 0 v_3 v_6 fonesBy ftwosBy _ _ _ (by omega) (by omega) hP hD hS (lv_sub hl [0, 1] rfl)

set_option maxHeartbeats 4000000 in
set_option maxRecDepth 100000 in
theorem ctX11_settles (l : Launch) (D : va_G) (k : Nat → ClassId) (z : Nat → Nat) (n : Nat → Nat) (mthrown : Int32) (mtaped : Nat) (msize : Nat) (mat : Nat) (mfrom : Nat) (mtoken : Int32) (mvalue : Int32) (mfaultKind : Int32) (mfaultPlace : Int32) (mmoreMany : Nat) (mlawNow : Int32) (mwetSet : Int32) (moverAll : Int32) (mones : Int32) (mtwos : Int32) (mgone : Int32) (mroundNow : Int32) (msampleFor : Int64) (msampleAll : Int64) (maskWorst : Int32) (moftenAll : Int64) (moftenView : Int64) (moftenOnes : Int64) (fworld : Nat → Int32) (frowOf : Nat → Int32) (fplaceOf : Nat → Int32) (ffirstOf : Nat → Int32) (fhardNow : Nat → Int32) (fmoreHead : Nat → Int32) (fmoreView : Nat → Int32) (fonesAt : Nat → Int32) (ftwosAt : Nat → Int32) (fgoneAt : Nat → Int32) (fonesBy : Nat → Int32) (ftwosBy : Nat → Int32) (hmtaped : mtaped ≤ 600) (hmsize : msize ≤ 600) (hmat : mat ≤ 600) (hmfrom : mfrom ≤ 600) (hmmoreMany : mmoreMany ≤ 14) (hkworld : okW fworld) : MU l yX11_settles cX11_settles 1 (some .int) 8 D k z [.ref (n 0)] [((n 0), .inr (11, [.int mthrown, .ref (n 1), .ref (n 2), .ref (n 3), .ref (n 4), .int (nI mtaped), .ref (n 5), .int (nI msize), .int (nI mat), .int (nI mfrom), .int mtoken, .int mvalue, .int mfaultKind, .int mfaultPlace, .ref (n 6), .ref (n 7), .ref (n 8), .ref (n 9), .ref (n 10), .ref (n 11), .ref (n 12), .int (nI mmoreMany), .int mlawNow, .int mwetSet, .int moverAll, .ref (n 13), .ref (n 14), .ref (n 15), .int mones, .int mtwos, .int mgone, .ref (n 16), .ref (n 17), .int mroundNow, .ref (n 18), .long msampleFor, .long msampleAll, .ref (n 19), .int maskWorst, .long moftenAll, .long moftenView, .long moftenOnes, .ref (n 20), .ref (n 21), .ref (n 22), .ref (n 23)])), ((n 1), .inl (k 0, 99, .inl fworld)), ((n 7), .inl (k 0, 12, .inl frowOf)), ((n 8), .inl (k 0, 12, .inl fplaceOf)), ((n 9), .inl (k 0, 4, .inl ffirstOf)), ((n 10), .inl (k 0, 12, .inl fhardNow)), ((n 11), .inl (k 0, 14, .inl fmoreHead)), ((n 12), .inl (k 0, 14, .inl fmoreView)), ((n 13), .inl (k 0, 17, .inl fonesAt)), ((n 14), .inl (k 0, 17, .inl ftwosAt)), ((n 15), .inl (k 0, 17, .inl fgoneAt)), ((n 16), .inl (k 0, 4000, .inl fonesBy)), ((n 17), .inl (k 0, 4000, .inl ftwosBy))] 0 0 (Ui D (fun (r : Int32) (u : (Nat → Int32) × (Nat → Nat) × (Nat → Nat → Int32) × (Nat → Nat → Int64) × (Nat → Int64)) => (u.2.1 0 ≤ 14)) (fun u : (Nat → Int32) × (Nat → Nat) × (Nat → Nat → Int32) × (Nat → Nat → Int64) × (Nat → Int64) => [((n 0), .inr (11, [.int mthrown, .ref (n 1), .ref (n 2), .ref (n 3), .ref (n 4), .int (nI mtaped), .ref (n 5), .int (nI msize), .int (nI mat), .int (nI mfrom), .int mtoken, .int mvalue, .int mfaultKind, .int mfaultPlace, .ref (n 6), .ref (n 7), .ref (n 8), .ref (n 9), .ref (n 10), .ref (n 11), .ref (n 12), .int (nI (u.2.1 0)), .int (u.1 0), .int (u.1 1), .int (u.1 2), .ref (n 13), .ref (n 14), .ref (n 15), .int (u.1 3), .int (u.1 4), .int (u.1 5), .ref (n 16), .ref (n 17), .int (u.1 6), .ref (n 18), .long msampleFor, .long msampleAll, .ref (n 19), .int maskWorst, .long moftenAll, .long moftenView, .long moftenOnes, .ref (n 20), .ref (n 21), .ref (n 22), .ref (n 23)])), ((n 1), .inl (k 0, 99, .inl fworld)), ((n 7), .inl (k 0, 12, .inl (u.2.2.1 6))), ((n 8), .inl (k 0, 12, .inl (u.2.2.1 7))), ((n 9), .inl (k 0, 4, .inl (u.2.2.1 8))), ((n 10), .inl (k 0, 12, .inl (u.2.2.1 0))), ((n 11), .inl (k 0, 14, .inl fmoreHead)), ((n 12), .inl (k 0, 14, .inl fmoreView)), ((n 13), .inl (k 0, 17, .inl (u.2.2.1 1))), ((n 14), .inl (k 0, 17, .inl (u.2.2.1 2))), ((n 15), .inl (k 0, 17, .inl (u.2.2.1 3))), ((n 16), .inl (k 0, 4000, .inl (u.2.2.1 4))), ((n 17), .inl (k 0, 4000, .inl (u.2.2.1 5)))])) := by
  refine MU.of (by decide) (Nat.le_of_ble_eq_true rfl) ?_
  intro p e s m below meth c ls A args Q S hr hlk hnm hQ hK hP hD hZ hA hS hl
  have hx := S.1
  have hb := S.2.1
  have hl : lv_has ls 1 [(0, .ref (n 0))] := hl
  have hbfworld := okW_bd hkworld
  refine lv_aload_n hx hb dX11_settles_0 rfl (lv_at hl 0 rfl) ?_
  refine x_muVi (wr := [((n 16), .inl (k 0, 4000, .inl fonesBy)), ((n 17), .inl (k 0, 4000, .inl ftwosBy))]) (As := []) S hK hP hD hZ hS hA hl mwX11_asksGarden lkX11_315 (ctX11_asksGarden l D k z n mthrown mtaped msize mat mfrom mtoken mvalue mfaultKind mfaultPlace mmoreMany mlawNow mwetSet moverAll mones mtwos mgone mroundNow msampleFor msampleAll maskWorst moftenAll moftenView moftenOnes fworld frowOf fplaceOf ffirstOf fhardNow fmoreHead fmoreView fonesAt ftwosAt fgoneAt (by omega) (by omega) (by omega) (by omega) (by omega) (hkworld)) [0, 1, 2, 3, 4, 5, 6, 7, 8, 9, 10] [11, 12] rfl rfl (by decide) (by decide) (by decide) rfl rfl rfl rfl rfl ⟨Nat.le_of_ble_eq_true rfl, Nat.le_of_ble_eq_true rfl, Nat.le_of_ble_eq_true rfl⟩ dX11_settles_1 ⟨Nat.le_of_ble_eq_true rfl, Nat.le_of_ble_eq_true rfl⟩ (fun r_1 u_2 H locs hr_1 hP hD hS => ?_)
  have hP : va_P D vwCl [((n 0), .inr (11, [.int mthrown, .ref (n 1), .ref (n 2), .ref (n 3), .ref (n 4), .int (nI mtaped), .ref (n 5), .int (nI msize), .int (nI mat), .int (nI mfrom), .int mtoken, .int mvalue, .int mfaultKind, .int mfaultPlace, .ref (n 6), .ref (n 7), .ref (n 8), .ref (n 9), .ref (n 10), .ref (n 11), .ref (n 12), .int (nI (u_2.2.1 0)), .int (u_2.1 0), .int (u_2.1 1), .int (u_2.1 2), .ref (n 13), .ref (n 14), .ref (n 15), .int (u_2.1 3), .int (u_2.1 4), .int (u_2.1 5), .ref (n 16), .ref (n 17), .int mroundNow, .ref (n 18), .long msampleFor, .long msampleAll, .ref (n 19), .int maskWorst, .long moftenAll, .long moftenView, .long moftenOnes, .ref (n 20), .ref (n 21), .ref (n 22), .ref (n 23)])), ((n 1), .inl (k 0, 99, .inl fworld)), ((n 7), .inl (k 0, 12, .inl (u_2.2.2.1 4))), ((n 8), .inl (k 0, 12, .inl (u_2.2.2.1 5))), ((n 9), .inl (k 0, 4, .inl (u_2.2.2.1 6))), ((n 10), .inl (k 0, 12, .inl (u_2.2.2.1 0))), ((n 11), .inl (k 0, 14, .inl fmoreHead)), ((n 12), .inl (k 0, 14, .inl fmoreView)), ((n 13), .inl (k 0, 17, .inl (u_2.2.2.1 1))), ((n 14), .inl (k 0, 17, .inl (u_2.2.2.1 2))), ((n 15), .inl (k 0, 17, .inl (u_2.2.2.1 3))), ((n 16), .inl (k 0, 4000, .inl fonesBy)), ((n 17), .inl (k 0, 4000, .inl ftwosBy))] H := hP.sub [2, 3, 4, 5, 6, 7, 8, 9, 10, 11, 12, 0, 1] rfl
  have hD : va_D A [((n 0), .inr (11, [.int mthrown, .ref (n 1), .ref (n 2), .ref (n 3), .ref (n 4), .int (nI mtaped), .ref (n 5), .int (nI msize), .int (nI mat), .int (nI mfrom), .int mtoken, .int mvalue, .int mfaultKind, .int mfaultPlace, .ref (n 6), .ref (n 7), .ref (n 8), .ref (n 9), .ref (n 10), .ref (n 11), .ref (n 12), .int (nI (u_2.2.1 0)), .int (u_2.1 0), .int (u_2.1 1), .int (u_2.1 2), .ref (n 13), .ref (n 14), .ref (n 15), .int (u_2.1 3), .int (u_2.1 4), .int (u_2.1 5), .ref (n 16), .ref (n 17), .int mroundNow, .ref (n 18), .long msampleFor, .long msampleAll, .ref (n 19), .int maskWorst, .long moftenAll, .long moftenView, .long moftenOnes, .ref (n 20), .ref (n 21), .ref (n 22), .ref (n 23)])), ((n 1), .inl (k 0, 99, .inl fworld)), ((n 7), .inl (k 0, 12, .inl (u_2.2.2.1 4))), ((n 8), .inl (k 0, 12, .inl (u_2.2.2.1 5))), ((n 9), .inl (k 0, 4, .inl (u_2.2.2.1 6))), ((n 10), .inl (k 0, 12, .inl (u_2.2.2.1 0))), ((n 11), .inl (k 0, 14, .inl fmoreHead)), ((n 12), .inl (k 0, 14, .inl fmoreView)), ((n 13), .inl (k 0, 17, .inl (u_2.2.2.1 1))), ((n 14), .inl (k 0, 17, .inl (u_2.2.2.1 2))), ((n 15), .inl (k 0, 17, .inl (u_2.2.2.1 3))), ((n 16), .inl (k 0, 4000, .inl fonesBy)), ((n 17), .inl (k 0, 4000, .inl ftwosBy))] := hD.sub [2, 3, 4, 5, 6, 7, 8, 9, 10, 11, 12, 0, 1] (by decide) rfl
  obtain ⟨hz_3, hg_4⟩ := hr_1
  refine lv_if_eq (tgt := 14) hx hb dX11_settles_4 (by decide) (fun c_5 => ?_) (fun c_5 => ?_)
  · skip
    refine lv_bipush (v := (-2)) hx hb dX11_settles_14 (by decide) ?_
    exact x_reti S hr hlk hQ hS ((fun i => ([(u_2.1 0), (u_2.1 1), (u_2.1 2), (u_2.1 3), (u_2.1 4), (u_2.1 5), mroundNow] : List (Int32)).getD i 0), (fun i => ([u_2.2.1 0] : List (Nat)).getD i 0), (fun i => ([(u_2.2.2.1 0), (u_2.2.2.1 1), (u_2.2.2.1 2), (u_2.2.2.1 3), fonesBy, ftwosBy, (u_2.2.2.1 4), (u_2.2.2.1 5), (u_2.2.2.1 6)] : List (Nat → Int32)).getD i (fun _ => 0)), (fun i => ([] : List (Nat → Int64)).getD i (fun _ => 0)), (fun i => ([] : List (Int64)).getD i 0)) (show u_2.2.1 0 ≤ 14 by omega) (x_B hP hD) dX11_settles_16
  · skip
    refine lv_aload_n hx hb dX11_settles_7 rfl (lv_at hl 0 rfl) ?_
    refine x_muVi (wr := []) (As := []) S hK hP hD hZ hS hA hl mwX11_settlesOf lkX11_361 (ctX11_settlesOf l D k z n mthrown mtaped msize mat mfrom mtoken mvalue mfaultKind mfaultPlace (u_2.2.1 0) (u_2.1 0) (u_2.1 1) (u_2.1 2) (u_2.1 3) (u_2.1 4) (u_2.1 5) mroundNow msampleFor msampleAll maskWorst moftenAll moftenView moftenOnes fworld (u_2.2.2.1 4) (u_2.2.2.1 5) (u_2.2.2.1 6) (u_2.2.2.1 0) fmoreHead fmoreView (u_2.2.2.1 1) (u_2.2.2.1 2) (u_2.2.2.1 3) fonesBy ftwosBy (by omega) (by omega) (by omega) (by omega) (by omega) (hkworld)) [0, 1, 2, 3, 4, 5, 6, 7, 8, 9, 10, 11, 12] [] rfl rfl (by decide) (by decide) (by decide) rfl rfl rfl rfl rfl ⟨Nat.le_of_ble_eq_true rfl, Nat.le_of_ble_eq_true rfl, Nat.le_of_ble_eq_true rfl⟩ dX11_settles_8 ⟨Nat.le_of_ble_eq_true rfl, Nat.le_of_ble_eq_true rfl⟩ (fun r_6 u_7 H locs hr_6 hP hD hS => ?_)
    have hP : va_P D vwCl [((n 0), .inr (11, [.int mthrown, .ref (n 1), .ref (n 2), .ref (n 3), .ref (n 4), .int (nI mtaped), .ref (n 5), .int (nI msize), .int (nI mat), .int (nI mfrom), .int mtoken, .int mvalue, .int mfaultKind, .int mfaultPlace, .ref (n 6), .ref (n 7), .ref (n 8), .ref (n 9), .ref (n 10), .ref (n 11), .ref (n 12), .int (nI (u_2.2.1 0)), .int (u_2.1 0), .int (u_2.1 1), .int (u_7.1 0), .ref (n 13), .ref (n 14), .ref (n 15), .int (u_7.1 1), .int (u_7.1 2), .int (u_7.1 3), .ref (n 16), .ref (n 17), .int (u_7.1 4), .ref (n 18), .long msampleFor, .long msampleAll, .ref (n 19), .int maskWorst, .long moftenAll, .long moftenView, .long moftenOnes, .ref (n 20), .ref (n 21), .ref (n 22), .ref (n 23)])), ((n 1), .inl (k 0, 99, .inl fworld)), ((n 7), .inl (k 0, 12, .inl (u_2.2.2.1 4))), ((n 8), .inl (k 0, 12, .inl (u_2.2.2.1 5))), ((n 9), .inl (k 0, 4, .inl (u_2.2.2.1 6))), ((n 10), .inl (k 0, 12, .inl (u_2.2.2.1 0))), ((n 11), .inl (k 0, 14, .inl fmoreHead)), ((n 12), .inl (k 0, 14, .inl fmoreView)), ((n 13), .inl (k 0, 17, .inl (u_2.2.2.1 1))), ((n 14), .inl (k 0, 17, .inl (u_2.2.2.1 2))), ((n 15), .inl (k 0, 17, .inl (u_2.2.2.1 3))), ((n 16), .inl (k 0, 4000, .inl (u_7.2.2.1 0))), ((n 17), .inl (k 0, 4000, .inl (u_7.2.2.1 1)))] H := hP.sub [0, 1, 2, 3, 4, 5, 6, 7, 8, 9, 10, 11, 12] rfl
    have hD : va_D A [((n 0), .inr (11, [.int mthrown, .ref (n 1), .ref (n 2), .ref (n 3), .ref (n 4), .int (nI mtaped), .ref (n 5), .int (nI msize), .int (nI mat), .int (nI mfrom), .int mtoken, .int mvalue, .int mfaultKind, .int mfaultPlace, .ref (n 6), .ref (n 7), .ref (n 8), .ref (n 9), .ref (n 10), .ref (n 11), .ref (n 12), .int (nI (u_2.2.1 0)), .int (u_2.1 0), .int (u_2.1 1), .int (u_7.1 0), .ref (n 13), .ref (n 14), .ref (n 15), .int (u_7.1 1), .int (u_7.1 2), .int (u_7.1 3), .ref (n 16), .ref (n 17), .int (u_7.1 4), .ref (n 18), .long msampleFor, .long msampleAll, .ref (n 19), .int maskWorst, .long moftenAll, .long moftenView, .long moftenOnes, .ref (n 20), .ref (n 21), .ref (n 22), .ref (n 23)])), ((n 1), .inl (k 0, 99, .inl fworld)), ((n 7), .inl (k 0, 12, .inl (u_2.2.2.1 4))), ((n 8), .inl (k 0, 12, .inl (u_2.2.2.1 5))), ((n 9), .inl (k 0, 4, .inl (u_2.2.2.1 6))), ((n 10), .inl (k 0, 12, .inl (u_2.2.2.1 0))), ((n 11), .inl (k 0, 14, .inl fmoreHead)), ((n 12), .inl (k 0, 14, .inl fmoreView)), ((n 13), .inl (k 0, 17, .inl (u_2.2.2.1 1))), ((n 14), .inl (k 0, 17, .inl (u_2.2.2.1 2))), ((n 15), .inl (k 0, 17, .inl (u_2.2.2.1 3))), ((n 16), .inl (k 0, 4000, .inl (u_7.2.2.1 0))), ((n 17), .inl (k 0, 4000, .inl (u_7.2.2.1 1)))] := hD.sub [0, 1, 2, 3, 4, 5, 6, 7, 8, 9, 10, 11, 12] (by decide) rfl
    refine lv_goto (tgt := 16) hx hb dX11_settles_11 (by decide) ?_
    exact x_reti S hr hlk hQ hS ((fun i => ([(u_2.1 0), (u_2.1 1), (u_7.1 0), (u_7.1 1), (u_7.1 2), (u_7.1 3), (u_7.1 4)] : List (Int32)).getD i 0), (fun i => ([u_2.2.1 0] : List (Nat)).getD i 0), (fun i => ([(u_2.2.2.1 0), (u_2.2.2.1 1), (u_2.2.2.1 2), (u_2.2.2.1 3), (u_7.2.2.1 0), (u_7.2.2.1 1), (u_2.2.2.1 4), (u_2.2.2.1 5), (u_2.2.2.1 6)] : List (Nat → Int32)).getD i (fun _ => 0)), (fun i => ([] : List (Nat → Int64)).getD i (fun _ => 0)), (fun i => ([] : List (Int64)).getD i 0)) (show u_2.2.1 0 ≤ 14 by omega) (x_B hP hD) dX11_settles_16

set_option maxHeartbeats 4000000 in
set_option maxRecDepth 100000 in
theorem ctX11_round (l : Launch) (D : va_G) (k : Nat → ClassId) (z : Nat → Nat) (n : Nat → Nat) (mthrown : Int32) (mtaped : Nat) (msize : Nat) (mat : Nat) (mfrom : Nat) (mtoken : Int32) (mvalue : Int32) (mfaultKind : Int32) (mfaultPlace : Int32) (mmoreMany : Nat) (mlawNow : Int32) (mwetSet : Int32) (moverAll : Int32) (mones : Int32) (mtwos : Int32) (mgone : Int32) (mroundNow : Int32) (msampleFor : Int64) (msampleAll : Int64) (maskWorst : Int32) (moftenAll : Int64) (moftenView : Int64) (moftenOnes : Int64) (fworld : Nat → Int32) (frowOf : Nat → Int32) (fplaceOf : Nat → Int32) (ffirstOf : Nat → Int32) (fhardNow : Nat → Int32) (fmoreHead : Nat → Int32) (fmoreView : Nat → Int32) (fonesAt : Nat → Int32) (ftwosAt : Nat → Int32) (fgoneAt : Nat → Int32) (fonesBy : Nat → Int32) (ftwosBy : Nat → Int32) (hmtaped : mtaped ≤ 600) (hmsize : msize ≤ 600) (hmat : mat ≤ 600) (hmfrom : mfrom ≤ 600) (hmmoreMany : mmoreMany ≤ 14) (hkworld : okW fworld) : MU l yX11_round cX11_round 1 (some .int) 8 D k z [.ref (n 0)] [((n 0), .inr (11, [.int mthrown, .ref (n 1), .ref (n 2), .ref (n 3), .ref (n 4), .int (nI mtaped), .ref (n 5), .int (nI msize), .int (nI mat), .int (nI mfrom), .int mtoken, .int mvalue, .int mfaultKind, .int mfaultPlace, .ref (n 6), .ref (n 7), .ref (n 8), .ref (n 9), .ref (n 10), .ref (n 11), .ref (n 12), .int (nI mmoreMany), .int mlawNow, .int mwetSet, .int moverAll, .ref (n 13), .ref (n 14), .ref (n 15), .int mones, .int mtwos, .int mgone, .ref (n 16), .ref (n 17), .int mroundNow, .ref (n 18), .long msampleFor, .long msampleAll, .ref (n 19), .int maskWorst, .long moftenAll, .long moftenView, .long moftenOnes, .ref (n 20), .ref (n 21), .ref (n 22), .ref (n 23)])), ((n 1), .inl (k 0, 99, .inl fworld)), ((n 7), .inl (k 0, 12, .inl frowOf)), ((n 8), .inl (k 0, 12, .inl fplaceOf)), ((n 9), .inl (k 0, 4, .inl ffirstOf)), ((n 10), .inl (k 0, 12, .inl fhardNow)), ((n 11), .inl (k 0, 14, .inl fmoreHead)), ((n 12), .inl (k 0, 14, .inl fmoreView)), ((n 13), .inl (k 0, 17, .inl fonesAt)), ((n 14), .inl (k 0, 17, .inl ftwosAt)), ((n 15), .inl (k 0, 17, .inl fgoneAt)), ((n 16), .inl (k 0, 4000, .inl fonesBy)), ((n 17), .inl (k 0, 4000, .inl ftwosBy))] 0 0 (Ui D (fun (r : Int32) (u : (Nat → Int32) × (Nat → Nat) × (Nat → Nat → Int32) × (Nat → Nat → Int64) × (Nat → Int64)) => (u.2.1 0 ≤ 14)) (fun u : (Nat → Int32) × (Nat → Nat) × (Nat → Nat → Int32) × (Nat → Nat → Int64) × (Nat → Int64) => [((n 0), .inr (11, [.int mthrown, .ref (n 1), .ref (n 2), .ref (n 3), .ref (n 4), .int (nI mtaped), .ref (n 5), .int (nI msize), .int (nI mat), .int (nI mfrom), .int mtoken, .int mvalue, .int mfaultKind, .int mfaultPlace, .ref (n 6), .ref (n 7), .ref (n 8), .ref (n 9), .ref (n 10), .ref (n 11), .ref (n 12), .int (nI (u.2.1 0)), .int (u.1 0), .int (u.1 1), .int (u.1 2), .ref (n 13), .ref (n 14), .ref (n 15), .int (u.1 3), .int (u.1 4), .int (u.1 5), .ref (n 16), .ref (n 17), .int (u.1 6), .ref (n 18), .long msampleFor, .long msampleAll, .ref (n 19), .int maskWorst, .long moftenAll, .long moftenView, .long moftenOnes, .ref (n 20), .ref (n 21), .ref (n 22), .ref (n 23)])), ((n 1), .inl (k 0, 99, .inl fworld)), ((n 7), .inl (k 0, 12, .inl (u.2.2.1 6))), ((n 8), .inl (k 0, 12, .inl (u.2.2.1 7))), ((n 9), .inl (k 0, 4, .inl (u.2.2.1 8))), ((n 10), .inl (k 0, 12, .inl (u.2.2.1 0))), ((n 11), .inl (k 0, 14, .inl fmoreHead)), ((n 12), .inl (k 0, 14, .inl fmoreView)), ((n 13), .inl (k 0, 17, .inl (u.2.2.1 1))), ((n 14), .inl (k 0, 17, .inl (u.2.2.1 2))), ((n 15), .inl (k 0, 17, .inl (u.2.2.1 3))), ((n 16), .inl (k 0, 4000, .inl (u.2.2.1 4))), ((n 17), .inl (k 0, 4000, .inl (u.2.2.1 5)))])) := by
  refine MU.of (by decide) (Nat.le_of_ble_eq_true rfl) ?_
  intro p e s m below meth c ls A args Q S hr hlk hnm hQ hK hP hD hZ hA hS hl
  have hx := S.1
  have hb := S.2.1
  have hl : lv_has ls 1 [(0, .ref (n 0))] := hl
  have hbfworld := okW_bd hkworld
  refine lv_aload_n hx hb dX11_round_0 rfl (lv_at hl 0 rfl) ?_
  refine x_muVi (wr := [((n 16), .inl (k 0, 4000, .inl fonesBy)), ((n 17), .inl (k 0, 4000, .inl ftwosBy))]) (As := []) S hK hP hD hZ hS hA hl mwX11_asksGarden lkX11_315 (ctX11_asksGarden l D k z n mthrown mtaped msize mat mfrom mtoken mvalue mfaultKind mfaultPlace mmoreMany mlawNow mwetSet moverAll mones mtwos mgone mroundNow msampleFor msampleAll maskWorst moftenAll moftenView moftenOnes fworld frowOf fplaceOf ffirstOf fhardNow fmoreHead fmoreView fonesAt ftwosAt fgoneAt (by omega) (by omega) (by omega) (by omega) (by omega) (hkworld)) [0, 1, 2, 3, 4, 5, 6, 7, 8, 9, 10] [11, 12] rfl rfl (by decide) (by decide) (by decide) rfl rfl rfl rfl rfl ⟨Nat.le_of_ble_eq_true rfl, Nat.le_of_ble_eq_true rfl, Nat.le_of_ble_eq_true rfl⟩ dX11_round_1 ⟨Nat.le_of_ble_eq_true rfl, Nat.le_of_ble_eq_true rfl⟩ (fun r_1 u_2 H locs hr_1 hP hD hS => ?_)
  have hP : va_P D vwCl [((n 0), .inr (11, [.int mthrown, .ref (n 1), .ref (n 2), .ref (n 3), .ref (n 4), .int (nI mtaped), .ref (n 5), .int (nI msize), .int (nI mat), .int (nI mfrom), .int mtoken, .int mvalue, .int mfaultKind, .int mfaultPlace, .ref (n 6), .ref (n 7), .ref (n 8), .ref (n 9), .ref (n 10), .ref (n 11), .ref (n 12), .int (nI (u_2.2.1 0)), .int (u_2.1 0), .int (u_2.1 1), .int (u_2.1 2), .ref (n 13), .ref (n 14), .ref (n 15), .int (u_2.1 3), .int (u_2.1 4), .int (u_2.1 5), .ref (n 16), .ref (n 17), .int mroundNow, .ref (n 18), .long msampleFor, .long msampleAll, .ref (n 19), .int maskWorst, .long moftenAll, .long moftenView, .long moftenOnes, .ref (n 20), .ref (n 21), .ref (n 22), .ref (n 23)])), ((n 1), .inl (k 0, 99, .inl fworld)), ((n 7), .inl (k 0, 12, .inl (u_2.2.2.1 4))), ((n 8), .inl (k 0, 12, .inl (u_2.2.2.1 5))), ((n 9), .inl (k 0, 4, .inl (u_2.2.2.1 6))), ((n 10), .inl (k 0, 12, .inl (u_2.2.2.1 0))), ((n 11), .inl (k 0, 14, .inl fmoreHead)), ((n 12), .inl (k 0, 14, .inl fmoreView)), ((n 13), .inl (k 0, 17, .inl (u_2.2.2.1 1))), ((n 14), .inl (k 0, 17, .inl (u_2.2.2.1 2))), ((n 15), .inl (k 0, 17, .inl (u_2.2.2.1 3))), ((n 16), .inl (k 0, 4000, .inl fonesBy)), ((n 17), .inl (k 0, 4000, .inl ftwosBy))] H := hP.sub [2, 3, 4, 5, 6, 7, 8, 9, 10, 11, 12, 0, 1] rfl
  have hD : va_D A [((n 0), .inr (11, [.int mthrown, .ref (n 1), .ref (n 2), .ref (n 3), .ref (n 4), .int (nI mtaped), .ref (n 5), .int (nI msize), .int (nI mat), .int (nI mfrom), .int mtoken, .int mvalue, .int mfaultKind, .int mfaultPlace, .ref (n 6), .ref (n 7), .ref (n 8), .ref (n 9), .ref (n 10), .ref (n 11), .ref (n 12), .int (nI (u_2.2.1 0)), .int (u_2.1 0), .int (u_2.1 1), .int (u_2.1 2), .ref (n 13), .ref (n 14), .ref (n 15), .int (u_2.1 3), .int (u_2.1 4), .int (u_2.1 5), .ref (n 16), .ref (n 17), .int mroundNow, .ref (n 18), .long msampleFor, .long msampleAll, .ref (n 19), .int maskWorst, .long moftenAll, .long moftenView, .long moftenOnes, .ref (n 20), .ref (n 21), .ref (n 22), .ref (n 23)])), ((n 1), .inl (k 0, 99, .inl fworld)), ((n 7), .inl (k 0, 12, .inl (u_2.2.2.1 4))), ((n 8), .inl (k 0, 12, .inl (u_2.2.2.1 5))), ((n 9), .inl (k 0, 4, .inl (u_2.2.2.1 6))), ((n 10), .inl (k 0, 12, .inl (u_2.2.2.1 0))), ((n 11), .inl (k 0, 14, .inl fmoreHead)), ((n 12), .inl (k 0, 14, .inl fmoreView)), ((n 13), .inl (k 0, 17, .inl (u_2.2.2.1 1))), ((n 14), .inl (k 0, 17, .inl (u_2.2.2.1 2))), ((n 15), .inl (k 0, 17, .inl (u_2.2.2.1 3))), ((n 16), .inl (k 0, 4000, .inl fonesBy)), ((n 17), .inl (k 0, 4000, .inl ftwosBy))] := hD.sub [2, 3, 4, 5, 6, 7, 8, 9, 10, 11, 12, 0, 1] (by decide) rfl
  obtain ⟨hz_3, hg_4⟩ := hr_1
  refine lv_if_ne (tgt := 10) hx hb dX11_round_4 (by decide) (fun c_5 => ?_) (fun c_5 => ?_)
  · skip
    refine lv_aload_n hx hb dX11_round_10 rfl (lv_at hl 0 rfl) ?_
    refine x_muVi (wr := []) (As := []) S hK hP hD hZ hS hA hl mwX11_settlesOf lkX11_361 (ctX11_settlesOf l D k z n mthrown mtaped msize mat mfrom mtoken mvalue mfaultKind mfaultPlace (u_2.2.1 0) (u_2.1 0) (u_2.1 1) (u_2.1 2) (u_2.1 3) (u_2.1 4) (u_2.1 5) mroundNow msampleFor msampleAll maskWorst moftenAll moftenView moftenOnes fworld (u_2.2.2.1 4) (u_2.2.2.1 5) (u_2.2.2.1 6) (u_2.2.2.1 0) fmoreHead fmoreView (u_2.2.2.1 1) (u_2.2.2.1 2) (u_2.2.2.1 3) fonesBy ftwosBy (by omega) (by omega) (by omega) (by omega) (by omega) (hkworld)) [0, 1, 2, 3, 4, 5, 6, 7, 8, 9, 10, 11, 12] [] rfl rfl (by decide) (by decide) (by decide) rfl rfl rfl rfl rfl ⟨Nat.le_of_ble_eq_true rfl, Nat.le_of_ble_eq_true rfl, Nat.le_of_ble_eq_true rfl⟩ dX11_round_11 ⟨Nat.le_of_ble_eq_true rfl, Nat.le_of_ble_eq_true rfl⟩ (fun r_6 u_7 H locs hr_6 hP hD hS => ?_)
    have hP : va_P D vwCl [((n 0), .inr (11, [.int mthrown, .ref (n 1), .ref (n 2), .ref (n 3), .ref (n 4), .int (nI mtaped), .ref (n 5), .int (nI msize), .int (nI mat), .int (nI mfrom), .int mtoken, .int mvalue, .int mfaultKind, .int mfaultPlace, .ref (n 6), .ref (n 7), .ref (n 8), .ref (n 9), .ref (n 10), .ref (n 11), .ref (n 12), .int (nI (u_2.2.1 0)), .int (u_2.1 0), .int (u_2.1 1), .int (u_7.1 0), .ref (n 13), .ref (n 14), .ref (n 15), .int (u_7.1 1), .int (u_7.1 2), .int (u_7.1 3), .ref (n 16), .ref (n 17), .int (u_7.1 4), .ref (n 18), .long msampleFor, .long msampleAll, .ref (n 19), .int maskWorst, .long moftenAll, .long moftenView, .long moftenOnes, .ref (n 20), .ref (n 21), .ref (n 22), .ref (n 23)])), ((n 1), .inl (k 0, 99, .inl fworld)), ((n 7), .inl (k 0, 12, .inl (u_2.2.2.1 4))), ((n 8), .inl (k 0, 12, .inl (u_2.2.2.1 5))), ((n 9), .inl (k 0, 4, .inl (u_2.2.2.1 6))), ((n 10), .inl (k 0, 12, .inl (u_2.2.2.1 0))), ((n 11), .inl (k 0, 14, .inl fmoreHead)), ((n 12), .inl (k 0, 14, .inl fmoreView)), ((n 13), .inl (k 0, 17, .inl (u_2.2.2.1 1))), ((n 14), .inl (k 0, 17, .inl (u_2.2.2.1 2))), ((n 15), .inl (k 0, 17, .inl (u_2.2.2.1 3))), ((n 16), .inl (k 0, 4000, .inl (u_7.2.2.1 0))), ((n 17), .inl (k 0, 4000, .inl (u_7.2.2.1 1)))] H := hP.sub [0, 1, 2, 3, 4, 5, 6, 7, 8, 9, 10, 11, 12] rfl
    have hD : va_D A [((n 0), .inr (11, [.int mthrown, .ref (n 1), .ref (n 2), .ref (n 3), .ref (n 4), .int (nI mtaped), .ref (n 5), .int (nI msize), .int (nI mat), .int (nI mfrom), .int mtoken, .int mvalue, .int mfaultKind, .int mfaultPlace, .ref (n 6), .ref (n 7), .ref (n 8), .ref (n 9), .ref (n 10), .ref (n 11), .ref (n 12), .int (nI (u_2.2.1 0)), .int (u_2.1 0), .int (u_2.1 1), .int (u_7.1 0), .ref (n 13), .ref (n 14), .ref (n 15), .int (u_7.1 1), .int (u_7.1 2), .int (u_7.1 3), .ref (n 16), .ref (n 17), .int (u_7.1 4), .ref (n 18), .long msampleFor, .long msampleAll, .ref (n 19), .int maskWorst, .long moftenAll, .long moftenView, .long moftenOnes, .ref (n 20), .ref (n 21), .ref (n 22), .ref (n 23)])), ((n 1), .inl (k 0, 99, .inl fworld)), ((n 7), .inl (k 0, 12, .inl (u_2.2.2.1 4))), ((n 8), .inl (k 0, 12, .inl (u_2.2.2.1 5))), ((n 9), .inl (k 0, 4, .inl (u_2.2.2.1 6))), ((n 10), .inl (k 0, 12, .inl (u_2.2.2.1 0))), ((n 11), .inl (k 0, 14, .inl fmoreHead)), ((n 12), .inl (k 0, 14, .inl fmoreView)), ((n 13), .inl (k 0, 17, .inl (u_2.2.2.1 1))), ((n 14), .inl (k 0, 17, .inl (u_2.2.2.1 2))), ((n 15), .inl (k 0, 17, .inl (u_2.2.2.1 3))), ((n 16), .inl (k 0, 4000, .inl (u_7.2.2.1 0))), ((n 17), .inl (k 0, 4000, .inl (u_7.2.2.1 1)))] := hD.sub [0, 1, 2, 3, 4, 5, 6, 7, 8, 9, 10, 11, 12] (by decide) rfl
    refine lv_pop hx hb dX11_round_14 rfl ?_
    refine lv_aload_n hx hb dX11_round_15 rfl (lv_at hl 0 rfl) ?_
    refine x_get S hK hP 0 rfl cfX11 33 lkX11_358 (by decide) rfl dX11_round_16 ?_
    exact x_reti S hr hlk hQ hS ((fun i => ([(u_2.1 0), (u_2.1 1), (u_7.1 0), (u_7.1 1), (u_7.1 2), (u_7.1 3), (u_7.1 4)] : List (Int32)).getD i 0), (fun i => ([u_2.2.1 0] : List (Nat)).getD i 0), (fun i => ([(u_2.2.2.1 0), (u_2.2.2.1 1), (u_2.2.2.1 2), (u_2.2.2.1 3), (u_7.2.2.1 0), (u_7.2.2.1 1), (u_2.2.2.1 4), (u_2.2.2.1 5), (u_2.2.2.1 6)] : List (Nat → Int32)).getD i (fun _ => 0)), (fun i => ([] : List (Nat → Int64)).getD i (fun _ => 0)), (fun i => ([] : List (Int64)).getD i 0)) (show u_2.2.1 0 ≤ 14 by omega) (x_B hP hD) dX11_round_19
  · skip
    refine lv_bipush (v := (-2)) hx hb dX11_round_7 (by decide) ?_
    exact x_reti S hr hlk hQ hS ((fun i => ([(u_2.1 0), (u_2.1 1), (u_2.1 2), (u_2.1 3), (u_2.1 4), (u_2.1 5), mroundNow] : List (Int32)).getD i 0), (fun i => ([u_2.2.1 0] : List (Nat)).getD i 0), (fun i => ([(u_2.2.2.1 0), (u_2.2.2.1 1), (u_2.2.2.1 2), (u_2.2.2.1 3), fonesBy, ftwosBy, (u_2.2.2.1 4), (u_2.2.2.1 5), (u_2.2.2.1 6)] : List (Nat → Int32)).getD i (fun _ => 0)), (fun i => ([] : List (Nat → Int64)).getD i (fun _ => 0)), (fun i => ([] : List (Int64)).getD i 0)) (show u_2.2.1 0 ≤ 14 by omega) (x_B hP hD) dX11_round_9

set_option maxHeartbeats 4000000 in
set_option maxRecDepth 100000 in
theorem ctX11_mindOf (l : Launch) (D : va_G) (k : Nat → ClassId) (z : Nat → Nat) (n : Nat → Nat) (mthrown : Int32) (mtaped : Nat) (msize : Nat) (mat : Nat) (mfrom : Nat) (mtoken : Int32) (mvalue : Int32) (mfaultKind : Int32) (mfaultPlace : Int32) (mmoreMany : Nat) (mlawNow : Int32) (mwetSet : Int32) (moverAll : Int32) (mones : Int32) (mtwos : Int32) (mgone : Int32) (mroundNow : Int32) (msampleFor : Int64) (msampleAll : Int64) (maskWorst : Int32) (moftenAll : Int64) (moftenView : Int64) (moftenOnes : Int64) (fworld : Nat → Int32) (ffirstOf : Nat → Int32) (fonesAt : Nat → Int32) (ftwosAt : Nat → Int32) (p0 : Nat) (p1 : Nat) (hmtaped : mtaped ≤ 600) (hmsize : msize ≤ 600) (hmat : mat ≤ 600) (hmfrom : mfrom ≤ 600) (hmmoreMany : mmoreMany ≤ 14) (hkworld : okW fworld) (hp0 : p0 ≤ 3) (hp1 : p1 ≤ 16) : RO l yX11_mindOf cX11_mindOf 4 (some .int) 1 D k z [.ref (n 0), .int (nI p0), .int (nI p1)] [((n 0), .inr (11, [.int mthrown, .ref (n 1), .ref (n 2), .ref (n 3), .ref (n 4), .int (nI mtaped), .ref (n 5), .int (nI msize), .int (nI mat), .int (nI mfrom), .int mtoken, .int mvalue, .int mfaultKind, .int mfaultPlace, .ref (n 6), .ref (n 7), .ref (n 8), .ref (n 9), .ref (n 10), .ref (n 11), .ref (n 12), .int (nI mmoreMany), .int mlawNow, .int mwetSet, .int moverAll, .ref (n 13), .ref (n 14), .ref (n 15), .int mones, .int mtwos, .int mgone, .ref (n 16), .ref (n 17), .int mroundNow, .ref (n 18), .long msampleFor, .long msampleAll, .ref (n 19), .int maskWorst, .long moftenAll, .long moftenView, .long moftenOnes, .ref (n 20), .ref (n 21), .ref (n 22), .ref (n 23)])), ((n 1), .inl (k 0, 99, .inl fworld)), ((n 9), .inl (k 0, 4, .inl ffirstOf)), ((n 13), .inl (k 0, 17, .inl fonesAt)), ((n 14), .inl (k 0, 17, .inl ftwosAt))] (Qi (fun r : Int32 => True)) := by
  refine RO.of (by decide) (Nat.le_of_ble_eq_true rfl) ?_
  intro p e s m below meth c ls A B args Q S hr hlk hQ hK hP hDW hZ hAB hBA hA hS hl
  have hx := S.1
  have hb := S.2.1
  have hl : lv_has ls 4 [(0, .ref (n 0)), (1, .int (nI p0)), (2, .int (nI p1))] := hl
  have hbfworld := okW_bd hkworld
  refine lv_aload_n hx hb dX11_mindOf_0 rfl (lv_at hl 0 rfl) ?_
  refine x_get S hK hP 0 rfl cfX11 25 lkX11_52 (by decide) rfl dX11_mindOf_1 ?_
  refine lv_iload_n hx hb dX11_mindOf_4 rfl (lv_at hl 2 rfl) ?_
  refine x_iald S hK hP 3 rfl (vp_in_nI (by omega) (by decide)) dX11_mindOf_5 ?_
  refine lv_topi (fun v_1 ev_1 => ?_)
  refine lv_aload_n hx hb dX11_mindOf_6 rfl (lv_at hl 0 rfl) ?_
  refine lv_iload_n hx hb dX11_mindOf_7 rfl (lv_at hl 1 rfl) ?_
  refine x_roVi (As := [.int (nI p0)]) S hK hP hDW hZ hAB hBA hS hA hl mwX11_rowSet lkX11_258 (ctX11_rowSet l D k z n mthrown mtaped msize mat mfrom mtoken mvalue mfaultKind mfaultPlace mmoreMany mlawNow mwetSet moverAll mones mtwos mgone mroundNow msampleFor msampleAll maskWorst moftenAll moftenView moftenOnes fworld ffirstOf p0 (by omega) (by omega) (by omega) (by omega) (by omega) (hkworld) (by omega)) [0, 1, 2] rfl (by decide) rfl rfl rfl rfl rfl ⟨Nat.le_of_ble_eq_true rfl, Nat.le_of_ble_eq_true rfl, Nat.le_of_ble_eq_true rfl⟩ dX11_mindOf_8 ⟨Nat.le_of_ble_eq_true rfl, Nat.le_of_ble_eq_true rfl⟩ (fun r_2 H locs hr_2 hP hS => ?_)
  refine lv_iand hx hb dX11_mindOf_11 ?_
  refine lv_topi (fun v_4 ev_4 => ?_)
  refine x_roSi (As := [.int v_4]) S hK hP hDW hZ hAB hBA hS hA hl mwX11_bits lkX11_296 (ctX11_bits l D k z v_4 ) [] rfl (by decide) rfl rfl ⟨Nat.le_of_ble_eq_true rfl, Nat.le_of_ble_eq_true rfl, Nat.le_of_ble_eq_true rfl⟩ dX11_mindOf_12 ⟨Nat.le_of_ble_eq_true rfl, Nat.le_of_ble_eq_true rfl⟩ (fun r_5 H locs hr_5 hP hS => ?_)
  obtain ⟨rfl, hg_7⟩ := hr_5
  refine lv_aload_n hx hb dX11_mindOf_15 rfl (lv_at hl 0 rfl) ?_
  refine x_get S hK hP 0 rfl cfX11 26 lkX11_55 (by decide) rfl dX11_mindOf_16 ?_
  refine lv_iload_n hx hb dX11_mindOf_19 rfl (lv_at hl 2 rfl) ?_
  refine x_iald S hK hP 4 rfl (vp_in_nI (by omega) (by decide)) dX11_mindOf_20 ?_
  refine lv_topi (fun v_8 ev_8 => ?_)
  refine lv_aload_n hx hb dX11_mindOf_21 rfl (lv_at hl 0 rfl) ?_
  refine lv_iload_n hx hb dX11_mindOf_22 rfl (lv_at hl 1 rfl) ?_
  refine x_roVi (As := [.int (nI p0)]) S hK hP hDW hZ hAB hBA hS hA hl mwX11_rowSet lkX11_258 (ctX11_rowSet l D k z n mthrown mtaped msize mat mfrom mtoken mvalue mfaultKind mfaultPlace mmoreMany mlawNow mwetSet moverAll mones mtwos mgone mroundNow msampleFor msampleAll maskWorst moftenAll moftenView moftenOnes fworld ffirstOf p0 (by omega) (by omega) (by omega) (by omega) (by omega) (hkworld) (by omega)) [0, 1, 2] rfl (by decide) rfl rfl rfl rfl rfl ⟨Nat.le_of_ble_eq_true rfl, Nat.le_of_ble_eq_true rfl, Nat.le_of_ble_eq_true rfl⟩ dX11_mindOf_23 ⟨Nat.le_of_ble_eq_true rfl, Nat.le_of_ble_eq_true rfl⟩ (fun r_9 H locs hr_9 hP hS => ?_)
  refine lv_iand hx hb dX11_mindOf_26 ?_
  refine lv_topi (fun v_11 ev_11 => ?_)
  refine x_roSi (As := [.int v_11]) S hK hP hDW hZ hAB hBA hS hA hl mwX11_bits lkX11_296 (ctX11_bits l D k z v_11 ) [] rfl (by decide) rfl rfl ⟨Nat.le_of_ble_eq_true rfl, Nat.le_of_ble_eq_true rfl, Nat.le_of_ble_eq_true rfl⟩ dX11_mindOf_27 ⟨Nat.le_of_ble_eq_true rfl, Nat.le_of_ble_eq_true rfl⟩ (fun r_12 H locs hr_12 hP hS => ?_)
  obtain ⟨rfl, hg_14⟩ := hr_12
  refine lv_isub hx hb dX11_mindOf_30 ?_
  refine lv_topi (fun v_15 ev_15 => ?_)
  refine lv_istore_n (lv' := [(3, .int v_15), (0, .ref (n 0)), (1, .int (nI p0)), (2, .int (nI p1))]) hx hb dX11_mindOf_31 rfl hl (by decide) rfl (fun ls hl => ?_)
  refine lv_iload_n hx hb dX11_mindOf_32 rfl (lv_at hl 0 rfl) ?_
  refine lv_if_le (tgt := 40) hx hb dX11_mindOf_33 (by decide) (fun c_16 => ?_) (fun c_16 => ?_)
  · skip
    refine lv_iload_n hx hb dX11_mindOf_40 rfl (lv_at hl 0 rfl) ?_
    refine lv_if_ge (tgt := 48) hx hb dX11_mindOf_41 (by decide) (fun c_17 => ?_) (fun c_17 => ?_)
    · skip
      refine lv_iconst (v := 0) hx hb dX11_mindOf_48 (by decide) ?_
      exact x_reti S hr hlk hQ hS () trivial x_T dX11_mindOf_49
    · skip
      refine lv_iconst (v := 2) hx hb dX11_mindOf_44 (by decide) ?_
      refine lv_goto (tgt := 49) hx hb dX11_mindOf_45 (by decide) ?_
      exact x_reti S hr hlk hQ hS () trivial x_T dX11_mindOf_49
  · skip
    refine lv_iconst (v := 1) hx hb dX11_mindOf_36 (by decide) ?_
    refine lv_goto (tgt := 49) hx hb dX11_mindOf_37 (by decide) ?_
    exact x_reti S hr hlk hQ hS () trivial x_T dX11_mindOf_49

set_option maxHeartbeats 4000000 in
set_option maxRecDepth 100000 in
theorem ctX11_mind (l : Launch) (D : va_G) (k : Nat → ClassId) (z : Nat → Nat) (n : Nat → Nat) (mthrown : Int32) (mtaped : Nat) (msize : Nat) (mat : Nat) (mfrom : Nat) (mtoken : Int32) (mvalue : Int32) (mfaultKind : Int32) (mfaultPlace : Int32) (mmoreMany : Nat) (mlawNow : Int32) (mwetSet : Int32) (moverAll : Int32) (mones : Int32) (mtwos : Int32) (mgone : Int32) (mroundNow : Int32) (msampleFor : Int64) (msampleAll : Int64) (maskWorst : Int32) (moftenAll : Int64) (moftenView : Int64) (moftenOnes : Int64) (fworld : Nat → Int32) (frowOf : Nat → Int32) (fplaceOf : Nat → Int32) (ffirstOf : Nat → Int32) (fhardNow : Nat → Int32) (fmoreHead : Nat → Int32) (fmoreView : Nat → Int32) (fonesAt : Nat → Int32) (ftwosAt : Nat → Int32) (fgoneAt : Nat → Int32) (p0 : Int32) (p1 : Int32) (hmtaped : mtaped ≤ 600) (hmsize : msize ≤ 600) (hmat : mat ≤ 600) (hmfrom : mfrom ≤ 600) (hmmoreMany : mmoreMany ≤ 14) (hkworld : okW fworld) : MU l yX11_mind cX11_mind 3 (some .int) 9 D k z [.ref (n 0), .int p0, .int p1] [((n 0), .inr (11, [.int mthrown, .ref (n 1), .ref (n 2), .ref (n 3), .ref (n 4), .int (nI mtaped), .ref (n 5), .int (nI msize), .int (nI mat), .int (nI mfrom), .int mtoken, .int mvalue, .int mfaultKind, .int mfaultPlace, .ref (n 6), .ref (n 7), .ref (n 8), .ref (n 9), .ref (n 10), .ref (n 11), .ref (n 12), .int (nI mmoreMany), .int mlawNow, .int mwetSet, .int moverAll, .ref (n 13), .ref (n 14), .ref (n 15), .int mones, .int mtwos, .int mgone, .ref (n 16), .ref (n 17), .int mroundNow, .ref (n 18), .long msampleFor, .long msampleAll, .ref (n 19), .int maskWorst, .long moftenAll, .long moftenView, .long moftenOnes, .ref (n 20), .ref (n 21), .ref (n 22), .ref (n 23)])), ((n 1), .inl (k 0, 99, .inl fworld)), ((n 7), .inl (k 0, 12, .inl frowOf)), ((n 8), .inl (k 0, 12, .inl fplaceOf)), ((n 9), .inl (k 0, 4, .inl ffirstOf)), ((n 10), .inl (k 0, 12, .inl fhardNow)), ((n 11), .inl (k 0, 14, .inl fmoreHead)), ((n 12), .inl (k 0, 14, .inl fmoreView)), ((n 13), .inl (k 0, 17, .inl fonesAt)), ((n 14), .inl (k 0, 17, .inl ftwosAt)), ((n 15), .inl (k 0, 17, .inl fgoneAt))] 0 0 (Ui D (fun (r : Int32) (u : (Nat → Int32) × (Nat → Nat) × (Nat → Nat → Int32) × (Nat → Nat → Int64) × (Nat → Int64)) => (u.2.1 0 ≤ 14)) (fun u : (Nat → Int32) × (Nat → Nat) × (Nat → Nat → Int32) × (Nat → Nat → Int64) × (Nat → Int64) => [((n 0), .inr (11, [.int mthrown, .ref (n 1), .ref (n 2), .ref (n 3), .ref (n 4), .int (nI mtaped), .ref (n 5), .int (nI msize), .int (nI mat), .int (nI mfrom), .int mtoken, .int mvalue, .int mfaultKind, .int mfaultPlace, .ref (n 6), .ref (n 7), .ref (n 8), .ref (n 9), .ref (n 10), .ref (n 11), .ref (n 12), .int (nI (u.2.1 0)), .int (u.1 0), .int (u.1 1), .int (u.1 2), .ref (n 13), .ref (n 14), .ref (n 15), .int (u.1 3), .int (u.1 4), .int (u.1 5), .ref (n 16), .ref (n 17), .int mroundNow, .ref (n 18), .long msampleFor, .long msampleAll, .ref (n 19), .int maskWorst, .long moftenAll, .long moftenView, .long moftenOnes, .ref (n 20), .ref (n 21), .ref (n 22), .ref (n 23)])), ((n 1), .inl (k 0, 99, .inl fworld)), ((n 7), .inl (k 0, 12, .inl (u.2.2.1 4))), ((n 8), .inl (k 0, 12, .inl (u.2.2.1 5))), ((n 9), .inl (k 0, 4, .inl (u.2.2.1 6))), ((n 10), .inl (k 0, 12, .inl (u.2.2.1 0))), ((n 11), .inl (k 0, 14, .inl fmoreHead)), ((n 12), .inl (k 0, 14, .inl fmoreView)), ((n 13), .inl (k 0, 17, .inl (u.2.2.1 1))), ((n 14), .inl (k 0, 17, .inl (u.2.2.1 2))), ((n 15), .inl (k 0, 17, .inl (u.2.2.1 3)))])) := by
  refine MU.of (by decide) (Nat.le_of_ble_eq_true rfl) ?_
  intro p e s m below meth c ls A args Q S hr hlk hnm hQ hK hP hD hZ hA hS hl
  have hx := S.1
  have hb := S.2.1
  have hl : lv_has ls 3 [(0, .ref (n 0)), (1, .int p0), (2, .int p1)] := hl
  have hbfworld := okW_bd hkworld
  refine lv_aload_n hx hb dX11_mind_0 rfl (lv_at hl 0 rfl) ?_
  refine lv_iload_n hx hb dX11_mind_1 rfl (lv_at hl 2 rfl) ?_
  refine x_muVi (wr := []) (As := [.int p1]) S hK hP hD hZ hS hA hl mwX11_asksHour lkX11_330 (ctX11_asksHour l D k z n mthrown mtaped msize mat mfrom mtoken mvalue mfaultKind mfaultPlace mmoreMany mlawNow mwetSet moverAll mones mtwos mgone mroundNow msampleFor msampleAll maskWorst moftenAll moftenView moftenOnes fworld frowOf fplaceOf ffirstOf fhardNow fmoreHead fmoreView fonesAt ftwosAt fgoneAt p1 (by omega) (by omega) (by omega) (by omega) (by omega) (hkworld)) [0, 1, 2, 3, 4, 5, 6, 7, 8, 9, 10] [] rfl rfl (by decide) (by decide) (by decide) rfl rfl rfl rfl rfl ⟨Nat.le_of_ble_eq_true rfl, Nat.le_of_ble_eq_true rfl, Nat.le_of_ble_eq_true rfl⟩ dX11_mind_2 ⟨Nat.le_of_ble_eq_true rfl, Nat.le_of_ble_eq_true rfl⟩ (fun r_1 u_2 H locs hr_1 hP hD hS => ?_)
  have hP : va_P D vwCl [((n 0), .inr (11, [.int mthrown, .ref (n 1), .ref (n 2), .ref (n 3), .ref (n 4), .int (nI mtaped), .ref (n 5), .int (nI msize), .int (nI mat), .int (nI mfrom), .int mtoken, .int mvalue, .int mfaultKind, .int mfaultPlace, .ref (n 6), .ref (n 7), .ref (n 8), .ref (n 9), .ref (n 10), .ref (n 11), .ref (n 12), .int (nI (u_2.2.1 0)), .int (u_2.1 0), .int (u_2.1 1), .int (u_2.1 2), .ref (n 13), .ref (n 14), .ref (n 15), .int (u_2.1 3), .int (u_2.1 4), .int (u_2.1 5), .ref (n 16), .ref (n 17), .int mroundNow, .ref (n 18), .long msampleFor, .long msampleAll, .ref (n 19), .int maskWorst, .long moftenAll, .long moftenView, .long moftenOnes, .ref (n 20), .ref (n 21), .ref (n 22), .ref (n 23)])), ((n 1), .inl (k 0, 99, .inl fworld)), ((n 7), .inl (k 0, 12, .inl (u_2.2.2.1 4))), ((n 8), .inl (k 0, 12, .inl (u_2.2.2.1 5))), ((n 9), .inl (k 0, 4, .inl (u_2.2.2.1 6))), ((n 10), .inl (k 0, 12, .inl (u_2.2.2.1 0))), ((n 11), .inl (k 0, 14, .inl fmoreHead)), ((n 12), .inl (k 0, 14, .inl fmoreView)), ((n 13), .inl (k 0, 17, .inl (u_2.2.2.1 1))), ((n 14), .inl (k 0, 17, .inl (u_2.2.2.1 2))), ((n 15), .inl (k 0, 17, .inl (u_2.2.2.1 3)))] H := hP.sub [0, 1, 2, 3, 4, 5, 6, 7, 8, 9, 10] rfl
  have hD : va_D A [((n 0), .inr (11, [.int mthrown, .ref (n 1), .ref (n 2), .ref (n 3), .ref (n 4), .int (nI mtaped), .ref (n 5), .int (nI msize), .int (nI mat), .int (nI mfrom), .int mtoken, .int mvalue, .int mfaultKind, .int mfaultPlace, .ref (n 6), .ref (n 7), .ref (n 8), .ref (n 9), .ref (n 10), .ref (n 11), .ref (n 12), .int (nI (u_2.2.1 0)), .int (u_2.1 0), .int (u_2.1 1), .int (u_2.1 2), .ref (n 13), .ref (n 14), .ref (n 15), .int (u_2.1 3), .int (u_2.1 4), .int (u_2.1 5), .ref (n 16), .ref (n 17), .int mroundNow, .ref (n 18), .long msampleFor, .long msampleAll, .ref (n 19), .int maskWorst, .long moftenAll, .long moftenView, .long moftenOnes, .ref (n 20), .ref (n 21), .ref (n 22), .ref (n 23)])), ((n 1), .inl (k 0, 99, .inl fworld)), ((n 7), .inl (k 0, 12, .inl (u_2.2.2.1 4))), ((n 8), .inl (k 0, 12, .inl (u_2.2.2.1 5))), ((n 9), .inl (k 0, 4, .inl (u_2.2.2.1 6))), ((n 10), .inl (k 0, 12, .inl (u_2.2.2.1 0))), ((n 11), .inl (k 0, 14, .inl fmoreHead)), ((n 12), .inl (k 0, 14, .inl fmoreView)), ((n 13), .inl (k 0, 17, .inl (u_2.2.2.1 1))), ((n 14), .inl (k 0, 17, .inl (u_2.2.2.1 2))), ((n 15), .inl (k 0, 17, .inl (u_2.2.2.1 3)))] := hD.sub [0, 1, 2, 3, 4, 5, 6, 7, 8, 9, 10] (by decide) rfl
  obtain ⟨hp_3, hz_4, hg_5⟩ := hr_1
  refine lv_if_eq (tgt := 25) hx hb dX11_mind_5 (by decide) (fun c_6 => ?_) (fun c_6 => ?_)
  · skip
    refine lv_bipush (v := (-2)) hx hb dX11_mind_25 (by decide) ?_
    exact x_reti S hr hlk hQ hS ((fun i => ([(u_2.1 0), (u_2.1 1), (u_2.1 2), (u_2.1 3), (u_2.1 4), (u_2.1 5)] : List (Int32)).getD i 0), (fun i => ([u_2.2.1 0] : List (Nat)).getD i 0), (fun i => ([(u_2.2.2.1 0), (u_2.2.2.1 1), (u_2.2.2.1 2), (u_2.2.2.1 3), (u_2.2.2.1 4), (u_2.2.2.1 5), (u_2.2.2.1 6)] : List (Nat → Int32)).getD i (fun _ => 0)), (fun i => ([] : List (Nat → Int64)).getD i (fun _ => 0)), (fun i => ([] : List (Int64)).getD i 0)) (show u_2.2.1 0 ≤ 14 by omega) (x_B hP hD) dX11_mind_27
  · skip
    obtain ⟨n_7, rfl, hn_7⟩ := hp_3.resolve_left c_6
    refine lv_aload_n hx hb dX11_mind_8 rfl (lv_at hl 0 rfl) ?_
    refine lv_iload_n hx hb dX11_mind_9 rfl (lv_at hl 1 rfl) ?_
    refine x_roVi (As := [.int p0]) S hK hP hD hZ (fun _ h => h) hA hS hA hl mwX11_isRow lkX11_227 (ctX11_isRow l D k z n mthrown mtaped msize mat mfrom mtoken mvalue mfaultKind mfaultPlace (u_2.2.1 0) (u_2.1 0) (u_2.1 1) (u_2.1 2) (u_2.1 3) (u_2.1 4) (u_2.1 5) mroundNow msampleFor msampleAll maskWorst moftenAll moftenView moftenOnes fworld p0 (by omega) (by omega) (by omega) (by omega) (by omega) (hkworld)) [0, 1] rfl (by decide) rfl rfl rfl rfl rfl ⟨Nat.le_of_ble_eq_true rfl, Nat.le_of_ble_eq_true rfl, Nat.le_of_ble_eq_true rfl⟩ dX11_mind_10 ⟨Nat.le_of_ble_eq_true rfl, Nat.le_of_ble_eq_true rfl⟩ (fun r_8 H locs hr_8 hP hS => ?_)
    obtain ⟨hp_10, hz_11⟩ := hr_8
    refine lv_if_eq (tgt := 25) hx hb dX11_mind_13 (by decide) (fun c_12 => ?_) (fun c_12 => ?_)
    · skip
      refine lv_bipush (v := (-2)) hx hb dX11_mind_25 (by decide) ?_
      exact x_reti S hr hlk hQ hS ((fun i => ([(u_2.1 0), (u_2.1 1), (u_2.1 2), (u_2.1 3), (u_2.1 4), (u_2.1 5)] : List (Int32)).getD i 0), (fun i => ([u_2.2.1 0] : List (Nat)).getD i 0), (fun i => ([(u_2.2.2.1 0), (u_2.2.2.1 1), (u_2.2.2.1 2), (u_2.2.2.1 3), (u_2.2.2.1 4), (u_2.2.2.1 5), (u_2.2.2.1 6)] : List (Nat → Int32)).getD i (fun _ => 0)), (fun i => ([] : List (Nat → Int64)).getD i (fun _ => 0)), (fun i => ([] : List (Int64)).getD i 0)) (show u_2.2.1 0 ≤ 14 by omega) (x_B hP hD) dX11_mind_27
    · skip
      obtain ⟨n_13, rfl, hn_13⟩ := hp_10.resolve_left c_12
      refine lv_aload_n hx hb dX11_mind_16 rfl (lv_at hl 0 rfl) ?_
      refine lv_iload_n hx hb dX11_mind_17 rfl (lv_at hl 1 rfl) ?_
      refine lv_iload_n hx hb dX11_mind_18 rfl (lv_at hl 2 rfl) ?_
      refine x_roVi (As := [.int (nI n_13), .int (nI n_7)]) S hK hP hD hZ (fun _ h => h) hA hS hA hl mwX11_mindOf lkX11_364 (ctX11_mindOf l D k z n mthrown mtaped msize mat mfrom mtoken mvalue mfaultKind mfaultPlace (u_2.2.1 0) (u_2.1 0) (u_2.1 1) (u_2.1 2) (u_2.1 3) (u_2.1 4) (u_2.1 5) mroundNow msampleFor msampleAll maskWorst moftenAll moftenView moftenOnes fworld (u_2.2.2.1 6) (u_2.2.2.1 1) (u_2.2.2.1 2) n_13 n_7 (by omega) (by omega) (by omega) (by omega) (by omega) (hkworld) (by omega) (by omega)) [0, 1, 4, 8, 9] rfl (by decide) rfl rfl rfl rfl rfl ⟨Nat.le_of_ble_eq_true rfl, Nat.le_of_ble_eq_true rfl, Nat.le_of_ble_eq_true rfl⟩ dX11_mind_19 ⟨Nat.le_of_ble_eq_true rfl, Nat.le_of_ble_eq_true rfl⟩ (fun r_14 H locs hr_14 hP hS => ?_)
      refine lv_goto (tgt := 27) hx hb dX11_mind_22 (by decide) ?_
      exact x_reti S hr hlk hQ hS ((fun i => ([(u_2.1 0), (u_2.1 1), (u_2.1 2), (u_2.1 3), (u_2.1 4), (u_2.1 5)] : List (Int32)).getD i 0), (fun i => ([u_2.2.1 0] : List (Nat)).getD i 0), (fun i => ([(u_2.2.2.1 0), (u_2.2.2.1 1), (u_2.2.2.1 2), (u_2.2.2.1 3), (u_2.2.2.1 4), (u_2.2.2.1 5), (u_2.2.2.1 6)] : List (Nat → Int32)).getD i (fun _ => 0)), (fun i => ([] : List (Nat → Int64)).getD i (fun _ => 0)), (fun i => ([] : List (Int64)).getD i 0)) (show u_2.2.1 0 ≤ 14 by omega) (x_B hP hD) dX11_mind_27

set_option maxHeartbeats 4000000 in
set_option maxRecDepth 100000 in
theorem ctX11_rows (l : Launch) (D : va_G) (k : Nat → ClassId) (z : Nat → Nat) (n : Nat → Nat) (mthrown : Int32) (mtaped : Nat) (msize : Nat) (mat : Nat) (mfrom : Nat) (mtoken : Int32) (mvalue : Int32) (mfaultKind : Int32) (mfaultPlace : Int32) (mmoreMany : Nat) (mlawNow : Int32) (mwetSet : Int32) (moverAll : Int32) (mones : Int32) (mtwos : Int32) (mgone : Int32) (mroundNow : Int32) (msampleFor : Int64) (msampleAll : Int64) (maskWorst : Int32) (moftenAll : Int64) (moftenView : Int64) (moftenOnes : Int64) (fworld : Nat → Int32) (frowOf : Nat → Int32) (fplaceOf : Nat → Int32) (ffirstOf : Nat → Int32) (fhardNow : Nat → Int32) (fmoreHead : Nat → Int32) (fmoreView : Nat → Int32) (fonesAt : Nat → Int32) (ftwosAt : Nat → Int32) (fgoneAt : Nat → Int32) (p0 : Int32) (p1 : Int32) (hmtaped : mtaped ≤ 600) (hmsize : msize ≤ 600) (hmat : mat ≤ 600) (hmfrom : mfrom ≤ 600) (hmmoreMany : mmoreMany ≤ 14) (hkworld : okW fworld) : MU l yX11_rows cX11_rows 5 (some .int) 9 D k z [.ref (n 0), .int p0, .int p1] [((n 0), .inr (11, [.int mthrown, .ref (n 1), .ref (n 2), .ref (n 3), .ref (n 4), .int (nI mtaped), .ref (n 5), .int (nI msize), .int (nI mat), .int (nI mfrom), .int mtoken, .int mvalue, .int mfaultKind, .int mfaultPlace, .ref (n 6), .ref (n 7), .ref (n 8), .ref (n 9), .ref (n 10), .ref (n 11), .ref (n 12), .int (nI mmoreMany), .int mlawNow, .int mwetSet, .int moverAll, .ref (n 13), .ref (n 14), .ref (n 15), .int mones, .int mtwos, .int mgone, .ref (n 16), .ref (n 17), .int mroundNow, .ref (n 18), .long msampleFor, .long msampleAll, .ref (n 19), .int maskWorst, .long moftenAll, .long moftenView, .long moftenOnes, .ref (n 20), .ref (n 21), .ref (n 22), .ref (n 23)])), ((n 1), .inl (k 0, 99, .inl fworld)), ((n 7), .inl (k 0, 12, .inl frowOf)), ((n 8), .inl (k 0, 12, .inl fplaceOf)), ((n 9), .inl (k 0, 4, .inl ffirstOf)), ((n 10), .inl (k 0, 12, .inl fhardNow)), ((n 11), .inl (k 0, 14, .inl fmoreHead)), ((n 12), .inl (k 0, 14, .inl fmoreView)), ((n 13), .inl (k 0, 17, .inl fonesAt)), ((n 14), .inl (k 0, 17, .inl ftwosAt)), ((n 15), .inl (k 0, 17, .inl fgoneAt))] 0 0 (Ui D (fun (r : Int32) (u : (Nat → Int32) × (Nat → Nat) × (Nat → Nat → Int32) × (Nat → Nat → Int64) × (Nat → Int64)) => (u.2.1 0 ≤ 14)) (fun u : (Nat → Int32) × (Nat → Nat) × (Nat → Nat → Int32) × (Nat → Nat → Int64) × (Nat → Int64) => [((n 0), .inr (11, [.int mthrown, .ref (n 1), .ref (n 2), .ref (n 3), .ref (n 4), .int (nI mtaped), .ref (n 5), .int (nI msize), .int (nI mat), .int (nI mfrom), .int mtoken, .int mvalue, .int mfaultKind, .int mfaultPlace, .ref (n 6), .ref (n 7), .ref (n 8), .ref (n 9), .ref (n 10), .ref (n 11), .ref (n 12), .int (nI (u.2.1 0)), .int (u.1 0), .int (u.1 1), .int (u.1 2), .ref (n 13), .ref (n 14), .ref (n 15), .int (u.1 3), .int (u.1 4), .int (u.1 5), .ref (n 16), .ref (n 17), .int mroundNow, .ref (n 18), .long msampleFor, .long msampleAll, .ref (n 19), .int maskWorst, .long moftenAll, .long moftenView, .long moftenOnes, .ref (n 20), .ref (n 21), .ref (n 22), .ref (n 23)])), ((n 1), .inl (k 0, 99, .inl fworld)), ((n 7), .inl (k 0, 12, .inl (u.2.2.1 4))), ((n 8), .inl (k 0, 12, .inl (u.2.2.1 5))), ((n 9), .inl (k 0, 4, .inl (u.2.2.1 6))), ((n 10), .inl (k 0, 12, .inl (u.2.2.1 0))), ((n 11), .inl (k 0, 14, .inl fmoreHead)), ((n 12), .inl (k 0, 14, .inl fmoreView)), ((n 13), .inl (k 0, 17, .inl (u.2.2.1 1))), ((n 14), .inl (k 0, 17, .inl (u.2.2.1 2))), ((n 15), .inl (k 0, 17, .inl (u.2.2.1 3)))])) := by
  refine MU.of (by decide) (Nat.le_of_ble_eq_true rfl) ?_
  intro p e s m below meth c ls A args Q S hr hlk hnm hQ hK hP hD hZ hA hS hl
  have hx := S.1
  have hb := S.2.1
  have hl : lv_has ls 5 [(0, .ref (n 0)), (1, .int p0), (2, .int p1)] := hl
  have hbfworld := okW_bd hkworld
  refine lv_aload_n hx hb dX11_rows_0 rfl (lv_at hl 0 rfl) ?_
  refine lv_iload_n hx hb dX11_rows_1 rfl (lv_at hl 2 rfl) ?_
  refine x_muVi (wr := []) (As := [.int p1]) S hK hP hD hZ hS hA hl mwX11_asksHour lkX11_330 (ctX11_asksHour l D k z n mthrown mtaped msize mat mfrom mtoken mvalue mfaultKind mfaultPlace mmoreMany mlawNow mwetSet moverAll mones mtwos mgone mroundNow msampleFor msampleAll maskWorst moftenAll moftenView moftenOnes fworld frowOf fplaceOf ffirstOf fhardNow fmoreHead fmoreView fonesAt ftwosAt fgoneAt p1 (by omega) (by omega) (by omega) (by omega) (by omega) (hkworld)) [0, 1, 2, 3, 4, 5, 6, 7, 8, 9, 10] [] rfl rfl (by decide) (by decide) (by decide) rfl rfl rfl rfl rfl ⟨Nat.le_of_ble_eq_true rfl, Nat.le_of_ble_eq_true rfl, Nat.le_of_ble_eq_true rfl⟩ dX11_rows_2 ⟨Nat.le_of_ble_eq_true rfl, Nat.le_of_ble_eq_true rfl⟩ (fun r_1 u_2 H locs hr_1 hP hD hS => ?_)
  have hP : va_P D vwCl [((n 0), .inr (11, [.int mthrown, .ref (n 1), .ref (n 2), .ref (n 3), .ref (n 4), .int (nI mtaped), .ref (n 5), .int (nI msize), .int (nI mat), .int (nI mfrom), .int mtoken, .int mvalue, .int mfaultKind, .int mfaultPlace, .ref (n 6), .ref (n 7), .ref (n 8), .ref (n 9), .ref (n 10), .ref (n 11), .ref (n 12), .int (nI (u_2.2.1 0)), .int (u_2.1 0), .int (u_2.1 1), .int (u_2.1 2), .ref (n 13), .ref (n 14), .ref (n 15), .int (u_2.1 3), .int (u_2.1 4), .int (u_2.1 5), .ref (n 16), .ref (n 17), .int mroundNow, .ref (n 18), .long msampleFor, .long msampleAll, .ref (n 19), .int maskWorst, .long moftenAll, .long moftenView, .long moftenOnes, .ref (n 20), .ref (n 21), .ref (n 22), .ref (n 23)])), ((n 1), .inl (k 0, 99, .inl fworld)), ((n 7), .inl (k 0, 12, .inl (u_2.2.2.1 4))), ((n 8), .inl (k 0, 12, .inl (u_2.2.2.1 5))), ((n 9), .inl (k 0, 4, .inl (u_2.2.2.1 6))), ((n 10), .inl (k 0, 12, .inl (u_2.2.2.1 0))), ((n 11), .inl (k 0, 14, .inl fmoreHead)), ((n 12), .inl (k 0, 14, .inl fmoreView)), ((n 13), .inl (k 0, 17, .inl (u_2.2.2.1 1))), ((n 14), .inl (k 0, 17, .inl (u_2.2.2.1 2))), ((n 15), .inl (k 0, 17, .inl (u_2.2.2.1 3)))] H := hP.sub [0, 1, 2, 3, 4, 5, 6, 7, 8, 9, 10] rfl
  have hD : va_D A [((n 0), .inr (11, [.int mthrown, .ref (n 1), .ref (n 2), .ref (n 3), .ref (n 4), .int (nI mtaped), .ref (n 5), .int (nI msize), .int (nI mat), .int (nI mfrom), .int mtoken, .int mvalue, .int mfaultKind, .int mfaultPlace, .ref (n 6), .ref (n 7), .ref (n 8), .ref (n 9), .ref (n 10), .ref (n 11), .ref (n 12), .int (nI (u_2.2.1 0)), .int (u_2.1 0), .int (u_2.1 1), .int (u_2.1 2), .ref (n 13), .ref (n 14), .ref (n 15), .int (u_2.1 3), .int (u_2.1 4), .int (u_2.1 5), .ref (n 16), .ref (n 17), .int mroundNow, .ref (n 18), .long msampleFor, .long msampleAll, .ref (n 19), .int maskWorst, .long moftenAll, .long moftenView, .long moftenOnes, .ref (n 20), .ref (n 21), .ref (n 22), .ref (n 23)])), ((n 1), .inl (k 0, 99, .inl fworld)), ((n 7), .inl (k 0, 12, .inl (u_2.2.2.1 4))), ((n 8), .inl (k 0, 12, .inl (u_2.2.2.1 5))), ((n 9), .inl (k 0, 4, .inl (u_2.2.2.1 6))), ((n 10), .inl (k 0, 12, .inl (u_2.2.2.1 0))), ((n 11), .inl (k 0, 14, .inl fmoreHead)), ((n 12), .inl (k 0, 14, .inl fmoreView)), ((n 13), .inl (k 0, 17, .inl (u_2.2.2.1 1))), ((n 14), .inl (k 0, 17, .inl (u_2.2.2.1 2))), ((n 15), .inl (k 0, 17, .inl (u_2.2.2.1 3)))] := hD.sub [0, 1, 2, 3, 4, 5, 6, 7, 8, 9, 10] (by decide) rfl
  obtain ⟨hp_3, hz_4, hg_5⟩ := hr_1
  refine lv_if_eq (tgt := 16) hx hb dX11_rows_5 (by decide) (fun c_6 => ?_) (fun c_6 => ?_)
  · skip
    refine lv_bipush (v := (-2)) hx hb dX11_rows_16 (by decide) ?_
    exact x_reti S hr hlk hQ hS ((fun i => ([(u_2.1 0), (u_2.1 1), (u_2.1 2), (u_2.1 3), (u_2.1 4), (u_2.1 5)] : List (Int32)).getD i 0), (fun i => ([u_2.2.1 0] : List (Nat)).getD i 0), (fun i => ([(u_2.2.2.1 0), (u_2.2.2.1 1), (u_2.2.2.1 2), (u_2.2.2.1 3), (u_2.2.2.1 4), (u_2.2.2.1 5), (u_2.2.2.1 6)] : List (Nat → Int32)).getD i (fun _ => 0)), (fun i => ([] : List (Nat → Int64)).getD i (fun _ => 0)), (fun i => ([] : List (Int64)).getD i 0)) (show u_2.2.1 0 ≤ 14 by omega) (x_B hP hD) dX11_rows_18
  · skip
    obtain ⟨n_7, rfl, hn_7⟩ := hp_3.resolve_left c_6
    refine lv_iload_n hx hb dX11_rows_8 rfl (lv_at hl 1 rfl) ?_
    refine lv_i2l (v := p0.toInt64) hx hb dX11_rows_9 rfl ?_
    refine x_roSi (As := [.long p0.toInt64]) S hK hP hD hZ (fun _ h => h) hA hS hA hl mwX11_isView lkX11_348 (ctX11_isView l D k z p0.toInt64 ) [] rfl (by decide) rfl rfl ⟨Nat.le_of_ble_eq_true rfl, Nat.le_of_ble_eq_true rfl, Nat.le_of_ble_eq_true rfl⟩ dX11_rows_10 ⟨Nat.le_of_ble_eq_true rfl, Nat.le_of_ble_eq_true rfl⟩ (fun r_8 H locs hr_8 hP hS => ?_)
    obtain rfl := hr_8
    refine lv_if_ne (tgt := 19) hx hb dX11_rows_13 (by decide) (fun c_10 => ?_) (fun c_10 => ?_)
    · skip
      have c_10 : 1 ≤ p0.toInt64 ∧ p0.toInt64 ≤ 2 := bo_1.mp c_10
      refine lv_iconst (v := 0) hx hb dX11_rows_19 (by decide) ?_
      refine lv_istore_n (lv' := [(3, .int 0), (0, .ref (n 0)), (1, .int p0), (2, .int (nI n_7))]) hx hb dX11_rows_20 rfl hl (by decide) rfl (fun ls hl => ?_)
      refine lv_iconst (v := 0) hx hb dX11_rows_21 (by decide) ?_
      refine lv_istore (lv' := [(4, .int 0), (3, .int 0), (0, .ref (n 0)), (1, .int p0), (2, .int (nI n_7))]) hx hb dX11_rows_22 hl (by decide) rfl (fun ls hl => ?_)
      have lp_30 : ∀ (nn j_28 : Nat) (x_29 : Int32) (H : Heap) (locs : List Loc) (ls : Array Slot), j_28 ≤ wn fworld 3 → wn fworld 3 - j_28 < nn → va_P D vwCl [((n 0), .inr (11, [.int mthrown, .ref (n 1), .ref (n 2), .ref (n 3), .ref (n 4), .int (nI mtaped), .ref (n 5), .int (nI msize), .int (nI mat), .int (nI mfrom), .int mtoken, .int mvalue, .int mfaultKind, .int mfaultPlace, .ref (n 6), .ref (n 7), .ref (n 8), .ref (n 9), .ref (n 10), .ref (n 11), .ref (n 12), .int (nI (u_2.2.1 0)), .int (u_2.1 0), .int (u_2.1 1), .int (u_2.1 2), .ref (n 13), .ref (n 14), .ref (n 15), .int (u_2.1 3), .int (u_2.1 4), .int (u_2.1 5), .ref (n 16), .ref (n 17), .int mroundNow, .ref (n 18), .long msampleFor, .long msampleAll, .ref (n 19), .int maskWorst, .long moftenAll, .long moftenView, .long moftenOnes, .ref (n 20), .ref (n 21), .ref (n 22), .ref (n 23)])), ((n 1), .inl (k 0, 99, .inl fworld)), ((n 7), .inl (k 0, 12, .inl (u_2.2.2.1 4))), ((n 8), .inl (k 0, 12, .inl (u_2.2.2.1 5))), ((n 9), .inl (k 0, 4, .inl (u_2.2.2.1 6))), ((n 10), .inl (k 0, 12, .inl (u_2.2.2.1 0))), ((n 11), .inl (k 0, 14, .inl fmoreHead)), ((n 12), .inl (k 0, 14, .inl fmoreView)), ((n 13), .inl (k 0, 17, .inl (u_2.2.2.1 1))), ((n 14), .inl (k 0, 17, .inl (u_2.2.2.1 2))), ((n 15), .inl (k 0, 17, .inl (u_2.2.2.1 3)))] H → va_D A [((n 0), .inr (11, [.int mthrown, .ref (n 1), .ref (n 2), .ref (n 3), .ref (n 4), .int (nI mtaped), .ref (n 5), .int (nI msize), .int (nI mat), .int (nI mfrom), .int mtoken, .int mvalue, .int mfaultKind, .int mfaultPlace, .ref (n 6), .ref (n 7), .ref (n 8), .ref (n 9), .ref (n 10), .ref (n 11), .ref (n 12), .int (nI (u_2.2.1 0)), .int (u_2.1 0), .int (u_2.1 1), .int (u_2.1 2), .ref (n 13), .ref (n 14), .ref (n 15), .int (u_2.1 3), .int (u_2.1 4), .int (u_2.1 5), .ref (n 16), .ref (n 17), .int mroundNow, .ref (n 18), .long msampleFor, .long msampleAll, .ref (n 19), .int maskWorst, .long moftenAll, .long moftenView, .long moftenOnes, .ref (n 20), .ref (n 21), .ref (n 22), .ref (n 23)])), ((n 1), .inl (k 0, 99, .inl fworld)), ((n 7), .inl (k 0, 12, .inl (u_2.2.2.1 4))), ((n 8), .inl (k 0, 12, .inl (u_2.2.2.1 5))), ((n 9), .inl (k 0, 4, .inl (u_2.2.2.1 6))), ((n 10), .inl (k 0, 12, .inl (u_2.2.2.1 0))), ((n 11), .inl (k 0, 14, .inl fmoreHead)), ((n 12), .inl (k 0, 14, .inl fmoreView)), ((n 13), .inl (k 0, 17, .inl (u_2.2.2.1 1))), ((n 14), .inl (k 0, 17, .inl (u_2.2.2.1 2))), ((n 15), .inl (k 0, 17, .inl (u_2.2.2.1 3)))] → va_S A s.heap H locs → lv_has ls 5 [(4, .int (nI j_28)), (3, .int x_29), (0, .ref (n 0)), (1, .int p0), (2, .int (nI n_7))] → W p l e (Rm 9 0 0) s m args below meth c H locs 0 0 Q (F0 m 24 ls []) := by
        intro nn
        induction nn with
        | zero => intro j_28 x_29 H locs ls hjj_28 hnj_28; exact absurd hnj_28 (by omega)
        | succ nn ihj_28 =>
          intro j_28 x_29 H locs ls hjj_28 hnj_28 hP hD hS hl
          refine lv_iload hx hb dX11_rows_24 (lv_at hl 0 rfl) ?_
          refine lv_aload_n hx hb dX11_rows_26 rfl (lv_at hl 2 rfl) ?_
          refine x_get S hK hP 0 rfl cfX11 1 lkX11_9 (by decide) rfl dX11_rows_27 ?_
          refine lv_iconst (v := 3) hx hb dX11_rows_30 (by decide) ?_
          refine x_iald S hK hP 1 rfl (vp_lit (by decide)) dX11_rows_31 ?_
          refine x_is (nI (wn fworld 3)) ((cl_at (f := fworld) (a := 3) (by decide) (by omega)).trans (okW_at hkworld (i := 3) (by omega))) ?_
          refine lv_icmp_ge (tgt := 63) hx hb dX11_rows_32 (by decide) (fun c_31 => ?_) (fun c_31 => ?_)
          · skip
            have c_31 : wn fworld 3 ≤ j_28 := (ni_le rfl rfl (by omega) (by omega)).mp c_31
            refine lv_iload_n hx hb dX11_rows_63 rfl (lv_at hl 1 rfl) ?_
            exact x_reti S hr hlk hQ hS ((fun i => ([(u_2.1 0), (u_2.1 1), (u_2.1 2), (u_2.1 3), (u_2.1 4), (u_2.1 5)] : List (Int32)).getD i 0), (fun i => ([u_2.2.1 0] : List (Nat)).getD i 0), (fun i => ([(u_2.2.2.1 0), (u_2.2.2.1 1), (u_2.2.2.1 2), (u_2.2.2.1 3), (u_2.2.2.1 4), (u_2.2.2.1 5), (u_2.2.2.1 6)] : List (Nat → Int32)).getD i (fun _ => 0)), (fun i => ([] : List (Nat → Int64)).getD i (fun _ => 0)), (fun i => ([] : List (Int64)).getD i 0)) (show u_2.2.1 0 ≤ 14 by omega) (x_B hP hD) dX11_rows_64
          · skip
            have c_31 : ¬ wn fworld 3 ≤ j_28 := fun q => c_31 ((ni_le rfl rfl (by omega) (by omega)).mpr q)
            refine lv_iload_n hx hb dX11_rows_35 rfl (lv_at hl 1 rfl) ?_
            refine lv_aload_n hx hb dX11_rows_36 rfl (lv_at hl 2 rfl) ?_
            refine lv_iload hx hb dX11_rows_37 (lv_at hl 0 rfl) ?_
            refine lv_iload_n hx hb dX11_rows_39 rfl (lv_at hl 4 rfl) ?_
            refine x_roVi (As := [.int (nI j_28), .int (nI n_7)]) S hK hP hD hZ (fun _ h => h) hA hS hA hl mwX11_mindOf lkX11_364 (ctX11_mindOf l D k z n mthrown mtaped msize mat mfrom mtoken mvalue mfaultKind mfaultPlace (u_2.2.1 0) (u_2.1 0) (u_2.1 1) (u_2.1 2) (u_2.1 3) (u_2.1 4) (u_2.1 5) mroundNow msampleFor msampleAll maskWorst moftenAll moftenView moftenOnes fworld (u_2.2.2.1 6) (u_2.2.2.1 1) (u_2.2.2.1 2) j_28 n_7 (by omega) (by omega) (by omega) (by omega) (by omega) (hkworld) (by omega) (by omega)) [0, 1, 4, 8, 9] rfl (by decide) rfl rfl rfl rfl rfl ⟨Nat.le_of_ble_eq_true rfl, Nat.le_of_ble_eq_true rfl, Nat.le_of_ble_eq_true rfl⟩ dX11_rows_40 ⟨Nat.le_of_ble_eq_true rfl, Nat.le_of_ble_eq_true rfl⟩ (fun r_32 H locs hr_32 hP hS => ?_)
            refine lv_iload_n hx hb dX11_rows_43 rfl (lv_at hl 3 rfl) ?_
            refine lv_icmp_ne (tgt := 54) hx hb dX11_rows_44 (by decide) (fun c_34 => ?_) (fun c_34 => ?_)
            · skip
              refine lv_iconst (v := 0) hx hb dX11_rows_54 (by decide) ?_
              refine lv_ior hx hb dX11_rows_55 ?_
              refine lv_topi (fun v_35 ev_35 => ?_)
              refine lv_istore_n (lv' := [(3, .int v_35), (4, .int (nI j_28)), (0, .ref (n 0)), (1, .int p0), (2, .int (nI n_7))]) hx hb dX11_rows_56 rfl hl (by decide) rfl (fun ls hl => ?_)
              refine lv_iinc (v := (nI (j_28 + 1))) (lv' := [(4, .int (nI (j_28 + 1))), (3, .int v_35), (0, .ref (n 0)), (1, .int p0), (2, .int (nI n_7))]) hx hb dX11_rows_57 hl (k := 1) rfl (ni_inc _) (by decide) rfl (fun ls hl => ?_)
              refine lv_goto (tgt := 24) hx hb dX11_rows_60 (by decide) ?_
              exact ihj_28 (j_28 + 1) v_35 _ _ _ (by omega) (by omega) hP hD hS (lv_sub hl [0, 1, 2, 3, 4] rfl)
            · skip
              refine lv_iconst (v := 1) hx hb dX11_rows_47 (by decide) ?_
              refine lv_iload hx hb dX11_rows_48 (lv_at hl 0 rfl) ?_
              refine lv_ishl hx hb dX11_rows_50 ?_
              refine lv_topi (fun v_36 ev_36 => ?_)
              refine lv_goto (tgt := 55) hx hb dX11_rows_51 (by decide) ?_
              refine lv_ior hx hb dX11_rows_55 ?_
              refine lv_topi (fun v_37 ev_37 => ?_)
              refine lv_istore_n (lv' := [(3, .int v_37), (4, .int (nI j_28)), (0, .ref (n 0)), (1, .int p0), (2, .int (nI n_7))]) hx hb dX11_rows_56 rfl hl (by decide) rfl (fun ls hl => ?_)
              refine lv_iinc (v := (nI (j_28 + 1))) (lv' := [(4, .int (nI (j_28 + 1))), (3, .int v_37), (0, .ref (n 0)), (1, .int p0), (2, .int (nI n_7))]) hx hb dX11_rows_57 hl (k := 1) rfl (ni_inc _) (by decide) rfl (fun ls hl => ?_)
              refine lv_goto (tgt := 24) hx hb dX11_rows_60 (by decide) ?_
              exact ihj_28 (j_28 + 1) v_37 _ _ _ (by omega) (by omega) hP hD hS (lv_sub hl [0, 1, 2, 3, 4] rfl)
      exact lp_30 (wn fworld 3 + 1) 0 0 _ _ _ (by omega) (by omega) hP hD hS (lv_sub hl [0, 1, 2, 3, 4] rfl)
    · skip
      have c_10 : ¬ (1 ≤ p0.toInt64 ∧ p0.toInt64 ≤ 2) := bo_0.mp c_10
      refine lv_bipush (v := (-2)) hx hb dX11_rows_16 (by decide) ?_
      exact x_reti S hr hlk hQ hS ((fun i => ([(u_2.1 0), (u_2.1 1), (u_2.1 2), (u_2.1 3), (u_2.1 4), (u_2.1 5)] : List (Int32)).getD i 0), (fun i => ([u_2.2.1 0] : List (Nat)).getD i 0), (fun i => ([(u_2.2.2.1 0), (u_2.2.2.1 1), (u_2.2.2.1 2), (u_2.2.2.1 3), (u_2.2.2.1 4), (u_2.2.2.1 5), (u_2.2.2.1 6)] : List (Nat → Int32)).getD i (fun _ => 0)), (fun i => ([] : List (Nat → Int64)).getD i (fun _ => 0)), (fun i => ([] : List (Int64)).getD i 0)) (show u_2.2.1 0 ≤ 14 by omega) (x_B hP hD) dX11_rows_18

set_option maxHeartbeats 4000000 in
set_option maxRecDepth 100000 in
theorem ctX11_split (l : Launch) (D : va_G) (k : Nat → ClassId) (z : Nat → Nat) (n : Nat → Nat) (mthrown : Int32) (mtaped : Nat) (msize : Nat) (mat : Nat) (mfrom : Nat) (mtoken : Int32) (mvalue : Int32) (mfaultKind : Int32) (mfaultPlace : Int32) (mmoreMany : Nat) (mlawNow : Int32) (mwetSet : Int32) (moverAll : Int32) (mones : Int32) (mtwos : Int32) (mgone : Int32) (mroundNow : Int32) (msampleFor : Int64) (msampleAll : Int64) (maskWorst : Int32) (moftenAll : Int64) (moftenView : Int64) (moftenOnes : Int64) (fworld : Nat → Int32) (frowOf : Nat → Int32) (fplaceOf : Nat → Int32) (ffirstOf : Nat → Int32) (fhardNow : Nat → Int32) (fmoreHead : Nat → Int32) (fmoreView : Nat → Int32) (fonesAt : Nat → Int32) (ftwosAt : Nat → Int32) (fgoneAt : Nat → Int32) (p0 : Int32) (hmtaped : mtaped ≤ 600) (hmsize : msize ≤ 600) (hmat : mat ≤ 600) (hmfrom : mfrom ≤ 600) (hmmoreMany : mmoreMany ≤ 14) (hkworld : okW fworld) : MU l yX11_split cX11_split 2 (some .int) 9 D k z [.ref (n 0), .int p0] [((n 0), .inr (11, [.int mthrown, .ref (n 1), .ref (n 2), .ref (n 3), .ref (n 4), .int (nI mtaped), .ref (n 5), .int (nI msize), .int (nI mat), .int (nI mfrom), .int mtoken, .int mvalue, .int mfaultKind, .int mfaultPlace, .ref (n 6), .ref (n 7), .ref (n 8), .ref (n 9), .ref (n 10), .ref (n 11), .ref (n 12), .int (nI mmoreMany), .int mlawNow, .int mwetSet, .int moverAll, .ref (n 13), .ref (n 14), .ref (n 15), .int mones, .int mtwos, .int mgone, .ref (n 16), .ref (n 17), .int mroundNow, .ref (n 18), .long msampleFor, .long msampleAll, .ref (n 19), .int maskWorst, .long moftenAll, .long moftenView, .long moftenOnes, .ref (n 20), .ref (n 21), .ref (n 22), .ref (n 23)])), ((n 1), .inl (k 0, 99, .inl fworld)), ((n 7), .inl (k 0, 12, .inl frowOf)), ((n 8), .inl (k 0, 12, .inl fplaceOf)), ((n 9), .inl (k 0, 4, .inl ffirstOf)), ((n 10), .inl (k 0, 12, .inl fhardNow)), ((n 11), .inl (k 0, 14, .inl fmoreHead)), ((n 12), .inl (k 0, 14, .inl fmoreView)), ((n 13), .inl (k 0, 17, .inl fonesAt)), ((n 14), .inl (k 0, 17, .inl ftwosAt)), ((n 15), .inl (k 0, 17, .inl fgoneAt))] 0 0 (Ui D (fun (r : Int32) (u : (Nat → Int32) × (Nat → Nat) × (Nat → Nat → Int32) × (Nat → Nat → Int64) × (Nat → Int64)) => (u.2.1 0 ≤ 14)) (fun u : (Nat → Int32) × (Nat → Nat) × (Nat → Nat → Int32) × (Nat → Nat → Int64) × (Nat → Int64) => [((n 0), .inr (11, [.int mthrown, .ref (n 1), .ref (n 2), .ref (n 3), .ref (n 4), .int (nI mtaped), .ref (n 5), .int (nI msize), .int (nI mat), .int (nI mfrom), .int mtoken, .int mvalue, .int mfaultKind, .int mfaultPlace, .ref (n 6), .ref (n 7), .ref (n 8), .ref (n 9), .ref (n 10), .ref (n 11), .ref (n 12), .int (nI (u.2.1 0)), .int (u.1 0), .int (u.1 1), .int (u.1 2), .ref (n 13), .ref (n 14), .ref (n 15), .int (u.1 3), .int (u.1 4), .int (u.1 5), .ref (n 16), .ref (n 17), .int mroundNow, .ref (n 18), .long msampleFor, .long msampleAll, .ref (n 19), .int maskWorst, .long moftenAll, .long moftenView, .long moftenOnes, .ref (n 20), .ref (n 21), .ref (n 22), .ref (n 23)])), ((n 1), .inl (k 0, 99, .inl fworld)), ((n 7), .inl (k 0, 12, .inl (u.2.2.1 4))), ((n 8), .inl (k 0, 12, .inl (u.2.2.1 5))), ((n 9), .inl (k 0, 4, .inl (u.2.2.1 6))), ((n 10), .inl (k 0, 12, .inl (u.2.2.1 0))), ((n 11), .inl (k 0, 14, .inl fmoreHead)), ((n 12), .inl (k 0, 14, .inl fmoreView)), ((n 13), .inl (k 0, 17, .inl (u.2.2.1 1))), ((n 14), .inl (k 0, 17, .inl (u.2.2.1 2))), ((n 15), .inl (k 0, 17, .inl (u.2.2.1 3)))])) := by
  refine MU.of (by decide) (Nat.le_of_ble_eq_true rfl) ?_
  intro p e s m below meth c ls A args Q S hr hlk hnm hQ hK hP hD hZ hA hS hl
  have hx := S.1
  have hb := S.2.1
  have hl : lv_has ls 2 [(0, .ref (n 0)), (1, .int p0)] := hl
  have hbfworld := okW_bd hkworld
  refine lv_aload_n hx hb dX11_split_0 rfl (lv_at hl 0 rfl) ?_
  refine lv_iload_n hx hb dX11_split_1 rfl (lv_at hl 1 rfl) ?_
  refine x_muVi (wr := []) (As := [.int p0]) S hK hP hD hZ hS hA hl mwX11_asksHour lkX11_330 (ctX11_asksHour l D k z n mthrown mtaped msize mat mfrom mtoken mvalue mfaultKind mfaultPlace mmoreMany mlawNow mwetSet moverAll mones mtwos mgone mroundNow msampleFor msampleAll maskWorst moftenAll moftenView moftenOnes fworld frowOf fplaceOf ffirstOf fhardNow fmoreHead fmoreView fonesAt ftwosAt fgoneAt p0 (by omega) (by omega) (by omega) (by omega) (by omega) (hkworld)) [0, 1, 2, 3, 4, 5, 6, 7, 8, 9, 10] [] rfl rfl (by decide) (by decide) (by decide) rfl rfl rfl rfl rfl ⟨Nat.le_of_ble_eq_true rfl, Nat.le_of_ble_eq_true rfl, Nat.le_of_ble_eq_true rfl⟩ dX11_split_2 ⟨Nat.le_of_ble_eq_true rfl, Nat.le_of_ble_eq_true rfl⟩ (fun r_1 u_2 H locs hr_1 hP hD hS => ?_)
  have hP : va_P D vwCl [((n 0), .inr (11, [.int mthrown, .ref (n 1), .ref (n 2), .ref (n 3), .ref (n 4), .int (nI mtaped), .ref (n 5), .int (nI msize), .int (nI mat), .int (nI mfrom), .int mtoken, .int mvalue, .int mfaultKind, .int mfaultPlace, .ref (n 6), .ref (n 7), .ref (n 8), .ref (n 9), .ref (n 10), .ref (n 11), .ref (n 12), .int (nI (u_2.2.1 0)), .int (u_2.1 0), .int (u_2.1 1), .int (u_2.1 2), .ref (n 13), .ref (n 14), .ref (n 15), .int (u_2.1 3), .int (u_2.1 4), .int (u_2.1 5), .ref (n 16), .ref (n 17), .int mroundNow, .ref (n 18), .long msampleFor, .long msampleAll, .ref (n 19), .int maskWorst, .long moftenAll, .long moftenView, .long moftenOnes, .ref (n 20), .ref (n 21), .ref (n 22), .ref (n 23)])), ((n 1), .inl (k 0, 99, .inl fworld)), ((n 7), .inl (k 0, 12, .inl (u_2.2.2.1 4))), ((n 8), .inl (k 0, 12, .inl (u_2.2.2.1 5))), ((n 9), .inl (k 0, 4, .inl (u_2.2.2.1 6))), ((n 10), .inl (k 0, 12, .inl (u_2.2.2.1 0))), ((n 11), .inl (k 0, 14, .inl fmoreHead)), ((n 12), .inl (k 0, 14, .inl fmoreView)), ((n 13), .inl (k 0, 17, .inl (u_2.2.2.1 1))), ((n 14), .inl (k 0, 17, .inl (u_2.2.2.1 2))), ((n 15), .inl (k 0, 17, .inl (u_2.2.2.1 3)))] H := hP.sub [0, 1, 2, 3, 4, 5, 6, 7, 8, 9, 10] rfl
  have hD : va_D A [((n 0), .inr (11, [.int mthrown, .ref (n 1), .ref (n 2), .ref (n 3), .ref (n 4), .int (nI mtaped), .ref (n 5), .int (nI msize), .int (nI mat), .int (nI mfrom), .int mtoken, .int mvalue, .int mfaultKind, .int mfaultPlace, .ref (n 6), .ref (n 7), .ref (n 8), .ref (n 9), .ref (n 10), .ref (n 11), .ref (n 12), .int (nI (u_2.2.1 0)), .int (u_2.1 0), .int (u_2.1 1), .int (u_2.1 2), .ref (n 13), .ref (n 14), .ref (n 15), .int (u_2.1 3), .int (u_2.1 4), .int (u_2.1 5), .ref (n 16), .ref (n 17), .int mroundNow, .ref (n 18), .long msampleFor, .long msampleAll, .ref (n 19), .int maskWorst, .long moftenAll, .long moftenView, .long moftenOnes, .ref (n 20), .ref (n 21), .ref (n 22), .ref (n 23)])), ((n 1), .inl (k 0, 99, .inl fworld)), ((n 7), .inl (k 0, 12, .inl (u_2.2.2.1 4))), ((n 8), .inl (k 0, 12, .inl (u_2.2.2.1 5))), ((n 9), .inl (k 0, 4, .inl (u_2.2.2.1 6))), ((n 10), .inl (k 0, 12, .inl (u_2.2.2.1 0))), ((n 11), .inl (k 0, 14, .inl fmoreHead)), ((n 12), .inl (k 0, 14, .inl fmoreView)), ((n 13), .inl (k 0, 17, .inl (u_2.2.2.1 1))), ((n 14), .inl (k 0, 17, .inl (u_2.2.2.1 2))), ((n 15), .inl (k 0, 17, .inl (u_2.2.2.1 3)))] := hD.sub [0, 1, 2, 3, 4, 5, 6, 7, 8, 9, 10] (by decide) rfl
  obtain ⟨hp_3, hz_4, hg_5⟩ := hr_1
  refine lv_if_eq (tgt := 33) hx hb dX11_split_5 (by decide) (fun c_6 => ?_) (fun c_6 => ?_)
  · skip
    refine lv_bipush (v := (-2)) hx hb dX11_split_33 (by decide) ?_
    exact x_reti S hr hlk hQ hS ((fun i => ([(u_2.1 0), (u_2.1 1), (u_2.1 2), (u_2.1 3), (u_2.1 4), (u_2.1 5)] : List (Int32)).getD i 0), (fun i => ([u_2.2.1 0] : List (Nat)).getD i 0), (fun i => ([(u_2.2.2.1 0), (u_2.2.2.1 1), (u_2.2.2.1 2), (u_2.2.2.1 3), (u_2.2.2.1 4), (u_2.2.2.1 5), (u_2.2.2.1 6)] : List (Nat → Int32)).getD i (fun _ => 0)), (fun i => ([] : List (Nat → Int64)).getD i (fun _ => 0)), (fun i => ([] : List (Int64)).getD i 0)) (show u_2.2.1 0 ≤ 14 by omega) (x_B hP hD) dX11_split_35
  · skip
    obtain ⟨n_7, rfl, hn_7⟩ := hp_3.resolve_left c_6
    refine lv_aload_n hx hb dX11_split_8 rfl (lv_at hl 0 rfl) ?_
    refine x_get S hK hP 0 rfl cfX11 25 lkX11_52 (by decide) rfl dX11_split_9 ?_
    refine lv_iload_n hx hb dX11_split_12 rfl (lv_at hl 1 rfl) ?_
    refine x_iald S hK hP 8 rfl (vp_in_nI (by omega) (by decide)) dX11_split_13 ?_
    refine lv_topi (fun v_8 ev_8 => ?_)
    refine x_roSi (As := [.int v_8]) S hK hP hD hZ (fun _ h => h) hA hS hA hl mwX11_bits lkX11_296 (ctX11_bits l D k z v_8 ) [] rfl (by decide) rfl rfl ⟨Nat.le_of_ble_eq_true rfl, Nat.le_of_ble_eq_true rfl, Nat.le_of_ble_eq_true rfl⟩ dX11_split_14 ⟨Nat.le_of_ble_eq_true rfl, Nat.le_of_ble_eq_true rfl⟩ (fun r_9 H locs hr_9 hP hS => ?_)
    obtain ⟨rfl, hg_11⟩ := hr_9
    refine lv_aload_n hx hb dX11_split_17 rfl (lv_at hl 0 rfl) ?_
    refine x_get S hK hP 0 rfl cfX11 26 lkX11_55 (by decide) rfl dX11_split_18 ?_
    refine lv_iload_n hx hb dX11_split_21 rfl (lv_at hl 1 rfl) ?_
    refine x_iald S hK hP 9 rfl (vp_in_nI (by omega) (by decide)) dX11_split_22 ?_
    refine lv_topi (fun v_12 ev_12 => ?_)
    refine x_roSi (As := [.int v_12]) S hK hP hD hZ (fun _ h => h) hA hS hA hl mwX11_bits lkX11_296 (ctX11_bits l D k z v_12 ) [] rfl (by decide) rfl rfl ⟨Nat.le_of_ble_eq_true rfl, Nat.le_of_ble_eq_true rfl, Nat.le_of_ble_eq_true rfl⟩ dX11_split_23 ⟨Nat.le_of_ble_eq_true rfl, Nat.le_of_ble_eq_true rfl⟩ (fun r_13 H locs hr_13 hP hS => ?_)
    obtain ⟨rfl, hg_15⟩ := hr_13
    refine lv_isub hx hb dX11_split_26 ?_
    refine lv_topi (fun v_16 ev_16 => ?_)
    refine x_mabs S hl lkX11_367 (Nat.le_of_ble_eq_true rfl) (Nat.le_of_ble_eq_true rfl) ⟨Nat.le_of_ble_eq_true rfl, Nat.le_of_ble_eq_true rfl⟩ dX11_split_27 (fun v_17 ev_17 => ?_)
    refine lv_goto (tgt := 35) hx hb dX11_split_30 (by decide) ?_
    exact x_reti S hr hlk hQ hS ((fun i => ([(u_2.1 0), (u_2.1 1), (u_2.1 2), (u_2.1 3), (u_2.1 4), (u_2.1 5)] : List (Int32)).getD i 0), (fun i => ([u_2.2.1 0] : List (Nat)).getD i 0), (fun i => ([(u_2.2.2.1 0), (u_2.2.2.1 1), (u_2.2.2.1 2), (u_2.2.2.1 3), (u_2.2.2.1 4), (u_2.2.2.1 5), (u_2.2.2.1 6)] : List (Nat → Int32)).getD i (fun _ => 0)), (fun i => ([] : List (Nat → Int64)).getD i (fun _ => 0)), (fun i => ([] : List (Int64)).getD i 0)) (show u_2.2.1 0 ≤ 14 by omega) (x_B hP hD) dX11_split_35

set_option maxHeartbeats 4000000 in
set_option maxRecDepth 100000 in
theorem ctX11_main (l : Launch) (D : va_G) (k : Nat → ClassId) (z : Nat → Nat) (n : Nat → Nat) (mthrown : Int32) (mtaped : Nat) (msize : Nat) (mat : Nat) (mfrom : Nat) (mtoken : Int32) (mvalue : Int32) (mfaultKind : Int32) (mfaultPlace : Int32) (mmoreMany : Nat) (mlawNow : Int32) (mwetSet : Int32) (moverAll : Int32) (mones : Int32) (mtwos : Int32) (mgone : Int32) (mroundNow : Int32) (msampleFor : Int64) (msampleAll : Int64) (maskWorst : Int32) (moftenAll : Int64) (moftenView : Int64) (moftenOnes : Int64) (fworld : Nat → Int32) (frowOf : Nat → Int32) (fplaceOf : Nat → Int32) (ffirstOf : Nat → Int32) (fhardNow : Nat → Int32) (fmoreHead : Nat → Int32) (fmoreView : Nat → Int32) (fonesAt : Nat → Int32) (ftwosAt : Nat → Int32) (fgoneAt : Nat → Int32) (p0 : Int32) (hmtaped : mtaped ≤ 600) (hmsize : msize ≤ 600) (hmat : mat ≤ 600) (hmfrom : mfrom ≤ 600) (hmmoreMany : mmoreMany ≤ 14) (hkworld : okW fworld) : MU l yX11_main cX11_main 3 (some .int) 9 D k z [.ref (n 0), .int p0] [((n 0), .inr (11, [.int mthrown, .ref (n 1), .ref (n 2), .ref (n 3), .ref (n 4), .int (nI mtaped), .ref (n 5), .int (nI msize), .int (nI mat), .int (nI mfrom), .int mtoken, .int mvalue, .int mfaultKind, .int mfaultPlace, .ref (n 6), .ref (n 7), .ref (n 8), .ref (n 9), .ref (n 10), .ref (n 11), .ref (n 12), .int (nI mmoreMany), .int mlawNow, .int mwetSet, .int moverAll, .ref (n 13), .ref (n 14), .ref (n 15), .int mones, .int mtwos, .int mgone, .ref (n 16), .ref (n 17), .int mroundNow, .ref (n 18), .long msampleFor, .long msampleAll, .ref (n 19), .int maskWorst, .long moftenAll, .long moftenView, .long moftenOnes, .ref (n 20), .ref (n 21), .ref (n 22), .ref (n 23)])), ((n 1), .inl (k 0, 99, .inl fworld)), ((n 7), .inl (k 0, 12, .inl frowOf)), ((n 8), .inl (k 0, 12, .inl fplaceOf)), ((n 9), .inl (k 0, 4, .inl ffirstOf)), ((n 10), .inl (k 0, 12, .inl fhardNow)), ((n 11), .inl (k 0, 14, .inl fmoreHead)), ((n 12), .inl (k 0, 14, .inl fmoreView)), ((n 13), .inl (k 0, 17, .inl fonesAt)), ((n 14), .inl (k 0, 17, .inl ftwosAt)), ((n 15), .inl (k 0, 17, .inl fgoneAt))] 0 0 (Ui D (fun (r : Int32) (u : (Nat → Int32) × (Nat → Nat) × (Nat → Nat → Int32) × (Nat → Nat → Int64) × (Nat → Int64)) => (u.2.1 0 ≤ 14)) (fun u : (Nat → Int32) × (Nat → Nat) × (Nat → Nat → Int32) × (Nat → Nat → Int64) × (Nat → Int64) => [((n 0), .inr (11, [.int mthrown, .ref (n 1), .ref (n 2), .ref (n 3), .ref (n 4), .int (nI mtaped), .ref (n 5), .int (nI msize), .int (nI mat), .int (nI mfrom), .int mtoken, .int mvalue, .int mfaultKind, .int mfaultPlace, .ref (n 6), .ref (n 7), .ref (n 8), .ref (n 9), .ref (n 10), .ref (n 11), .ref (n 12), .int (nI (u.2.1 0)), .int (u.1 0), .int (u.1 1), .int (u.1 2), .ref (n 13), .ref (n 14), .ref (n 15), .int (u.1 3), .int (u.1 4), .int (u.1 5), .ref (n 16), .ref (n 17), .int mroundNow, .ref (n 18), .long msampleFor, .long msampleAll, .ref (n 19), .int maskWorst, .long moftenAll, .long moftenView, .long moftenOnes, .ref (n 20), .ref (n 21), .ref (n 22), .ref (n 23)])), ((n 1), .inl (k 0, 99, .inl fworld)), ((n 7), .inl (k 0, 12, .inl (u.2.2.1 4))), ((n 8), .inl (k 0, 12, .inl (u.2.2.1 5))), ((n 9), .inl (k 0, 4, .inl (u.2.2.1 6))), ((n 10), .inl (k 0, 12, .inl (u.2.2.1 0))), ((n 11), .inl (k 0, 14, .inl fmoreHead)), ((n 12), .inl (k 0, 14, .inl fmoreView)), ((n 13), .inl (k 0, 17, .inl (u.2.2.1 1))), ((n 14), .inl (k 0, 17, .inl (u.2.2.1 2))), ((n 15), .inl (k 0, 17, .inl (u.2.2.1 3)))])) := by
  refine MU.of (by decide) (Nat.le_of_ble_eq_true rfl) ?_
  intro p e s m below meth c ls A args Q S hr hlk hnm hQ hK hP hD hZ hA hS hl
  have hx := S.1
  have hb := S.2.1
  have hl : lv_has ls 3 [(0, .ref (n 0)), (1, .int p0)] := hl
  have hbfworld := okW_bd hkworld
  refine lv_aload_n hx hb dX11_main_0 rfl (lv_at hl 0 rfl) ?_
  refine lv_iload_n hx hb dX11_main_1 rfl (lv_at hl 1 rfl) ?_
  refine x_muVi (wr := []) (As := [.int p0]) S hK hP hD hZ hS hA hl mwX11_asksHour lkX11_330 (ctX11_asksHour l D k z n mthrown mtaped msize mat mfrom mtoken mvalue mfaultKind mfaultPlace mmoreMany mlawNow mwetSet moverAll mones mtwos mgone mroundNow msampleFor msampleAll maskWorst moftenAll moftenView moftenOnes fworld frowOf fplaceOf ffirstOf fhardNow fmoreHead fmoreView fonesAt ftwosAt fgoneAt p0 (by omega) (by omega) (by omega) (by omega) (by omega) (hkworld)) [0, 1, 2, 3, 4, 5, 6, 7, 8, 9, 10] [] rfl rfl (by decide) (by decide) (by decide) rfl rfl rfl rfl rfl ⟨Nat.le_of_ble_eq_true rfl, Nat.le_of_ble_eq_true rfl, Nat.le_of_ble_eq_true rfl⟩ dX11_main_2 ⟨Nat.le_of_ble_eq_true rfl, Nat.le_of_ble_eq_true rfl⟩ (fun r_1 u_2 H locs hr_1 hP hD hS => ?_)
  have hP : va_P D vwCl [((n 0), .inr (11, [.int mthrown, .ref (n 1), .ref (n 2), .ref (n 3), .ref (n 4), .int (nI mtaped), .ref (n 5), .int (nI msize), .int (nI mat), .int (nI mfrom), .int mtoken, .int mvalue, .int mfaultKind, .int mfaultPlace, .ref (n 6), .ref (n 7), .ref (n 8), .ref (n 9), .ref (n 10), .ref (n 11), .ref (n 12), .int (nI (u_2.2.1 0)), .int (u_2.1 0), .int (u_2.1 1), .int (u_2.1 2), .ref (n 13), .ref (n 14), .ref (n 15), .int (u_2.1 3), .int (u_2.1 4), .int (u_2.1 5), .ref (n 16), .ref (n 17), .int mroundNow, .ref (n 18), .long msampleFor, .long msampleAll, .ref (n 19), .int maskWorst, .long moftenAll, .long moftenView, .long moftenOnes, .ref (n 20), .ref (n 21), .ref (n 22), .ref (n 23)])), ((n 1), .inl (k 0, 99, .inl fworld)), ((n 7), .inl (k 0, 12, .inl (u_2.2.2.1 4))), ((n 8), .inl (k 0, 12, .inl (u_2.2.2.1 5))), ((n 9), .inl (k 0, 4, .inl (u_2.2.2.1 6))), ((n 10), .inl (k 0, 12, .inl (u_2.2.2.1 0))), ((n 11), .inl (k 0, 14, .inl fmoreHead)), ((n 12), .inl (k 0, 14, .inl fmoreView)), ((n 13), .inl (k 0, 17, .inl (u_2.2.2.1 1))), ((n 14), .inl (k 0, 17, .inl (u_2.2.2.1 2))), ((n 15), .inl (k 0, 17, .inl (u_2.2.2.1 3)))] H := hP.sub [0, 1, 2, 3, 4, 5, 6, 7, 8, 9, 10] rfl
  have hD : va_D A [((n 0), .inr (11, [.int mthrown, .ref (n 1), .ref (n 2), .ref (n 3), .ref (n 4), .int (nI mtaped), .ref (n 5), .int (nI msize), .int (nI mat), .int (nI mfrom), .int mtoken, .int mvalue, .int mfaultKind, .int mfaultPlace, .ref (n 6), .ref (n 7), .ref (n 8), .ref (n 9), .ref (n 10), .ref (n 11), .ref (n 12), .int (nI (u_2.2.1 0)), .int (u_2.1 0), .int (u_2.1 1), .int (u_2.1 2), .ref (n 13), .ref (n 14), .ref (n 15), .int (u_2.1 3), .int (u_2.1 4), .int (u_2.1 5), .ref (n 16), .ref (n 17), .int mroundNow, .ref (n 18), .long msampleFor, .long msampleAll, .ref (n 19), .int maskWorst, .long moftenAll, .long moftenView, .long moftenOnes, .ref (n 20), .ref (n 21), .ref (n 22), .ref (n 23)])), ((n 1), .inl (k 0, 99, .inl fworld)), ((n 7), .inl (k 0, 12, .inl (u_2.2.2.1 4))), ((n 8), .inl (k 0, 12, .inl (u_2.2.2.1 5))), ((n 9), .inl (k 0, 4, .inl (u_2.2.2.1 6))), ((n 10), .inl (k 0, 12, .inl (u_2.2.2.1 0))), ((n 11), .inl (k 0, 14, .inl fmoreHead)), ((n 12), .inl (k 0, 14, .inl fmoreView)), ((n 13), .inl (k 0, 17, .inl (u_2.2.2.1 1))), ((n 14), .inl (k 0, 17, .inl (u_2.2.2.1 2))), ((n 15), .inl (k 0, 17, .inl (u_2.2.2.1 3)))] := hD.sub [0, 1, 2, 3, 4, 5, 6, 7, 8, 9, 10] (by decide) rfl
  obtain ⟨hp_3, hz_4, hg_5⟩ := hr_1
  refine lv_if_ne (tgt := 11) hx hb dX11_main_5 (by decide) (fun c_6 => ?_) (fun c_6 => ?_)
  · skip
    obtain ⟨n_7, rfl, hn_7⟩ := hp_3.resolve_left c_6
    refine lv_aload_n hx hb dX11_main_11 rfl (lv_at hl 0 rfl) ?_
    refine x_get S hK hP 0 rfl cfX11 25 lkX11_52 (by decide) rfl dX11_main_12 ?_
    refine lv_iload_n hx hb dX11_main_15 rfl (lv_at hl 1 rfl) ?_
    refine x_iald S hK hP 8 rfl (vp_in_nI (by omega) (by decide)) dX11_main_16 ?_
    refine lv_topi (fun v_8 ev_8 => ?_)
    refine x_roSi (As := [.int v_8]) S hK hP hD hZ (fun _ h => h) hA hS hA hl mwX11_bits lkX11_296 (ctX11_bits l D k z v_8 ) [] rfl (by decide) rfl rfl ⟨Nat.le_of_ble_eq_true rfl, Nat.le_of_ble_eq_true rfl, Nat.le_of_ble_eq_true rfl⟩ dX11_main_17 ⟨Nat.le_of_ble_eq_true rfl, Nat.le_of_ble_eq_true rfl⟩ (fun r_9 H locs hr_9 hP hS => ?_)
    obtain ⟨rfl, hg_11⟩ := hr_9
    refine lv_aload_n hx hb dX11_main_20 rfl (lv_at hl 0 rfl) ?_
    refine x_get S hK hP 0 rfl cfX11 26 lkX11_55 (by decide) rfl dX11_main_21 ?_
    refine lv_iload_n hx hb dX11_main_24 rfl (lv_at hl 1 rfl) ?_
    refine x_iald S hK hP 9 rfl (vp_in_nI (by omega) (by decide)) dX11_main_25 ?_
    refine lv_topi (fun v_12 ev_12 => ?_)
    refine x_roSi (As := [.int v_12]) S hK hP hD hZ (fun _ h => h) hA hS hA hl mwX11_bits lkX11_296 (ctX11_bits l D k z v_12 ) [] rfl (by decide) rfl rfl ⟨Nat.le_of_ble_eq_true rfl, Nat.le_of_ble_eq_true rfl, Nat.le_of_ble_eq_true rfl⟩ dX11_main_26 ⟨Nat.le_of_ble_eq_true rfl, Nat.le_of_ble_eq_true rfl⟩ (fun r_13 H locs hr_13 hP hS => ?_)
    obtain ⟨rfl, hg_15⟩ := hr_13
    refine lv_isub hx hb dX11_main_29 ?_
    refine lv_topi (fun v_16 ev_16 => ?_)
    refine lv_istore_n (lv' := [(2, .int v_16), (0, .ref (n 0)), (1, .int (nI n_7))]) hx hb dX11_main_30 rfl hl (by decide) rfl (fun ls hl => ?_)
    refine lv_iload_n hx hb dX11_main_31 rfl (lv_at hl 0 rfl) ?_
    refine lv_if_le (tgt := 39) hx hb dX11_main_32 (by decide) (fun c_17 => ?_) (fun c_17 => ?_)
    · skip
      refine lv_iload_n hx hb dX11_main_39 rfl (lv_at hl 0 rfl) ?_
      refine lv_if_ge (tgt := 47) hx hb dX11_main_40 (by decide) (fun c_18 => ?_) (fun c_18 => ?_)
      · skip
        refine lv_iconst (v := 0) hx hb dX11_main_47 (by decide) ?_
        exact x_reti S hr hlk hQ hS ((fun i => ([(u_2.1 0), (u_2.1 1), (u_2.1 2), (u_2.1 3), (u_2.1 4), (u_2.1 5)] : List (Int32)).getD i 0), (fun i => ([u_2.2.1 0] : List (Nat)).getD i 0), (fun i => ([(u_2.2.2.1 0), (u_2.2.2.1 1), (u_2.2.2.1 2), (u_2.2.2.1 3), (u_2.2.2.1 4), (u_2.2.2.1 5), (u_2.2.2.1 6)] : List (Nat → Int32)).getD i (fun _ => 0)), (fun i => ([] : List (Nat → Int64)).getD i (fun _ => 0)), (fun i => ([] : List (Int64)).getD i 0)) (show u_2.2.1 0 ≤ 14 by omega) (x_B hP hD) dX11_main_48
      · skip
        refine lv_iconst (v := 2) hx hb dX11_main_43 (by decide) ?_
        refine lv_goto (tgt := 48) hx hb dX11_main_44 (by decide) ?_
        exact x_reti S hr hlk hQ hS ((fun i => ([(u_2.1 0), (u_2.1 1), (u_2.1 2), (u_2.1 3), (u_2.1 4), (u_2.1 5)] : List (Int32)).getD i 0), (fun i => ([u_2.2.1 0] : List (Nat)).getD i 0), (fun i => ([(u_2.2.2.1 0), (u_2.2.2.1 1), (u_2.2.2.1 2), (u_2.2.2.1 3), (u_2.2.2.1 4), (u_2.2.2.1 5), (u_2.2.2.1 6)] : List (Nat → Int32)).getD i (fun _ => 0)), (fun i => ([] : List (Nat → Int64)).getD i (fun _ => 0)), (fun i => ([] : List (Int64)).getD i 0)) (show u_2.2.1 0 ≤ 14 by omega) (x_B hP hD) dX11_main_48
    · skip
      refine lv_iconst (v := 1) hx hb dX11_main_35 (by decide) ?_
      refine lv_goto (tgt := 48) hx hb dX11_main_36 (by decide) ?_
      exact x_reti S hr hlk hQ hS ((fun i => ([(u_2.1 0), (u_2.1 1), (u_2.1 2), (u_2.1 3), (u_2.1 4), (u_2.1 5)] : List (Int32)).getD i 0), (fun i => ([u_2.2.1 0] : List (Nat)).getD i 0), (fun i => ([(u_2.2.2.1 0), (u_2.2.2.1 1), (u_2.2.2.1 2), (u_2.2.2.1 3), (u_2.2.2.1 4), (u_2.2.2.1 5), (u_2.2.2.1 6)] : List (Nat → Int32)).getD i (fun _ => 0)), (fun i => ([] : List (Nat → Int64)).getD i (fun _ => 0)), (fun i => ([] : List (Int64)).getD i 0)) (show u_2.2.1 0 ≤ 14 by omega) (x_B hP hD) dX11_main_48
  · skip
    refine lv_bipush (v := (-2)) hx hb dX11_main_8 (by decide) ?_
    exact x_reti S hr hlk hQ hS ((fun i => ([(u_2.1 0), (u_2.1 1), (u_2.1 2), (u_2.1 3), (u_2.1 4), (u_2.1 5)] : List (Int32)).getD i 0), (fun i => ([u_2.2.1 0] : List (Nat)).getD i 0), (fun i => ([(u_2.2.2.1 0), (u_2.2.2.1 1), (u_2.2.2.1 2), (u_2.2.2.1 3), (u_2.2.2.1 4), (u_2.2.2.1 5), (u_2.2.2.1 6)] : List (Nat → Int32)).getD i (fun _ => 0)), (fun i => ([] : List (Nat → Int64)).getD i (fun _ => 0)), (fun i => ([] : List (Int64)).getD i 0)) (show u_2.2.1 0 ≤ 14 by omega) (x_B hP hD) dX11_main_10

set_option maxHeartbeats 4000000 in
set_option maxRecDepth 100000 in
theorem ctX11_first (l : Launch) (D : va_G) (k : Nat → ClassId) (z : Nat → Nat) (n : Nat → Nat) (mthrown : Int32) (mtaped : Nat) (msize : Nat) (mat : Nat) (mfrom : Nat) (mtoken : Int32) (mvalue : Int32) (mfaultKind : Int32) (mfaultPlace : Int32) (mmoreMany : Nat) (mlawNow : Int32) (mwetSet : Int32) (moverAll : Int32) (mones : Int32) (mtwos : Int32) (mgone : Int32) (mroundNow : Int32) (msampleFor : Int64) (msampleAll : Int64) (maskWorst : Int32) (moftenAll : Int64) (moftenView : Int64) (moftenOnes : Int64) (fworld : Nat → Int32) (frowOf : Nat → Int32) (fplaceOf : Nat → Int32) (ffirstOf : Nat → Int32) (fhardNow : Nat → Int32) (fmoreHead : Nat → Int32) (fmoreView : Nat → Int32) (fonesAt : Nat → Int32) (ftwosAt : Nat → Int32) (fgoneAt : Nat → Int32) (p0 : Int32) (hmtaped : mtaped ≤ 600) (hmsize : msize ≤ 600) (hmat : mat ≤ 600) (hmfrom : mfrom ≤ 600) (hmmoreMany : mmoreMany ≤ 14) (hkworld : okW fworld) : MU l yX11_first cX11_first 3 (some .int) 8 D k z [.ref (n 0), .int p0] [((n 0), .inr (11, [.int mthrown, .ref (n 1), .ref (n 2), .ref (n 3), .ref (n 4), .int (nI mtaped), .ref (n 5), .int (nI msize), .int (nI mat), .int (nI mfrom), .int mtoken, .int mvalue, .int mfaultKind, .int mfaultPlace, .ref (n 6), .ref (n 7), .ref (n 8), .ref (n 9), .ref (n 10), .ref (n 11), .ref (n 12), .int (nI mmoreMany), .int mlawNow, .int mwetSet, .int moverAll, .ref (n 13), .ref (n 14), .ref (n 15), .int mones, .int mtwos, .int mgone, .ref (n 16), .ref (n 17), .int mroundNow, .ref (n 18), .long msampleFor, .long msampleAll, .ref (n 19), .int maskWorst, .long moftenAll, .long moftenView, .long moftenOnes, .ref (n 20), .ref (n 21), .ref (n 22), .ref (n 23)])), ((n 1), .inl (k 0, 99, .inl fworld)), ((n 7), .inl (k 0, 12, .inl frowOf)), ((n 8), .inl (k 0, 12, .inl fplaceOf)), ((n 9), .inl (k 0, 4, .inl ffirstOf)), ((n 10), .inl (k 0, 12, .inl fhardNow)), ((n 11), .inl (k 0, 14, .inl fmoreHead)), ((n 12), .inl (k 0, 14, .inl fmoreView)), ((n 13), .inl (k 0, 17, .inl fonesAt)), ((n 14), .inl (k 0, 17, .inl ftwosAt)), ((n 15), .inl (k 0, 17, .inl fgoneAt))] 0 0 (Ui D (fun (r : Int32) (u : (Nat → Int32) × (Nat → Nat) × (Nat → Nat → Int32) × (Nat → Nat → Int64) × (Nat → Int64)) => (u.2.1 0 ≤ 14)) (fun u : (Nat → Int32) × (Nat → Nat) × (Nat → Nat → Int32) × (Nat → Nat → Int64) × (Nat → Int64) => [((n 0), .inr (11, [.int mthrown, .ref (n 1), .ref (n 2), .ref (n 3), .ref (n 4), .int (nI mtaped), .ref (n 5), .int (nI msize), .int (nI mat), .int (nI mfrom), .int mtoken, .int mvalue, .int mfaultKind, .int mfaultPlace, .ref (n 6), .ref (n 7), .ref (n 8), .ref (n 9), .ref (n 10), .ref (n 11), .ref (n 12), .int (nI (u.2.1 0)), .int (u.1 0), .int (u.1 1), .int (u.1 2), .ref (n 13), .ref (n 14), .ref (n 15), .int (u.1 3), .int (u.1 4), .int (u.1 5), .ref (n 16), .ref (n 17), .int mroundNow, .ref (n 18), .long msampleFor, .long msampleAll, .ref (n 19), .int maskWorst, .long moftenAll, .long moftenView, .long moftenOnes, .ref (n 20), .ref (n 21), .ref (n 22), .ref (n 23)])), ((n 1), .inl (k 0, 99, .inl fworld)), ((n 7), .inl (k 0, 12, .inl (u.2.2.1 4))), ((n 8), .inl (k 0, 12, .inl (u.2.2.1 5))), ((n 9), .inl (k 0, 4, .inl (u.2.2.1 6))), ((n 10), .inl (k 0, 12, .inl (u.2.2.1 0))), ((n 11), .inl (k 0, 14, .inl fmoreHead)), ((n 12), .inl (k 0, 14, .inl fmoreView)), ((n 13), .inl (k 0, 17, .inl (u.2.2.1 1))), ((n 14), .inl (k 0, 17, .inl (u.2.2.1 2))), ((n 15), .inl (k 0, 17, .inl (u.2.2.1 3)))])) := by
  refine MU.of (by decide) (Nat.le_of_ble_eq_true rfl) ?_
  intro p e s m below meth c ls A args Q S hr hlk hnm hQ hK hP hD hZ hA hS hl
  have hx := S.1
  have hb := S.2.1
  have hl : lv_has ls 3 [(0, .ref (n 0)), (1, .int p0)] := hl
  have hbfworld := okW_bd hkworld
  refine lv_aload_n hx hb dX11_first_0 rfl (lv_at hl 0 rfl) ?_
  refine x_muVi (wr := []) (As := []) S hK hP hD hZ hS hA hl mwX11_asksGarden lkX11_315 (ctX11_asksGarden l D k z n mthrown mtaped msize mat mfrom mtoken mvalue mfaultKind mfaultPlace mmoreMany mlawNow mwetSet moverAll mones mtwos mgone mroundNow msampleFor msampleAll maskWorst moftenAll moftenView moftenOnes fworld frowOf fplaceOf ffirstOf fhardNow fmoreHead fmoreView fonesAt ftwosAt fgoneAt (by omega) (by omega) (by omega) (by omega) (by omega) (hkworld)) [0, 1, 2, 3, 4, 5, 6, 7, 8, 9, 10] [] rfl rfl (by decide) (by decide) (by decide) rfl rfl rfl rfl rfl ⟨Nat.le_of_ble_eq_true rfl, Nat.le_of_ble_eq_true rfl, Nat.le_of_ble_eq_true rfl⟩ dX11_first_1 ⟨Nat.le_of_ble_eq_true rfl, Nat.le_of_ble_eq_true rfl⟩ (fun r_1 u_2 H locs hr_1 hP hD hS => ?_)
  have hP : va_P D vwCl [((n 0), .inr (11, [.int mthrown, .ref (n 1), .ref (n 2), .ref (n 3), .ref (n 4), .int (nI mtaped), .ref (n 5), .int (nI msize), .int (nI mat), .int (nI mfrom), .int mtoken, .int mvalue, .int mfaultKind, .int mfaultPlace, .ref (n 6), .ref (n 7), .ref (n 8), .ref (n 9), .ref (n 10), .ref (n 11), .ref (n 12), .int (nI (u_2.2.1 0)), .int (u_2.1 0), .int (u_2.1 1), .int (u_2.1 2), .ref (n 13), .ref (n 14), .ref (n 15), .int (u_2.1 3), .int (u_2.1 4), .int (u_2.1 5), .ref (n 16), .ref (n 17), .int mroundNow, .ref (n 18), .long msampleFor, .long msampleAll, .ref (n 19), .int maskWorst, .long moftenAll, .long moftenView, .long moftenOnes, .ref (n 20), .ref (n 21), .ref (n 22), .ref (n 23)])), ((n 1), .inl (k 0, 99, .inl fworld)), ((n 7), .inl (k 0, 12, .inl (u_2.2.2.1 4))), ((n 8), .inl (k 0, 12, .inl (u_2.2.2.1 5))), ((n 9), .inl (k 0, 4, .inl (u_2.2.2.1 6))), ((n 10), .inl (k 0, 12, .inl (u_2.2.2.1 0))), ((n 11), .inl (k 0, 14, .inl fmoreHead)), ((n 12), .inl (k 0, 14, .inl fmoreView)), ((n 13), .inl (k 0, 17, .inl (u_2.2.2.1 1))), ((n 14), .inl (k 0, 17, .inl (u_2.2.2.1 2))), ((n 15), .inl (k 0, 17, .inl (u_2.2.2.1 3)))] H := hP.sub [0, 1, 2, 3, 4, 5, 6, 7, 8, 9, 10] rfl
  have hD : va_D A [((n 0), .inr (11, [.int mthrown, .ref (n 1), .ref (n 2), .ref (n 3), .ref (n 4), .int (nI mtaped), .ref (n 5), .int (nI msize), .int (nI mat), .int (nI mfrom), .int mtoken, .int mvalue, .int mfaultKind, .int mfaultPlace, .ref (n 6), .ref (n 7), .ref (n 8), .ref (n 9), .ref (n 10), .ref (n 11), .ref (n 12), .int (nI (u_2.2.1 0)), .int (u_2.1 0), .int (u_2.1 1), .int (u_2.1 2), .ref (n 13), .ref (n 14), .ref (n 15), .int (u_2.1 3), .int (u_2.1 4), .int (u_2.1 5), .ref (n 16), .ref (n 17), .int mroundNow, .ref (n 18), .long msampleFor, .long msampleAll, .ref (n 19), .int maskWorst, .long moftenAll, .long moftenView, .long moftenOnes, .ref (n 20), .ref (n 21), .ref (n 22), .ref (n 23)])), ((n 1), .inl (k 0, 99, .inl fworld)), ((n 7), .inl (k 0, 12, .inl (u_2.2.2.1 4))), ((n 8), .inl (k 0, 12, .inl (u_2.2.2.1 5))), ((n 9), .inl (k 0, 4, .inl (u_2.2.2.1 6))), ((n 10), .inl (k 0, 12, .inl (u_2.2.2.1 0))), ((n 11), .inl (k 0, 14, .inl fmoreHead)), ((n 12), .inl (k 0, 14, .inl fmoreView)), ((n 13), .inl (k 0, 17, .inl (u_2.2.2.1 1))), ((n 14), .inl (k 0, 17, .inl (u_2.2.2.1 2))), ((n 15), .inl (k 0, 17, .inl (u_2.2.2.1 3)))] := hD.sub [0, 1, 2, 3, 4, 5, 6, 7, 8, 9, 10] (by decide) rfl
  obtain ⟨hz_3, hg_4⟩ := hr_1
  refine lv_if_eq (tgt := 15) hx hb dX11_first_4 (by decide) (fun c_5 => ?_) (fun c_5 => ?_)
  · skip
    refine lv_bipush (v := (-2)) hx hb dX11_first_15 (by decide) ?_
    exact x_reti S hr hlk hQ hS ((fun i => ([(u_2.1 0), (u_2.1 1), (u_2.1 2), (u_2.1 3), (u_2.1 4), (u_2.1 5)] : List (Int32)).getD i 0), (fun i => ([u_2.2.1 0] : List (Nat)).getD i 0), (fun i => ([(u_2.2.2.1 0), (u_2.2.2.1 1), (u_2.2.2.1 2), (u_2.2.2.1 3), (u_2.2.2.1 4), (u_2.2.2.1 5), (u_2.2.2.1 6)] : List (Nat → Int32)).getD i (fun _ => 0)), (fun i => ([] : List (Nat → Int64)).getD i (fun _ => 0)), (fun i => ([] : List (Int64)).getD i 0)) (show u_2.2.1 0 ≤ 14 by omega) (x_B hP hD) dX11_first_17
  · skip
    refine lv_iload_n hx hb dX11_first_7 rfl (lv_at hl 1 rfl) ?_
    refine lv_i2l (v := p0.toInt64) hx hb dX11_first_8 rfl ?_
    refine x_roSi (As := [.long p0.toInt64]) S hK hP hD hZ (fun _ h => h) hA hS hA hl mwX11_isView lkX11_348 (ctX11_isView l D k z p0.toInt64 ) [] rfl (by decide) rfl rfl ⟨Nat.le_of_ble_eq_true rfl, Nat.le_of_ble_eq_true rfl, Nat.le_of_ble_eq_true rfl⟩ dX11_first_9 ⟨Nat.le_of_ble_eq_true rfl, Nat.le_of_ble_eq_true rfl⟩ (fun r_6 H locs hr_6 hP hS => ?_)
    obtain rfl := hr_6
    refine lv_if_ne (tgt := 18) hx hb dX11_first_12 (by decide) (fun c_8 => ?_) (fun c_8 => ?_)
    · skip
      have c_8 : 1 ≤ p0.toInt64 ∧ p0.toInt64 ≤ 2 := bo_1.mp c_8
      refine lv_iconst (v := 0) hx hb dX11_first_18 (by decide) ?_
      refine lv_istore_n (lv' := [(2, .int 0), (0, .ref (n 0)), (1, .int p0)]) hx hb dX11_first_19 rfl hl (by decide) rfl (fun ls hl => ?_)
      have lp_20 : ∀ (nn j_19 : Nat)  (H : Heap) (locs : List Loc) (ls : Array Slot), j_19 ≤ wn fworld 0 + 1 → wn fworld 0 + 1 - j_19 < nn → va_P D vwCl [((n 0), .inr (11, [.int mthrown, .ref (n 1), .ref (n 2), .ref (n 3), .ref (n 4), .int (nI mtaped), .ref (n 5), .int (nI msize), .int (nI mat), .int (nI mfrom), .int mtoken, .int mvalue, .int mfaultKind, .int mfaultPlace, .ref (n 6), .ref (n 7), .ref (n 8), .ref (n 9), .ref (n 10), .ref (n 11), .ref (n 12), .int (nI (u_2.2.1 0)), .int (u_2.1 0), .int (u_2.1 1), .int (u_2.1 2), .ref (n 13), .ref (n 14), .ref (n 15), .int (u_2.1 3), .int (u_2.1 4), .int (u_2.1 5), .ref (n 16), .ref (n 17), .int mroundNow, .ref (n 18), .long msampleFor, .long msampleAll, .ref (n 19), .int maskWorst, .long moftenAll, .long moftenView, .long moftenOnes, .ref (n 20), .ref (n 21), .ref (n 22), .ref (n 23)])), ((n 1), .inl (k 0, 99, .inl fworld)), ((n 7), .inl (k 0, 12, .inl (u_2.2.2.1 4))), ((n 8), .inl (k 0, 12, .inl (u_2.2.2.1 5))), ((n 9), .inl (k 0, 4, .inl (u_2.2.2.1 6))), ((n 10), .inl (k 0, 12, .inl (u_2.2.2.1 0))), ((n 11), .inl (k 0, 14, .inl fmoreHead)), ((n 12), .inl (k 0, 14, .inl fmoreView)), ((n 13), .inl (k 0, 17, .inl (u_2.2.2.1 1))), ((n 14), .inl (k 0, 17, .inl (u_2.2.2.1 2))), ((n 15), .inl (k 0, 17, .inl (u_2.2.2.1 3)))] H → va_D A [((n 0), .inr (11, [.int mthrown, .ref (n 1), .ref (n 2), .ref (n 3), .ref (n 4), .int (nI mtaped), .ref (n 5), .int (nI msize), .int (nI mat), .int (nI mfrom), .int mtoken, .int mvalue, .int mfaultKind, .int mfaultPlace, .ref (n 6), .ref (n 7), .ref (n 8), .ref (n 9), .ref (n 10), .ref (n 11), .ref (n 12), .int (nI (u_2.2.1 0)), .int (u_2.1 0), .int (u_2.1 1), .int (u_2.1 2), .ref (n 13), .ref (n 14), .ref (n 15), .int (u_2.1 3), .int (u_2.1 4), .int (u_2.1 5), .ref (n 16), .ref (n 17), .int mroundNow, .ref (n 18), .long msampleFor, .long msampleAll, .ref (n 19), .int maskWorst, .long moftenAll, .long moftenView, .long moftenOnes, .ref (n 20), .ref (n 21), .ref (n 22), .ref (n 23)])), ((n 1), .inl (k 0, 99, .inl fworld)), ((n 7), .inl (k 0, 12, .inl (u_2.2.2.1 4))), ((n 8), .inl (k 0, 12, .inl (u_2.2.2.1 5))), ((n 9), .inl (k 0, 4, .inl (u_2.2.2.1 6))), ((n 10), .inl (k 0, 12, .inl (u_2.2.2.1 0))), ((n 11), .inl (k 0, 14, .inl fmoreHead)), ((n 12), .inl (k 0, 14, .inl fmoreView)), ((n 13), .inl (k 0, 17, .inl (u_2.2.2.1 1))), ((n 14), .inl (k 0, 17, .inl (u_2.2.2.1 2))), ((n 15), .inl (k 0, 17, .inl (u_2.2.2.1 3)))] → va_S A s.heap H locs → lv_has ls 3 [(2, .int (nI j_19)), (0, .ref (n 0)), (1, .int p0)] → W p l e (Rm 8 0 0) s m args below meth c H locs 0 0 Q (F0 m 20 ls []) := by
        intro nn
        induction nn with
        | zero => intro j_19  H locs ls hjj_19 hnj_19; exact absurd hnj_19 (by omega)
        | succ nn ihj_19 =>
          intro j_19  H locs ls hjj_19 hnj_19 hP hD hS hl
          refine lv_iload_n hx hb dX11_first_20 rfl (lv_at hl 0 rfl) ?_
          refine lv_aload_n hx hb dX11_first_21 rfl (lv_at hl 1 rfl) ?_
          refine x_roVi (As := []) S hK hP hD hZ (fun _ h => h) hA hS hA hl mwX11_hours lkX11_103 (ctX11_hours l D k z n mthrown mtaped msize mat mfrom mtoken mvalue mfaultKind mfaultPlace (u_2.2.1 0) (u_2.1 0) (u_2.1 1) (u_2.1 2) (u_2.1 3) (u_2.1 4) (u_2.1 5) mroundNow msampleFor msampleAll maskWorst moftenAll moftenView moftenOnes fworld (by omega) (by omega) (by omega) (by omega) (by omega) (hkworld)) [0, 1] rfl (by decide) rfl rfl rfl rfl rfl ⟨Nat.le_of_ble_eq_true rfl, Nat.le_of_ble_eq_true rfl, Nat.le_of_ble_eq_true rfl⟩ dX11_first_22 ⟨Nat.le_of_ble_eq_true rfl, Nat.le_of_ble_eq_true rfl⟩ (fun r_21 H locs hr_21 hP hS => ?_)
          obtain rfl := hr_21
          refine lv_icmp_gt (tgt := 45) hx hb dX11_first_25 (by decide) (fun c_23 => ?_) (fun c_23 => ?_)
          · skip
            have c_23 : wn fworld 0 < j_19 := (ni_lt rfl rfl (by omega) (by omega)).mp c_23
            refine lv_iconst (v := (-1)) hx hb dX11_first_45 (by decide) ?_
            exact x_reti S hr hlk hQ hS ((fun i => ([(u_2.1 0), (u_2.1 1), (u_2.1 2), (u_2.1 3), (u_2.1 4), (u_2.1 5)] : List (Int32)).getD i 0), (fun i => ([u_2.2.1 0] : List (Nat)).getD i 0), (fun i => ([(u_2.2.2.1 0), (u_2.2.2.1 1), (u_2.2.2.1 2), (u_2.2.2.1 3), (u_2.2.2.1 4), (u_2.2.2.1 5), (u_2.2.2.1 6)] : List (Nat → Int32)).getD i (fun _ => 0)), (fun i => ([] : List (Nat → Int64)).getD i (fun _ => 0)), (fun i => ([] : List (Int64)).getD i 0)) (show u_2.2.1 0 ≤ 14 by omega) (x_B hP hD) dX11_first_46
          · skip
            have c_23 : ¬ wn fworld 0 < j_19 := fun q => c_23 ((ni_lt rfl rfl (by omega) (by omega)).mpr q)
            refine lv_aload_n hx hb dX11_first_28 rfl (lv_at hl 1 rfl) ?_
            refine lv_iload_n hx hb dX11_first_29 rfl (lv_at hl 2 rfl) ?_
            refine lv_iload_n hx hb dX11_first_30 rfl (lv_at hl 0 rfl) ?_
            refine x_roVi (As := [.int p0, .int (nI j_19)]) S hK hP hD hZ (fun _ h => h) hA hS hA hl mwX11_holdingOf lkX11_327 (ctX11_holdingOf l D k z n mthrown mtaped msize mat mfrom mtoken mvalue mfaultKind mfaultPlace (u_2.2.1 0) (u_2.1 0) (u_2.1 1) (u_2.1 2) (u_2.1 3) (u_2.1 4) (u_2.1 5) mroundNow msampleFor msampleAll maskWorst moftenAll moftenView moftenOnes fworld (u_2.2.2.1 1) (u_2.2.2.1 2) (u_2.2.2.1 3) p0 j_19 (by omega) (by omega) (by omega) (by omega) (by omega) (hkworld) (by omega)) [0, 1, 8, 9, 10] rfl (by decide) rfl rfl rfl rfl rfl ⟨Nat.le_of_ble_eq_true rfl, Nat.le_of_ble_eq_true rfl, Nat.le_of_ble_eq_true rfl⟩ dX11_first_31 ⟨Nat.le_of_ble_eq_true rfl, Nat.le_of_ble_eq_true rfl⟩ (fun r_24 H locs hr_24 hP hS => ?_)
            refine lv_if_eq (tgt := 39) hx hb dX11_first_34 (by decide) (fun c_26 => ?_) (fun c_26 => ?_)
            · skip
              refine lv_iinc (v := (nI (j_19 + 1))) (lv' := [(2, .int (nI (j_19 + 1))), (0, .ref (n 0)), (1, .int p0)]) hx hb dX11_first_39 hl (k := 0) rfl (ni_inc _) (by decide) rfl (fun ls hl => ?_)
              refine lv_goto (tgt := 20) hx hb dX11_first_42 (by decide) ?_
              exact ihj_19 (j_19 + 1)  _ _ _ (by omega) (by omega) hP hD hS (lv_sub hl [0, 1, 2] rfl)
            · skip
              refine lv_iload_n hx hb dX11_first_37 rfl (lv_at hl 0 rfl) ?_
              exact x_reti S hr hlk hQ hS ((fun i => ([(u_2.1 0), (u_2.1 1), (u_2.1 2), (u_2.1 3), (u_2.1 4), (u_2.1 5)] : List (Int32)).getD i 0), (fun i => ([u_2.2.1 0] : List (Nat)).getD i 0), (fun i => ([(u_2.2.2.1 0), (u_2.2.2.1 1), (u_2.2.2.1 2), (u_2.2.2.1 3), (u_2.2.2.1 4), (u_2.2.2.1 5), (u_2.2.2.1 6)] : List (Nat → Int32)).getD i (fun _ => 0)), (fun i => ([] : List (Nat → Int64)).getD i (fun _ => 0)), (fun i => ([] : List (Int64)).getD i 0)) (show u_2.2.1 0 ≤ 14 by omega) (x_B hP hD) dX11_first_38
      exact lp_20 (wn fworld 0 + 1 + 1) 0  _ _ _ (by omega) (by omega) hP hD hS (lv_sub hl [0, 1, 2] rfl)
    · skip
      have c_8 : ¬ (1 ≤ p0.toInt64 ∧ p0.toInt64 ≤ 2) := bo_0.mp c_8
      refine lv_bipush (v := (-2)) hx hb dX11_first_15 (by decide) ?_
      exact x_reti S hr hlk hQ hS ((fun i => ([(u_2.1 0), (u_2.1 1), (u_2.1 2), (u_2.1 3), (u_2.1 4), (u_2.1 5)] : List (Int32)).getD i 0), (fun i => ([u_2.2.1 0] : List (Nat)).getD i 0), (fun i => ([(u_2.2.2.1 0), (u_2.2.2.1 1), (u_2.2.2.1 2), (u_2.2.2.1 3), (u_2.2.2.1 4), (u_2.2.2.1 5), (u_2.2.2.1 6)] : List (Nat → Int32)).getD i (fun _ => 0)), (fun i => ([] : List (Nat → Int64)).getD i (fun _ => 0)), (fun i => ([] : List (Int64)).getD i 0)) (show u_2.2.1 0 ≤ 14 by omega) (x_B hP hD) dX11_first_17

set_option maxHeartbeats 4000000 in
set_option maxRecDepth 100000 in
theorem ctX11_solid (l : Launch) (D : va_G) (k : Nat → ClassId) (z : Nat → Nat) (n : Nat → Nat) (mthrown : Int32) (mtaped : Nat) (msize : Nat) (mat : Nat) (mfrom : Nat) (mtoken : Int32) (mvalue : Int32) (mfaultKind : Int32) (mfaultPlace : Int32) (mmoreMany : Nat) (mlawNow : Int32) (mwetSet : Int32) (moverAll : Int32) (mones : Int32) (mtwos : Int32) (mgone : Int32) (mroundNow : Int32) (msampleFor : Int64) (msampleAll : Int64) (maskWorst : Int32) (moftenAll : Int64) (moftenView : Int64) (moftenOnes : Int64) (fworld : Nat → Int32) (frowOf : Nat → Int32) (fplaceOf : Nat → Int32) (ffirstOf : Nat → Int32) (fhardNow : Nat → Int32) (fmoreHead : Nat → Int32) (fmoreView : Nat → Int32) (fonesAt : Nat → Int32) (ftwosAt : Nat → Int32) (fgoneAt : Nat → Int32) (p0 : Int32) (hmtaped : mtaped ≤ 600) (hmsize : msize ≤ 600) (hmat : mat ≤ 600) (hmfrom : mfrom ≤ 600) (hmmoreMany : mmoreMany ≤ 14) (hkworld : okW fworld) : MU l yX11_solid cX11_solid 4 (some .int) 9 D k z [.ref (n 0), .int p0] [((n 0), .inr (11, [.int mthrown, .ref (n 1), .ref (n 2), .ref (n 3), .ref (n 4), .int (nI mtaped), .ref (n 5), .int (nI msize), .int (nI mat), .int (nI mfrom), .int mtoken, .int mvalue, .int mfaultKind, .int mfaultPlace, .ref (n 6), .ref (n 7), .ref (n 8), .ref (n 9), .ref (n 10), .ref (n 11), .ref (n 12), .int (nI mmoreMany), .int mlawNow, .int mwetSet, .int moverAll, .ref (n 13), .ref (n 14), .ref (n 15), .int mones, .int mtwos, .int mgone, .ref (n 16), .ref (n 17), .int mroundNow, .ref (n 18), .long msampleFor, .long msampleAll, .ref (n 19), .int maskWorst, .long moftenAll, .long moftenView, .long moftenOnes, .ref (n 20), .ref (n 21), .ref (n 22), .ref (n 23)])), ((n 1), .inl (k 0, 99, .inl fworld)), ((n 7), .inl (k 0, 12, .inl frowOf)), ((n 8), .inl (k 0, 12, .inl fplaceOf)), ((n 9), .inl (k 0, 4, .inl ffirstOf)), ((n 10), .inl (k 0, 12, .inl fhardNow)), ((n 11), .inl (k 0, 14, .inl fmoreHead)), ((n 12), .inl (k 0, 14, .inl fmoreView)), ((n 13), .inl (k 0, 17, .inl fonesAt)), ((n 14), .inl (k 0, 17, .inl ftwosAt)), ((n 15), .inl (k 0, 17, .inl fgoneAt))] 0 0 (Ui D (fun (r : Int32) (u : (Nat → Int32) × (Nat → Nat) × (Nat → Nat → Int32) × (Nat → Nat → Int64) × (Nat → Int64)) => (u.2.1 0 ≤ 14)) (fun u : (Nat → Int32) × (Nat → Nat) × (Nat → Nat → Int32) × (Nat → Nat → Int64) × (Nat → Int64) => [((n 0), .inr (11, [.int mthrown, .ref (n 1), .ref (n 2), .ref (n 3), .ref (n 4), .int (nI mtaped), .ref (n 5), .int (nI msize), .int (nI mat), .int (nI mfrom), .int mtoken, .int mvalue, .int mfaultKind, .int mfaultPlace, .ref (n 6), .ref (n 7), .ref (n 8), .ref (n 9), .ref (n 10), .ref (n 11), .ref (n 12), .int (nI (u.2.1 0)), .int (u.1 0), .int (u.1 1), .int (u.1 2), .ref (n 13), .ref (n 14), .ref (n 15), .int (u.1 3), .int (u.1 4), .int (u.1 5), .ref (n 16), .ref (n 17), .int mroundNow, .ref (n 18), .long msampleFor, .long msampleAll, .ref (n 19), .int maskWorst, .long moftenAll, .long moftenView, .long moftenOnes, .ref (n 20), .ref (n 21), .ref (n 22), .ref (n 23)])), ((n 1), .inl (k 0, 99, .inl fworld)), ((n 7), .inl (k 0, 12, .inl (u.2.2.1 4))), ((n 8), .inl (k 0, 12, .inl (u.2.2.1 5))), ((n 9), .inl (k 0, 4, .inl (u.2.2.1 6))), ((n 10), .inl (k 0, 12, .inl (u.2.2.1 0))), ((n 11), .inl (k 0, 14, .inl fmoreHead)), ((n 12), .inl (k 0, 14, .inl fmoreView)), ((n 13), .inl (k 0, 17, .inl (u.2.2.1 1))), ((n 14), .inl (k 0, 17, .inl (u.2.2.1 2))), ((n 15), .inl (k 0, 17, .inl (u.2.2.1 3)))])) := by
  refine MU.of (by decide) (Nat.le_of_ble_eq_true rfl) ?_
  intro p e s m below meth c ls A args Q S hr hlk hnm hQ hK hP hD hZ hA hS hl
  have hx := S.1
  have hb := S.2.1
  have hl : lv_has ls 4 [(0, .ref (n 0)), (1, .int p0)] := hl
  have hbfworld := okW_bd hkworld
  refine lv_aload_n hx hb dX11_solid_0 rfl (lv_at hl 0 rfl) ?_
  refine lv_iload_n hx hb dX11_solid_1 rfl (lv_at hl 1 rfl) ?_
  refine x_muVi (wr := []) (As := [.int p0]) S hK hP hD hZ hS hA hl mwX11_asksHour lkX11_330 (ctX11_asksHour l D k z n mthrown mtaped msize mat mfrom mtoken mvalue mfaultKind mfaultPlace mmoreMany mlawNow mwetSet moverAll mones mtwos mgone mroundNow msampleFor msampleAll maskWorst moftenAll moftenView moftenOnes fworld frowOf fplaceOf ffirstOf fhardNow fmoreHead fmoreView fonesAt ftwosAt fgoneAt p0 (by omega) (by omega) (by omega) (by omega) (by omega) (hkworld)) [0, 1, 2, 3, 4, 5, 6, 7, 8, 9, 10] [] rfl rfl (by decide) (by decide) (by decide) rfl rfl rfl rfl rfl ⟨Nat.le_of_ble_eq_true rfl, Nat.le_of_ble_eq_true rfl, Nat.le_of_ble_eq_true rfl⟩ dX11_solid_2 ⟨Nat.le_of_ble_eq_true rfl, Nat.le_of_ble_eq_true rfl⟩ (fun r_1 u_2 H locs hr_1 hP hD hS => ?_)
  have hP : va_P D vwCl [((n 0), .inr (11, [.int mthrown, .ref (n 1), .ref (n 2), .ref (n 3), .ref (n 4), .int (nI mtaped), .ref (n 5), .int (nI msize), .int (nI mat), .int (nI mfrom), .int mtoken, .int mvalue, .int mfaultKind, .int mfaultPlace, .ref (n 6), .ref (n 7), .ref (n 8), .ref (n 9), .ref (n 10), .ref (n 11), .ref (n 12), .int (nI (u_2.2.1 0)), .int (u_2.1 0), .int (u_2.1 1), .int (u_2.1 2), .ref (n 13), .ref (n 14), .ref (n 15), .int (u_2.1 3), .int (u_2.1 4), .int (u_2.1 5), .ref (n 16), .ref (n 17), .int mroundNow, .ref (n 18), .long msampleFor, .long msampleAll, .ref (n 19), .int maskWorst, .long moftenAll, .long moftenView, .long moftenOnes, .ref (n 20), .ref (n 21), .ref (n 22), .ref (n 23)])), ((n 1), .inl (k 0, 99, .inl fworld)), ((n 7), .inl (k 0, 12, .inl (u_2.2.2.1 4))), ((n 8), .inl (k 0, 12, .inl (u_2.2.2.1 5))), ((n 9), .inl (k 0, 4, .inl (u_2.2.2.1 6))), ((n 10), .inl (k 0, 12, .inl (u_2.2.2.1 0))), ((n 11), .inl (k 0, 14, .inl fmoreHead)), ((n 12), .inl (k 0, 14, .inl fmoreView)), ((n 13), .inl (k 0, 17, .inl (u_2.2.2.1 1))), ((n 14), .inl (k 0, 17, .inl (u_2.2.2.1 2))), ((n 15), .inl (k 0, 17, .inl (u_2.2.2.1 3)))] H := hP.sub [0, 1, 2, 3, 4, 5, 6, 7, 8, 9, 10] rfl
  have hD : va_D A [((n 0), .inr (11, [.int mthrown, .ref (n 1), .ref (n 2), .ref (n 3), .ref (n 4), .int (nI mtaped), .ref (n 5), .int (nI msize), .int (nI mat), .int (nI mfrom), .int mtoken, .int mvalue, .int mfaultKind, .int mfaultPlace, .ref (n 6), .ref (n 7), .ref (n 8), .ref (n 9), .ref (n 10), .ref (n 11), .ref (n 12), .int (nI (u_2.2.1 0)), .int (u_2.1 0), .int (u_2.1 1), .int (u_2.1 2), .ref (n 13), .ref (n 14), .ref (n 15), .int (u_2.1 3), .int (u_2.1 4), .int (u_2.1 5), .ref (n 16), .ref (n 17), .int mroundNow, .ref (n 18), .long msampleFor, .long msampleAll, .ref (n 19), .int maskWorst, .long moftenAll, .long moftenView, .long moftenOnes, .ref (n 20), .ref (n 21), .ref (n 22), .ref (n 23)])), ((n 1), .inl (k 0, 99, .inl fworld)), ((n 7), .inl (k 0, 12, .inl (u_2.2.2.1 4))), ((n 8), .inl (k 0, 12, .inl (u_2.2.2.1 5))), ((n 9), .inl (k 0, 4, .inl (u_2.2.2.1 6))), ((n 10), .inl (k 0, 12, .inl (u_2.2.2.1 0))), ((n 11), .inl (k 0, 14, .inl fmoreHead)), ((n 12), .inl (k 0, 14, .inl fmoreView)), ((n 13), .inl (k 0, 17, .inl (u_2.2.2.1 1))), ((n 14), .inl (k 0, 17, .inl (u_2.2.2.1 2))), ((n 15), .inl (k 0, 17, .inl (u_2.2.2.1 3)))] := hD.sub [0, 1, 2, 3, 4, 5, 6, 7, 8, 9, 10] (by decide) rfl
  obtain ⟨hp_3, hz_4, hg_5⟩ := hr_1
  refine lv_if_ne (tgt := 11) hx hb dX11_solid_5 (by decide) (fun c_6 => ?_) (fun c_6 => ?_)
  · skip
    obtain ⟨n_7, rfl, hn_7⟩ := hp_3.resolve_left c_6
    refine lv_iconst (v := 0) hx hb dX11_solid_11 (by decide) ?_
    refine lv_istore_n (lv' := [(2, .int 0), (0, .ref (n 0)), (1, .int (nI n_7))]) hx hb dX11_solid_12 rfl hl (by decide) rfl (fun ls hl => ?_)
    refine lv_iconst (v := 0) hx hb dX11_solid_13 (by decide) ?_
    refine lv_istore_n (lv' := [(3, .int 0), (2, .int 0), (0, .ref (n 0)), (1, .int (nI n_7))]) hx hb dX11_solid_14 rfl hl (by decide) rfl (fun ls hl => ?_)
    have lp_65 : ∀ (nn j_63 : Nat) (x_64 : Int32) (H : Heap) (locs : List Loc) (ls : Array Slot), j_63 ≤ wn fworld 3 → wn fworld 3 - j_63 < nn → va_P D vwCl [((n 0), .inr (11, [.int mthrown, .ref (n 1), .ref (n 2), .ref (n 3), .ref (n 4), .int (nI mtaped), .ref (n 5), .int (nI msize), .int (nI mat), .int (nI mfrom), .int mtoken, .int mvalue, .int mfaultKind, .int mfaultPlace, .ref (n 6), .ref (n 7), .ref (n 8), .ref (n 9), .ref (n 10), .ref (n 11), .ref (n 12), .int (nI (u_2.2.1 0)), .int (u_2.1 0), .int (u_2.1 1), .int (u_2.1 2), .ref (n 13), .ref (n 14), .ref (n 15), .int (u_2.1 3), .int (u_2.1 4), .int (u_2.1 5), .ref (n 16), .ref (n 17), .int mroundNow, .ref (n 18), .long msampleFor, .long msampleAll, .ref (n 19), .int maskWorst, .long moftenAll, .long moftenView, .long moftenOnes, .ref (n 20), .ref (n 21), .ref (n 22), .ref (n 23)])), ((n 1), .inl (k 0, 99, .inl fworld)), ((n 7), .inl (k 0, 12, .inl (u_2.2.2.1 4))), ((n 8), .inl (k 0, 12, .inl (u_2.2.2.1 5))), ((n 9), .inl (k 0, 4, .inl (u_2.2.2.1 6))), ((n 10), .inl (k 0, 12, .inl (u_2.2.2.1 0))), ((n 11), .inl (k 0, 14, .inl fmoreHead)), ((n 12), .inl (k 0, 14, .inl fmoreView)), ((n 13), .inl (k 0, 17, .inl (u_2.2.2.1 1))), ((n 14), .inl (k 0, 17, .inl (u_2.2.2.1 2))), ((n 15), .inl (k 0, 17, .inl (u_2.2.2.1 3)))] H → va_D A [((n 0), .inr (11, [.int mthrown, .ref (n 1), .ref (n 2), .ref (n 3), .ref (n 4), .int (nI mtaped), .ref (n 5), .int (nI msize), .int (nI mat), .int (nI mfrom), .int mtoken, .int mvalue, .int mfaultKind, .int mfaultPlace, .ref (n 6), .ref (n 7), .ref (n 8), .ref (n 9), .ref (n 10), .ref (n 11), .ref (n 12), .int (nI (u_2.2.1 0)), .int (u_2.1 0), .int (u_2.1 1), .int (u_2.1 2), .ref (n 13), .ref (n 14), .ref (n 15), .int (u_2.1 3), .int (u_2.1 4), .int (u_2.1 5), .ref (n 16), .ref (n 17), .int mroundNow, .ref (n 18), .long msampleFor, .long msampleAll, .ref (n 19), .int maskWorst, .long moftenAll, .long moftenView, .long moftenOnes, .ref (n 20), .ref (n 21), .ref (n 22), .ref (n 23)])), ((n 1), .inl (k 0, 99, .inl fworld)), ((n 7), .inl (k 0, 12, .inl (u_2.2.2.1 4))), ((n 8), .inl (k 0, 12, .inl (u_2.2.2.1 5))), ((n 9), .inl (k 0, 4, .inl (u_2.2.2.1 6))), ((n 10), .inl (k 0, 12, .inl (u_2.2.2.1 0))), ((n 11), .inl (k 0, 14, .inl fmoreHead)), ((n 12), .inl (k 0, 14, .inl fmoreView)), ((n 13), .inl (k 0, 17, .inl (u_2.2.2.1 1))), ((n 14), .inl (k 0, 17, .inl (u_2.2.2.1 2))), ((n 15), .inl (k 0, 17, .inl (u_2.2.2.1 3)))] → va_S A s.heap H locs → lv_has ls 4 [(3, .int (nI j_63)), (2, .int x_64), (0, .ref (n 0)), (1, .int (nI n_7))] → W p l e (Rm 9 0 0) s m args below meth c H locs 0 0 Q (F0 m 15 ls []) := by
      intro nn
      induction nn with
      | zero => intro j_63 x_64 H locs ls hjj_63 hnj_63; exact absurd hnj_63 (by omega)
      | succ nn ihj_63 =>
        intro j_63 x_64 H locs ls hjj_63 hnj_63 hP hD hS hl
        refine lv_iload_n hx hb dX11_solid_15 rfl (lv_at hl 0 rfl) ?_
        refine lv_aload_n hx hb dX11_solid_16 rfl (lv_at hl 2 rfl) ?_
        refine x_get S hK hP 0 rfl cfX11 1 lkX11_9 (by decide) rfl dX11_solid_17 ?_
        refine lv_iconst (v := 3) hx hb dX11_solid_20 (by decide) ?_
        refine x_iald S hK hP 1 rfl (vp_lit (by decide)) dX11_solid_21 ?_
        refine x_is (nI (wn fworld 3)) ((cl_at (f := fworld) (a := 3) (by decide) (by omega)).trans (okW_at hkworld (i := 3) (by omega))) ?_
        refine lv_icmp_ge (tgt := 87) hx hb dX11_solid_22 (by decide) (fun c_66 => ?_) (fun c_66 => ?_)
        · skip
          have c_66 : wn fworld 3 ≤ j_63 := (ni_le rfl rfl (by omega) (by omega)).mp c_66
          refine lv_iload_n hx hb dX11_solid_87 rfl (lv_at hl 1 rfl) ?_
          exact x_reti S hr hlk hQ hS ((fun i => ([(u_2.1 0), (u_2.1 1), (u_2.1 2), (u_2.1 3), (u_2.1 4), (u_2.1 5)] : List (Int32)).getD i 0), (fun i => ([u_2.2.1 0] : List (Nat)).getD i 0), (fun i => ([(u_2.2.2.1 0), (u_2.2.2.1 1), (u_2.2.2.1 2), (u_2.2.2.1 3), (u_2.2.2.1 4), (u_2.2.2.1 5), (u_2.2.2.1 6)] : List (Nat → Int32)).getD i (fun _ => 0)), (fun i => ([] : List (Nat → Int64)).getD i (fun _ => 0)), (fun i => ([] : List (Int64)).getD i 0)) (show u_2.2.1 0 ≤ 14 by omega) (x_B hP hD) dX11_solid_88
        · skip
          have c_66 : ¬ wn fworld 3 ≤ j_63 := fun q => c_66 ((ni_le rfl rfl (by omega) (by omega)).mpr q)
          refine lv_iload_n hx hb dX11_solid_25 rfl (lv_at hl 1 rfl) ?_
          refine lv_aload_n hx hb dX11_solid_26 rfl (lv_at hl 2 rfl) ?_
          refine lv_iload_n hx hb dX11_solid_27 rfl (lv_at hl 0 rfl) ?_
          refine x_roVi (As := [.int (nI j_63)]) S hK hP hD hZ (fun _ h => h) hA hS hA hl mwX11_rowSet lkX11_258 (ctX11_rowSet l D k z n mthrown mtaped msize mat mfrom mtoken mvalue mfaultKind mfaultPlace (u_2.2.1 0) (u_2.1 0) (u_2.1 1) (u_2.1 2) (u_2.1 3) (u_2.1 4) (u_2.1 5) mroundNow msampleFor msampleAll maskWorst moftenAll moftenView moftenOnes fworld (u_2.2.2.1 6) j_63 (by omega) (by omega) (by omega) (by omega) (by omega) (hkworld) (by omega)) [0, 1, 4] rfl (by decide) rfl rfl rfl rfl rfl ⟨Nat.le_of_ble_eq_true rfl, Nat.le_of_ble_eq_true rfl, Nat.le_of_ble_eq_true rfl⟩ dX11_solid_28 ⟨Nat.le_of_ble_eq_true rfl, Nat.le_of_ble_eq_true rfl⟩ (fun r_67 H locs hr_67 hP hS => ?_)
          refine lv_aload_n hx hb dX11_solid_31 rfl (lv_at hl 2 rfl) ?_
          refine lv_iload_n hx hb dX11_solid_32 rfl (lv_at hl 3 rfl) ?_
          refine x_roVi (As := [.int (nI n_7)]) S hK hP hD hZ (fun _ h => h) hA hS hA hl mwX11_stillThere lkX11_324 (ctX11_stillThere l D k z n mthrown mtaped msize mat mfrom mtoken mvalue mfaultKind mfaultPlace (u_2.2.1 0) (u_2.1 0) (u_2.1 1) (u_2.1 2) (u_2.1 3) (u_2.1 4) (u_2.1 5) mroundNow msampleFor msampleAll maskWorst moftenAll moftenView moftenOnes fworld (u_2.2.2.1 3) n_7 (by omega) (by omega) (by omega) (by omega) (by omega) (hkworld) (by omega)) [0, 1, 10] rfl (by decide) rfl rfl rfl rfl rfl ⟨Nat.le_of_ble_eq_true rfl, Nat.le_of_ble_eq_true rfl, Nat.le_of_ble_eq_true rfl⟩ dX11_solid_33 ⟨Nat.le_of_ble_eq_true rfl, Nat.le_of_ble_eq_true rfl⟩ (fun r_69 H locs hr_69 hP hS => ?_)
          obtain rfl := hr_69
          refine lv_iand hx hb dX11_solid_36 ?_
          refine lv_topi (fun v_71 ev_71 => ?_)
          refine lv_aload_n hx hb dX11_solid_37 rfl (lv_at hl 2 rfl) ?_
          refine x_get S hK hP 0 rfl cfX11 25 lkX11_52 (by decide) rfl dX11_solid_38 ?_
          refine lv_iload_n hx hb dX11_solid_41 rfl (lv_at hl 3 rfl) ?_
          refine x_iald S hK hP 8 rfl (vp_in_nI (by omega) (by decide)) dX11_solid_42 ?_
          refine lv_topi (fun v_72 ev_72 => ?_)
          refine x_roSi (As := [.int v_71, .int v_72]) S hK hP hD hZ (fun _ h => h) hA hS hA hl mwX11_isOne lkX11_351 (ctX11_isOne l D k z v_71 v_72 ) [] rfl (by decide) rfl rfl ⟨Nat.le_of_ble_eq_true rfl, Nat.le_of_ble_eq_true rfl, Nat.le_of_ble_eq_true rfl⟩ dX11_solid_43 ⟨Nat.le_of_ble_eq_true rfl, Nat.le_of_ble_eq_true rfl⟩ (fun r_73 H locs hr_73 hP hS => ?_)
          have hz_75 := hr_73
          refine lv_if_ne (tgt := 72) hx hb dX11_solid_46 (by decide) (fun c_76 => ?_) (fun c_76 => ?_)
          · skip
            refine lv_iconst (v := 1) hx hb dX11_solid_72 (by decide) ?_
            refine lv_iload_n hx hb dX11_solid_73 rfl (lv_at hl 0 rfl) ?_
            refine lv_ishl hx hb dX11_solid_74 ?_
            refine lv_topi (fun v_77 ev_77 => ?_)
            refine lv_goto (tgt := 79) hx hb dX11_solid_75 (by decide) ?_
            refine lv_ior hx hb dX11_solid_79 ?_
            refine lv_topi (fun v_78 ev_78 => ?_)
            refine lv_istore_n (lv' := [(2, .int v_78), (3, .int (nI j_63)), (0, .ref (n 0)), (1, .int (nI n_7))]) hx hb dX11_solid_80 rfl hl (by decide) rfl (fun ls hl => ?_)
            refine lv_iinc (v := (nI (j_63 + 1))) (lv' := [(3, .int (nI (j_63 + 1))), (2, .int v_78), (0, .ref (n 0)), (1, .int (nI n_7))]) hx hb dX11_solid_81 hl (k := 1) rfl (ni_inc _) (by decide) rfl (fun ls hl => ?_)
            refine lv_goto (tgt := 15) hx hb dX11_solid_84 (by decide) ?_
            exact ihj_63 (j_63 + 1) v_78 _ _ _ (by omega) (by omega) hP hD hS (lv_sub hl [0, 1, 2, 3] rfl)
          · skip
            refine lv_aload_n hx hb dX11_solid_49 rfl (lv_at hl 2 rfl) ?_
            refine lv_iload_n hx hb dX11_solid_50 rfl (lv_at hl 0 rfl) ?_
            refine x_roVi (As := [.int (nI j_63)]) S hK hP hD hZ (fun _ h => h) hA hS hA hl mwX11_rowSet lkX11_258 (ctX11_rowSet l D k z n mthrown mtaped msize mat mfrom mtoken mvalue mfaultKind mfaultPlace (u_2.2.1 0) (u_2.1 0) (u_2.1 1) (u_2.1 2) (u_2.1 3) (u_2.1 4) (u_2.1 5) mroundNow msampleFor msampleAll maskWorst moftenAll moftenView moftenOnes fworld (u_2.2.2.1 6) j_63 (by omega) (by omega) (by omega) (by omega) (by omega) (hkworld) (by omega)) [0, 1, 4] rfl (by decide) rfl rfl rfl rfl rfl ⟨Nat.le_of_ble_eq_true rfl, Nat.le_of_ble_eq_true rfl, Nat.le_of_ble_eq_true rfl⟩ dX11_solid_51 ⟨Nat.le_of_ble_eq_true rfl, Nat.le_of_ble_eq_true rfl⟩ (fun r_79 H locs hr_79 hP hS => ?_)
            refine lv_aload_n hx hb dX11_solid_54 rfl (lv_at hl 2 rfl) ?_
            refine lv_iload_n hx hb dX11_solid_55 rfl (lv_at hl 3 rfl) ?_
            refine x_roVi (As := [.int (nI n_7)]) S hK hP hD hZ (fun _ h => h) hA hS hA hl mwX11_stillThere lkX11_324 (ctX11_stillThere l D k z n mthrown mtaped msize mat mfrom mtoken mvalue mfaultKind mfaultPlace (u_2.2.1 0) (u_2.1 0) (u_2.1 1) (u_2.1 2) (u_2.1 3) (u_2.1 4) (u_2.1 5) mroundNow msampleFor msampleAll maskWorst moftenAll moftenView moftenOnes fworld (u_2.2.2.1 3) n_7 (by omega) (by omega) (by omega) (by omega) (by omega) (hkworld) (by omega)) [0, 1, 10] rfl (by decide) rfl rfl rfl rfl rfl ⟨Nat.le_of_ble_eq_true rfl, Nat.le_of_ble_eq_true rfl, Nat.le_of_ble_eq_true rfl⟩ dX11_solid_56 ⟨Nat.le_of_ble_eq_true rfl, Nat.le_of_ble_eq_true rfl⟩ (fun r_81 H locs hr_81 hP hS => ?_)
            obtain rfl := hr_81
            refine lv_iand hx hb dX11_solid_59 ?_
            refine lv_topi (fun v_83 ev_83 => ?_)
            refine lv_aload_n hx hb dX11_solid_60 rfl (lv_at hl 2 rfl) ?_
            refine x_get S hK hP 0 rfl cfX11 26 lkX11_55 (by decide) rfl dX11_solid_61 ?_
            refine lv_iload_n hx hb dX11_solid_64 rfl (lv_at hl 3 rfl) ?_
            refine x_iald S hK hP 9 rfl (vp_in_nI (by omega) (by decide)) dX11_solid_65 ?_
            refine lv_topi (fun v_84 ev_84 => ?_)
            refine x_roSi (As := [.int v_83, .int v_84]) S hK hP hD hZ (fun _ h => h) hA hS hA hl mwX11_isOne lkX11_351 (ctX11_isOne l D k z v_83 v_84 ) [] rfl (by decide) rfl rfl ⟨Nat.le_of_ble_eq_true rfl, Nat.le_of_ble_eq_true rfl, Nat.le_of_ble_eq_true rfl⟩ dX11_solid_66 ⟨Nat.le_of_ble_eq_true rfl, Nat.le_of_ble_eq_true rfl⟩ (fun r_85 H locs hr_85 hP hS => ?_)
            have hz_87 := hr_85
            refine lv_if_eq (tgt := 78) hx hb dX11_solid_69 (by decide) (fun c_88 => ?_) (fun c_88 => ?_)
            · skip
              refine lv_iconst (v := 0) hx hb dX11_solid_78 (by decide) ?_
              refine lv_ior hx hb dX11_solid_79 ?_
              refine lv_topi (fun v_89 ev_89 => ?_)
              refine lv_istore_n (lv' := [(2, .int v_89), (3, .int (nI j_63)), (0, .ref (n 0)), (1, .int (nI n_7))]) hx hb dX11_solid_80 rfl hl (by decide) rfl (fun ls hl => ?_)
              refine lv_iinc (v := (nI (j_63 + 1))) (lv' := [(3, .int (nI (j_63 + 1))), (2, .int v_89), (0, .ref (n 0)), (1, .int (nI n_7))]) hx hb dX11_solid_81 hl (k := 1) rfl (ni_inc _) (by decide) rfl (fun ls hl => ?_)
              refine lv_goto (tgt := 15) hx hb dX11_solid_84 (by decide) ?_
              exact ihj_63 (j_63 + 1) v_89 _ _ _ (by omega) (by omega) hP hD hS (lv_sub hl [0, 1, 2, 3] rfl)
            · skip
              refine lv_iconst (v := 1) hx hb dX11_solid_72 (by decide) ?_
              refine lv_iload_n hx hb dX11_solid_73 rfl (lv_at hl 0 rfl) ?_
              refine lv_ishl hx hb dX11_solid_74 ?_
              refine lv_topi (fun v_90 ev_90 => ?_)
              refine lv_goto (tgt := 79) hx hb dX11_solid_75 (by decide) ?_
              refine lv_ior hx hb dX11_solid_79 ?_
              refine lv_topi (fun v_91 ev_91 => ?_)
              refine lv_istore_n (lv' := [(2, .int v_91), (3, .int (nI j_63)), (0, .ref (n 0)), (1, .int (nI n_7))]) hx hb dX11_solid_80 rfl hl (by decide) rfl (fun ls hl => ?_)
              refine lv_iinc (v := (nI (j_63 + 1))) (lv' := [(3, .int (nI (j_63 + 1))), (2, .int v_91), (0, .ref (n 0)), (1, .int (nI n_7))]) hx hb dX11_solid_81 hl (k := 1) rfl (ni_inc _) (by decide) rfl (fun ls hl => ?_)
              refine lv_goto (tgt := 15) hx hb dX11_solid_84 (by decide) ?_
              exact ihj_63 (j_63 + 1) v_91 _ _ _ (by omega) (by omega) hP hD hS (lv_sub hl [0, 1, 2, 3] rfl)
    exact lp_65 (wn fworld 3 + 1) 0 0 _ _ _ (by omega) (by omega) hP hD hS (lv_sub hl [0, 1, 2, 3] rfl)
  · skip
    refine lv_bipush (v := (-2)) hx hb dX11_solid_8 (by decide) ?_
    exact x_reti S hr hlk hQ hS ((fun i => ([(u_2.1 0), (u_2.1 1), (u_2.1 2), (u_2.1 3), (u_2.1 4), (u_2.1 5)] : List (Int32)).getD i 0), (fun i => ([u_2.2.1 0] : List (Nat)).getD i 0), (fun i => ([(u_2.2.2.1 0), (u_2.2.2.1 1), (u_2.2.2.1 2), (u_2.2.2.1 3), (u_2.2.2.1 4), (u_2.2.2.1 5), (u_2.2.2.1 6)] : List (Nat → Int32)).getD i (fun _ => 0)), (fun i => ([] : List (Nat → Int64)).getD i (fun _ => 0)), (fun i => ([] : List (Int64)).getD i 0)) (show u_2.2.1 0 ≤ 14 by omega) (x_B hP hD) dX11_solid_10

set_option maxHeartbeats 4000000 in
set_option maxRecDepth 100000 in
theorem ctX11_longest (l : Launch) (D : va_G) (k : Nat → ClassId) (z : Nat → Nat) (n : Nat → Nat) (mthrown : Int32) (mtaped : Nat) (msize : Nat) (mat : Nat) (mfrom : Nat) (mtoken : Int32) (mvalue : Int32) (mfaultKind : Int32) (mfaultPlace : Int32) (mmoreMany : Nat) (mlawNow : Int32) (mwetSet : Int32) (moverAll : Int32) (mones : Int32) (mtwos : Int32) (mgone : Int32) (mroundNow : Int32) (msampleFor : Int64) (msampleAll : Int64) (maskWorst : Int32) (moftenAll : Int64) (moftenView : Int64) (moftenOnes : Int64) (fworld : Nat → Int32) (frowOf : Nat → Int32) (fplaceOf : Nat → Int32) (ffirstOf : Nat → Int32) (fhardNow : Nat → Int32) (fmoreHead : Nat → Int32) (fmoreView : Nat → Int32) (fonesAt : Nat → Int32) (ftwosAt : Nat → Int32) (fgoneAt : Nat → Int32) (p0 : Int32) (p1 : Int32) (hmtaped : mtaped ≤ 600) (hmsize : msize ≤ 600) (hmat : mat ≤ 600) (hmfrom : mfrom ≤ 600) (hmmoreMany : mmoreMany ≤ 14) (hkworld : okW fworld) : MU l yX11_longest cX11_longest 7 (some .int) 9 D k z [.ref (n 0), .int p0, .int p1] [((n 0), .inr (11, [.int mthrown, .ref (n 1), .ref (n 2), .ref (n 3), .ref (n 4), .int (nI mtaped), .ref (n 5), .int (nI msize), .int (nI mat), .int (nI mfrom), .int mtoken, .int mvalue, .int mfaultKind, .int mfaultPlace, .ref (n 6), .ref (n 7), .ref (n 8), .ref (n 9), .ref (n 10), .ref (n 11), .ref (n 12), .int (nI mmoreMany), .int mlawNow, .int mwetSet, .int moverAll, .ref (n 13), .ref (n 14), .ref (n 15), .int mones, .int mtwos, .int mgone, .ref (n 16), .ref (n 17), .int mroundNow, .ref (n 18), .long msampleFor, .long msampleAll, .ref (n 19), .int maskWorst, .long moftenAll, .long moftenView, .long moftenOnes, .ref (n 20), .ref (n 21), .ref (n 22), .ref (n 23)])), ((n 1), .inl (k 0, 99, .inl fworld)), ((n 7), .inl (k 0, 12, .inl frowOf)), ((n 8), .inl (k 0, 12, .inl fplaceOf)), ((n 9), .inl (k 0, 4, .inl ffirstOf)), ((n 10), .inl (k 0, 12, .inl fhardNow)), ((n 11), .inl (k 0, 14, .inl fmoreHead)), ((n 12), .inl (k 0, 14, .inl fmoreView)), ((n 13), .inl (k 0, 17, .inl fonesAt)), ((n 14), .inl (k 0, 17, .inl ftwosAt)), ((n 15), .inl (k 0, 17, .inl fgoneAt))] 0 0 (Ui D (fun (r : Int32) (u : (Nat → Int32) × (Nat → Nat) × (Nat → Nat → Int32) × (Nat → Nat → Int64) × (Nat → Int64)) => (u.2.1 0 ≤ 14)) (fun u : (Nat → Int32) × (Nat → Nat) × (Nat → Nat → Int32) × (Nat → Nat → Int64) × (Nat → Int64) => [((n 0), .inr (11, [.int mthrown, .ref (n 1), .ref (n 2), .ref (n 3), .ref (n 4), .int (nI mtaped), .ref (n 5), .int (nI msize), .int (nI mat), .int (nI mfrom), .int mtoken, .int mvalue, .int mfaultKind, .int mfaultPlace, .ref (n 6), .ref (n 7), .ref (n 8), .ref (n 9), .ref (n 10), .ref (n 11), .ref (n 12), .int (nI (u.2.1 0)), .int (u.1 0), .int (u.1 1), .int (u.1 2), .ref (n 13), .ref (n 14), .ref (n 15), .int (u.1 3), .int (u.1 4), .int (u.1 5), .ref (n 16), .ref (n 17), .int mroundNow, .ref (n 18), .long msampleFor, .long msampleAll, .ref (n 19), .int maskWorst, .long moftenAll, .long moftenView, .long moftenOnes, .ref (n 20), .ref (n 21), .ref (n 22), .ref (n 23)])), ((n 1), .inl (k 0, 99, .inl fworld)), ((n 7), .inl (k 0, 12, .inl (u.2.2.1 4))), ((n 8), .inl (k 0, 12, .inl (u.2.2.1 5))), ((n 9), .inl (k 0, 4, .inl (u.2.2.1 6))), ((n 10), .inl (k 0, 12, .inl (u.2.2.1 0))), ((n 11), .inl (k 0, 14, .inl fmoreHead)), ((n 12), .inl (k 0, 14, .inl fmoreView)), ((n 13), .inl (k 0, 17, .inl (u.2.2.1 1))), ((n 14), .inl (k 0, 17, .inl (u.2.2.1 2))), ((n 15), .inl (k 0, 17, .inl (u.2.2.1 3)))])) := by
  refine MU.of (by decide) (Nat.le_of_ble_eq_true rfl) ?_
  intro p e s m below meth c ls A args Q S hr hlk hnm hQ hK hP hD hZ hA hS hl
  have hx := S.1
  have hb := S.2.1
  have hl : lv_has ls 7 [(0, .ref (n 0)), (1, .int p0), (2, .int p1)] := hl
  have hbfworld := okW_bd hkworld
  refine lv_aload_n hx hb dX11_longest_0 rfl (lv_at hl 0 rfl) ?_
  refine lv_iload_n hx hb dX11_longest_1 rfl (lv_at hl 2 rfl) ?_
  refine x_muVi (wr := []) (As := [.int p1]) S hK hP hD hZ hS hA hl mwX11_asksHour lkX11_330 (ctX11_asksHour l D k z n mthrown mtaped msize mat mfrom mtoken mvalue mfaultKind mfaultPlace mmoreMany mlawNow mwetSet moverAll mones mtwos mgone mroundNow msampleFor msampleAll maskWorst moftenAll moftenView moftenOnes fworld frowOf fplaceOf ffirstOf fhardNow fmoreHead fmoreView fonesAt ftwosAt fgoneAt p1 (by omega) (by omega) (by omega) (by omega) (by omega) (hkworld)) [0, 1, 2, 3, 4, 5, 6, 7, 8, 9, 10] [] rfl rfl (by decide) (by decide) (by decide) rfl rfl rfl rfl rfl ⟨Nat.le_of_ble_eq_true rfl, Nat.le_of_ble_eq_true rfl, Nat.le_of_ble_eq_true rfl⟩ dX11_longest_2 ⟨Nat.le_of_ble_eq_true rfl, Nat.le_of_ble_eq_true rfl⟩ (fun r_1 u_2 H locs hr_1 hP hD hS => ?_)
  have hP : va_P D vwCl [((n 0), .inr (11, [.int mthrown, .ref (n 1), .ref (n 2), .ref (n 3), .ref (n 4), .int (nI mtaped), .ref (n 5), .int (nI msize), .int (nI mat), .int (nI mfrom), .int mtoken, .int mvalue, .int mfaultKind, .int mfaultPlace, .ref (n 6), .ref (n 7), .ref (n 8), .ref (n 9), .ref (n 10), .ref (n 11), .ref (n 12), .int (nI (u_2.2.1 0)), .int (u_2.1 0), .int (u_2.1 1), .int (u_2.1 2), .ref (n 13), .ref (n 14), .ref (n 15), .int (u_2.1 3), .int (u_2.1 4), .int (u_2.1 5), .ref (n 16), .ref (n 17), .int mroundNow, .ref (n 18), .long msampleFor, .long msampleAll, .ref (n 19), .int maskWorst, .long moftenAll, .long moftenView, .long moftenOnes, .ref (n 20), .ref (n 21), .ref (n 22), .ref (n 23)])), ((n 1), .inl (k 0, 99, .inl fworld)), ((n 7), .inl (k 0, 12, .inl (u_2.2.2.1 4))), ((n 8), .inl (k 0, 12, .inl (u_2.2.2.1 5))), ((n 9), .inl (k 0, 4, .inl (u_2.2.2.1 6))), ((n 10), .inl (k 0, 12, .inl (u_2.2.2.1 0))), ((n 11), .inl (k 0, 14, .inl fmoreHead)), ((n 12), .inl (k 0, 14, .inl fmoreView)), ((n 13), .inl (k 0, 17, .inl (u_2.2.2.1 1))), ((n 14), .inl (k 0, 17, .inl (u_2.2.2.1 2))), ((n 15), .inl (k 0, 17, .inl (u_2.2.2.1 3)))] H := hP.sub [0, 1, 2, 3, 4, 5, 6, 7, 8, 9, 10] rfl
  have hD : va_D A [((n 0), .inr (11, [.int mthrown, .ref (n 1), .ref (n 2), .ref (n 3), .ref (n 4), .int (nI mtaped), .ref (n 5), .int (nI msize), .int (nI mat), .int (nI mfrom), .int mtoken, .int mvalue, .int mfaultKind, .int mfaultPlace, .ref (n 6), .ref (n 7), .ref (n 8), .ref (n 9), .ref (n 10), .ref (n 11), .ref (n 12), .int (nI (u_2.2.1 0)), .int (u_2.1 0), .int (u_2.1 1), .int (u_2.1 2), .ref (n 13), .ref (n 14), .ref (n 15), .int (u_2.1 3), .int (u_2.1 4), .int (u_2.1 5), .ref (n 16), .ref (n 17), .int mroundNow, .ref (n 18), .long msampleFor, .long msampleAll, .ref (n 19), .int maskWorst, .long moftenAll, .long moftenView, .long moftenOnes, .ref (n 20), .ref (n 21), .ref (n 22), .ref (n 23)])), ((n 1), .inl (k 0, 99, .inl fworld)), ((n 7), .inl (k 0, 12, .inl (u_2.2.2.1 4))), ((n 8), .inl (k 0, 12, .inl (u_2.2.2.1 5))), ((n 9), .inl (k 0, 4, .inl (u_2.2.2.1 6))), ((n 10), .inl (k 0, 12, .inl (u_2.2.2.1 0))), ((n 11), .inl (k 0, 14, .inl fmoreHead)), ((n 12), .inl (k 0, 14, .inl fmoreView)), ((n 13), .inl (k 0, 17, .inl (u_2.2.2.1 1))), ((n 14), .inl (k 0, 17, .inl (u_2.2.2.1 2))), ((n 15), .inl (k 0, 17, .inl (u_2.2.2.1 3)))] := hD.sub [0, 1, 2, 3, 4, 5, 6, 7, 8, 9, 10] (by decide) rfl
  obtain ⟨hp_3, hz_4, hg_5⟩ := hr_1
  refine lv_if_eq (tgt := 16) hx hb dX11_longest_5 (by decide) (fun c_6 => ?_) (fun c_6 => ?_)
  · skip
    refine lv_bipush (v := (-2)) hx hb dX11_longest_16 (by decide) ?_
    exact x_reti S hr hlk hQ hS ((fun i => ([(u_2.1 0), (u_2.1 1), (u_2.1 2), (u_2.1 3), (u_2.1 4), (u_2.1 5)] : List (Int32)).getD i 0), (fun i => ([u_2.2.1 0] : List (Nat)).getD i 0), (fun i => ([(u_2.2.2.1 0), (u_2.2.2.1 1), (u_2.2.2.1 2), (u_2.2.2.1 3), (u_2.2.2.1 4), (u_2.2.2.1 5), (u_2.2.2.1 6)] : List (Nat → Int32)).getD i (fun _ => 0)), (fun i => ([] : List (Nat → Int64)).getD i (fun _ => 0)), (fun i => ([] : List (Int64)).getD i 0)) (show u_2.2.1 0 ≤ 14 by omega) (x_B hP hD) dX11_longest_18
  · skip
    obtain ⟨n_7, rfl, hn_7⟩ := hp_3.resolve_left c_6
    refine lv_iload_n hx hb dX11_longest_8 rfl (lv_at hl 1 rfl) ?_
    refine lv_i2l (v := p0.toInt64) hx hb dX11_longest_9 rfl ?_
    refine x_roSi (As := [.long p0.toInt64]) S hK hP hD hZ (fun _ h => h) hA hS hA hl mwX11_isAny lkX11_336 (ctX11_isAny l D k z p0.toInt64 ) [] rfl (by decide) rfl rfl ⟨Nat.le_of_ble_eq_true rfl, Nat.le_of_ble_eq_true rfl, Nat.le_of_ble_eq_true rfl⟩ dX11_longest_10 ⟨Nat.le_of_ble_eq_true rfl, Nat.le_of_ble_eq_true rfl⟩ (fun r_8 H locs hr_8 hP hS => ?_)
    obtain rfl := hr_8
    refine lv_if_ne (tgt := 19) hx hb dX11_longest_13 (by decide) (fun c_10 => ?_) (fun c_10 => ?_)
    · skip
      have c_10 : 0 ≤ p0.toInt64 ∧ p0.toInt64 ≤ 2 := bo_1.mp c_10
      refine lv_iconst (v := 0) hx hb dX11_longest_19 (by decide) ?_
      refine lv_istore_n (lv' := [(3, .int 0), (0, .ref (n 0)), (1, .int p0), (2, .int (nI n_7))]) hx hb dX11_longest_20 rfl hl (by decide) rfl (fun ls hl => ?_)
      refine lv_iconst (v := 0) hx hb dX11_longest_21 (by decide) ?_
      refine lv_istore (lv' := [(4, .int 0), (3, .int 0), (0, .ref (n 0)), (1, .int p0), (2, .int (nI n_7))]) hx hb dX11_longest_22 hl (by decide) rfl (fun ls hl => ?_)
      refine lv_iconst (v := 0) hx hb dX11_longest_24 (by decide) ?_
      refine lv_istore (lv' := [(5, .int 0), (4, .int 0), (3, .int 0), (0, .ref (n 0)), (1, .int p0), (2, .int (nI n_7))]) hx hb dX11_longest_25 hl (by decide) rfl (fun ls hl => ?_)
      have lp_55 : ∀ (nn j_52 : Nat) (x_53 : Int32) (x_54 : Int32) (H : Heap) (locs : List Loc) (ls : Array Slot), j_52 ≤ wn fworld 4 → wn fworld 4 - j_52 < nn → va_P D vwCl [((n 0), .inr (11, [.int mthrown, .ref (n 1), .ref (n 2), .ref (n 3), .ref (n 4), .int (nI mtaped), .ref (n 5), .int (nI msize), .int (nI mat), .int (nI mfrom), .int mtoken, .int mvalue, .int mfaultKind, .int mfaultPlace, .ref (n 6), .ref (n 7), .ref (n 8), .ref (n 9), .ref (n 10), .ref (n 11), .ref (n 12), .int (nI (u_2.2.1 0)), .int (u_2.1 0), .int (u_2.1 1), .int (u_2.1 2), .ref (n 13), .ref (n 14), .ref (n 15), .int (u_2.1 3), .int (u_2.1 4), .int (u_2.1 5), .ref (n 16), .ref (n 17), .int mroundNow, .ref (n 18), .long msampleFor, .long msampleAll, .ref (n 19), .int maskWorst, .long moftenAll, .long moftenView, .long moftenOnes, .ref (n 20), .ref (n 21), .ref (n 22), .ref (n 23)])), ((n 1), .inl (k 0, 99, .inl fworld)), ((n 7), .inl (k 0, 12, .inl (u_2.2.2.1 4))), ((n 8), .inl (k 0, 12, .inl (u_2.2.2.1 5))), ((n 9), .inl (k 0, 4, .inl (u_2.2.2.1 6))), ((n 10), .inl (k 0, 12, .inl (u_2.2.2.1 0))), ((n 11), .inl (k 0, 14, .inl fmoreHead)), ((n 12), .inl (k 0, 14, .inl fmoreView)), ((n 13), .inl (k 0, 17, .inl (u_2.2.2.1 1))), ((n 14), .inl (k 0, 17, .inl (u_2.2.2.1 2))), ((n 15), .inl (k 0, 17, .inl (u_2.2.2.1 3)))] H → va_D A [((n 0), .inr (11, [.int mthrown, .ref (n 1), .ref (n 2), .ref (n 3), .ref (n 4), .int (nI mtaped), .ref (n 5), .int (nI msize), .int (nI mat), .int (nI mfrom), .int mtoken, .int mvalue, .int mfaultKind, .int mfaultPlace, .ref (n 6), .ref (n 7), .ref (n 8), .ref (n 9), .ref (n 10), .ref (n 11), .ref (n 12), .int (nI (u_2.2.1 0)), .int (u_2.1 0), .int (u_2.1 1), .int (u_2.1 2), .ref (n 13), .ref (n 14), .ref (n 15), .int (u_2.1 3), .int (u_2.1 4), .int (u_2.1 5), .ref (n 16), .ref (n 17), .int mroundNow, .ref (n 18), .long msampleFor, .long msampleAll, .ref (n 19), .int maskWorst, .long moftenAll, .long moftenView, .long moftenOnes, .ref (n 20), .ref (n 21), .ref (n 22), .ref (n 23)])), ((n 1), .inl (k 0, 99, .inl fworld)), ((n 7), .inl (k 0, 12, .inl (u_2.2.2.1 4))), ((n 8), .inl (k 0, 12, .inl (u_2.2.2.1 5))), ((n 9), .inl (k 0, 4, .inl (u_2.2.2.1 6))), ((n 10), .inl (k 0, 12, .inl (u_2.2.2.1 0))), ((n 11), .inl (k 0, 14, .inl fmoreHead)), ((n 12), .inl (k 0, 14, .inl fmoreView)), ((n 13), .inl (k 0, 17, .inl (u_2.2.2.1 1))), ((n 14), .inl (k 0, 17, .inl (u_2.2.2.1 2))), ((n 15), .inl (k 0, 17, .inl (u_2.2.2.1 3)))] → va_S A s.heap H locs → lv_has ls 7 [(5, .int (nI j_52)), (4, .int x_54), (3, .int x_53), (0, .ref (n 0)), (1, .int p0), (2, .int (nI n_7))] → W p l e (Rm 9 0 0) s m args below meth c H locs 0 0 Q (F0 m 27 ls []) := by
        intro nn
        induction nn with
        | zero => intro j_52 x_53 x_54 H locs ls hjj_52 hnj_52; exact absurd hnj_52 (by omega)
        | succ nn ihj_52 =>
          intro j_52 x_53 x_54 H locs ls hjj_52 hnj_52 hP hD hS hl
          refine lv_iload hx hb dX11_longest_27 (lv_at hl 0 rfl) ?_
          refine lv_aload_n hx hb dX11_longest_29 rfl (lv_at hl 3 rfl) ?_
          refine x_roVi (As := []) S hK hP hD hZ (fun _ h => h) hA hS hA hl mwX11_headMany lkX11_95 (ctX11_headMany l D k z n mthrown mtaped msize mat mfrom mtoken mvalue mfaultKind mfaultPlace (u_2.2.1 0) (u_2.1 0) (u_2.1 1) (u_2.1 2) (u_2.1 3) (u_2.1 4) (u_2.1 5) mroundNow msampleFor msampleAll maskWorst moftenAll moftenView moftenOnes fworld (by omega) (by omega) (by omega) (by omega) (by omega) (hkworld)) [0, 1] rfl (by decide) rfl rfl rfl rfl rfl ⟨Nat.le_of_ble_eq_true rfl, Nat.le_of_ble_eq_true rfl, Nat.le_of_ble_eq_true rfl⟩ dX11_longest_30 ⟨Nat.le_of_ble_eq_true rfl, Nat.le_of_ble_eq_true rfl⟩ (fun r_56 H locs hr_56 hP hS => ?_)
          obtain rfl := hr_56
          refine lv_icmp_ge (tgt := 100) hx hb dX11_longest_33 (by decide) (fun c_58 => ?_) (fun c_58 => ?_)
          · skip
            have c_58 : wn fworld 4 ≤ j_52 := (ni_le rfl rfl (by omega) (by omega)).mp c_58
            refine lv_iload_n hx hb dX11_longest_100 rfl (lv_at hl 2 rfl) ?_
            exact x_reti S hr hlk hQ hS ((fun i => ([(u_2.1 0), (u_2.1 1), (u_2.1 2), (u_2.1 3), (u_2.1 4), (u_2.1 5)] : List (Int32)).getD i 0), (fun i => ([u_2.2.1 0] : List (Nat)).getD i 0), (fun i => ([(u_2.2.2.1 0), (u_2.2.2.1 1), (u_2.2.2.1 2), (u_2.2.2.1 3), (u_2.2.2.1 4), (u_2.2.2.1 5), (u_2.2.2.1 6)] : List (Nat → Int32)).getD i (fun _ => 0)), (fun i => ([] : List (Nat → Int64)).getD i (fun _ => 0)), (fun i => ([] : List (Int64)).getD i 0)) (show u_2.2.1 0 ≤ 14 by omega) (x_B hP hD) dX11_longest_101
          · skip
            have c_58 : ¬ wn fworld 4 ≤ j_52 := fun q => c_58 ((ni_le rfl rfl (by omega) (by omega)).mpr q)
            refine lv_aload_n hx hb dX11_longest_36 rfl (lv_at hl 3 rfl) ?_
            refine lv_iload_n hx hb dX11_longest_37 rfl (lv_at hl 4 rfl) ?_
            refine lv_iload_n hx hb dX11_longest_38 rfl (lv_at hl 5 rfl) ?_
            refine x_roVi (As := [.int p0, .int (nI n_7)]) S hK hP hD hZ (fun _ h => h) hA hS hA hl mwX11_holdingOf lkX11_327 (ctX11_holdingOf l D k z n mthrown mtaped msize mat mfrom mtoken mvalue mfaultKind mfaultPlace (u_2.2.1 0) (u_2.1 0) (u_2.1 1) (u_2.1 2) (u_2.1 3) (u_2.1 4) (u_2.1 5) mroundNow msampleFor msampleAll maskWorst moftenAll moftenView moftenOnes fworld (u_2.2.2.1 1) (u_2.2.2.1 2) (u_2.2.2.1 3) p0 n_7 (by omega) (by omega) (by omega) (by omega) (by omega) (hkworld) (by omega)) [0, 1, 8, 9, 10] rfl (by decide) rfl rfl rfl rfl rfl ⟨Nat.le_of_ble_eq_true rfl, Nat.le_of_ble_eq_true rfl, Nat.le_of_ble_eq_true rfl⟩ dX11_longest_39 ⟨Nat.le_of_ble_eq_true rfl, Nat.le_of_ble_eq_true rfl⟩ (fun r_59 H locs hr_59 hP hS => ?_)
            refine lv_iload hx hb dX11_longest_42 (lv_at hl 0 rfl) ?_
            refine x_roSi (As := [.int r_59, .int (nI j_52)]) S hK hP hD hZ (fun _ h => h) hA hS hA hl mwX11_bit lkX11_274 (ctX11_bit l D k z r_59 (nI j_52) ) [] rfl (by decide) rfl rfl ⟨Nat.le_of_ble_eq_true rfl, Nat.le_of_ble_eq_true rfl, Nat.le_of_ble_eq_true rfl⟩ dX11_longest_44 ⟨Nat.le_of_ble_eq_true rfl, Nat.le_of_ble_eq_true rfl⟩ (fun r_61 H locs hr_61 hP hS => ?_)
            refine lv_iconst (v := 1) hx hb dX11_longest_47 (by decide) ?_
            refine lv_icmp_ne (tgt := 55) hx hb dX11_longest_48 (by decide) (fun c_63 => ?_) (fun c_63 => ?_)
            · skip
              refine lv_iconst (v := 0) hx hb dX11_longest_55 (by decide) ?_
              refine lv_istore (lv' := [(6, .int 0), (5, .int (nI j_52)), (4, .int x_54), (3, .int x_53), (0, .ref (n 0)), (1, .int p0), (2, .int (nI n_7))]) hx hb dX11_longest_56 hl (by decide) rfl (fun ls hl => ?_)
              refine lv_iload hx hb dX11_longest_58 (lv_at hl 0 rfl) ?_
              refine lv_if_ne (tgt := 67) hx hb dX11_longest_60 (by decide) (fun c_64 => absurd (by decide) c_64) (fun c_64 => ?_)
              refine lv_iconst (v := 0) hx hb dX11_longest_63 (by decide) ?_
              refine lv_goto (tgt := 85) hx hb dX11_longest_64 (by decide) ?_
              refine lv_istore (lv' := [(4, .int 0), (6, .int 0), (5, .int (nI j_52)), (3, .int x_53), (0, .ref (n 0)), (1, .int p0), (2, .int (nI n_7))]) hx hb dX11_longest_85 hl (by decide) rfl (fun ls hl => ?_)
              refine lv_iload_n hx hb dX11_longest_87 rfl (lv_at hl 3 rfl) ?_
              refine lv_iload hx hb dX11_longest_88 (lv_at hl 0 rfl) ?_
              refine x_mmax S hl lkX11_355 (Nat.le_of_ble_eq_true rfl) (Nat.le_of_ble_eq_true rfl) ⟨Nat.le_of_ble_eq_true rfl, Nat.le_of_ble_eq_true rfl⟩ dX11_longest_90 (fun v_65 ev_65 => ?_)
              refine lv_istore_n (lv' := [(3, .int v_65), (4, .int 0), (6, .int 0), (5, .int (nI j_52)), (0, .ref (n 0)), (1, .int p0), (2, .int (nI n_7))]) hx hb dX11_longest_93 rfl hl (by decide) rfl (fun ls hl => ?_)
              refine lv_iinc (v := (nI (j_52 + 1))) (lv' := [(5, .int (nI (j_52 + 1))), (3, .int v_65), (4, .int 0), (6, .int 0), (0, .ref (n 0)), (1, .int p0), (2, .int (nI n_7))]) hx hb dX11_longest_94 hl (k := 3) rfl (ni_inc _) (by decide) rfl (fun ls hl => ?_)
              refine lv_goto (tgt := 27) hx hb dX11_longest_97 (by decide) ?_
              exact ihj_52 (j_52 + 1) v_65 0 _ _ _ (by omega) (by omega) hP hD hS (lv_sub hl [0, 2, 1, 4, 5, 6] rfl)
            · skip
              refine lv_iconst (v := 1) hx hb dX11_longest_51 (by decide) ?_
              refine lv_goto (tgt := 56) hx hb dX11_longest_52 (by decide) ?_
              refine lv_istore (lv' := [(6, .int 1), (5, .int (nI j_52)), (4, .int x_54), (3, .int x_53), (0, .ref (n 0)), (1, .int p0), (2, .int (nI n_7))]) hx hb dX11_longest_56 hl (by decide) rfl (fun ls hl => ?_)
              refine lv_iload hx hb dX11_longest_58 (lv_at hl 0 rfl) ?_
              refine lv_if_ne (tgt := 67) hx hb dX11_longest_60 (by decide) (fun c_66 => ?_) (fun c_66 => absurd c_66 (by decide))
              refine lv_aload_n hx hb dX11_longest_67 rfl (lv_at hl 4 rfl) ?_
              refine x_get S hK hP 0 rfl cfX11 16 lkX11_37 (by decide) rfl dX11_longest_68 ?_
              refine lv_iload hx hb dX11_longest_71 (lv_at hl 1 rfl) ?_
              refine x_iald S hK hP 3 rfl (vp_in_nI (by omega) (by decide)) dX11_longest_73 ?_
              refine lv_topi (fun v_67 ev_67 => ?_)
              refine lv_if_ne (tgt := 81) hx hb dX11_longest_74 (by decide) (fun c_68 => ?_) (fun c_68 => ?_)
              · skip
                refine lv_iload hx hb dX11_longest_81 (lv_at hl 2 rfl) ?_
                refine lv_iconst (v := 1) hx hb dX11_longest_83 (by decide) ?_
                refine lv_iadd hx hb dX11_longest_84 ?_
                refine lv_topi (fun v_69 ev_69 => ?_)
                refine lv_istore (lv' := [(4, .int v_69), (6, .int 1), (5, .int (nI j_52)), (3, .int x_53), (0, .ref (n 0)), (1, .int p0), (2, .int (nI n_7))]) hx hb dX11_longest_85 hl (by decide) rfl (fun ls hl => ?_)
                refine lv_iload_n hx hb dX11_longest_87 rfl (lv_at hl 3 rfl) ?_
                refine lv_iload hx hb dX11_longest_88 (lv_at hl 0 rfl) ?_
                refine x_mmax S hl lkX11_355 (Nat.le_of_ble_eq_true rfl) (Nat.le_of_ble_eq_true rfl) ⟨Nat.le_of_ble_eq_true rfl, Nat.le_of_ble_eq_true rfl⟩ dX11_longest_90 (fun v_70 ev_70 => ?_)
                refine lv_istore_n (lv' := [(3, .int v_70), (4, .int v_69), (6, .int 1), (5, .int (nI j_52)), (0, .ref (n 0)), (1, .int p0), (2, .int (nI n_7))]) hx hb dX11_longest_93 rfl hl (by decide) rfl (fun ls hl => ?_)
                refine lv_iinc (v := (nI (j_52 + 1))) (lv' := [(5, .int (nI (j_52 + 1))), (3, .int v_70), (4, .int v_69), (6, .int 1), (0, .ref (n 0)), (1, .int p0), (2, .int (nI n_7))]) hx hb dX11_longest_94 hl (k := 3) rfl (ni_inc _) (by decide) rfl (fun ls hl => ?_)
                refine lv_goto (tgt := 27) hx hb dX11_longest_97 (by decide) ?_
                exact ihj_52 (j_52 + 1) v_70 v_69 _ _ _ (by omega) (by omega) hP hD hS (lv_sub hl [0, 2, 1, 4, 5, 6] rfl)
              · skip
                refine lv_iconst (v := 1) hx hb dX11_longest_77 (by decide) ?_
                refine lv_goto (tgt := 85) hx hb dX11_longest_78 (by decide) ?_
                refine lv_istore (lv' := [(4, .int 1), (6, .int 1), (5, .int (nI j_52)), (3, .int x_53), (0, .ref (n 0)), (1, .int p0), (2, .int (nI n_7))]) hx hb dX11_longest_85 hl (by decide) rfl (fun ls hl => ?_)
                refine lv_iload_n hx hb dX11_longest_87 rfl (lv_at hl 3 rfl) ?_
                refine lv_iload hx hb dX11_longest_88 (lv_at hl 0 rfl) ?_
                refine x_mmax S hl lkX11_355 (Nat.le_of_ble_eq_true rfl) (Nat.le_of_ble_eq_true rfl) ⟨Nat.le_of_ble_eq_true rfl, Nat.le_of_ble_eq_true rfl⟩ dX11_longest_90 (fun v_71 ev_71 => ?_)
                refine lv_istore_n (lv' := [(3, .int v_71), (4, .int 1), (6, .int 1), (5, .int (nI j_52)), (0, .ref (n 0)), (1, .int p0), (2, .int (nI n_7))]) hx hb dX11_longest_93 rfl hl (by decide) rfl (fun ls hl => ?_)
                refine lv_iinc (v := (nI (j_52 + 1))) (lv' := [(5, .int (nI (j_52 + 1))), (3, .int v_71), (4, .int 1), (6, .int 1), (0, .ref (n 0)), (1, .int p0), (2, .int (nI n_7))]) hx hb dX11_longest_94 hl (k := 3) rfl (ni_inc _) (by decide) rfl (fun ls hl => ?_)
                refine lv_goto (tgt := 27) hx hb dX11_longest_97 (by decide) ?_
                exact ihj_52 (j_52 + 1) v_71 1 _ _ _ (by omega) (by omega) hP hD hS (lv_sub hl [0, 2, 1, 4, 5, 6] rfl)
      exact lp_55 (wn fworld 4 + 1) 0 0 0 _ _ _ (by omega) (by omega) hP hD hS (lv_sub hl [0, 1, 2, 3, 4, 5] rfl)
    · skip
      have c_10 : ¬ (0 ≤ p0.toInt64 ∧ p0.toInt64 ≤ 2) := bo_0.mp c_10
      refine lv_bipush (v := (-2)) hx hb dX11_longest_16 (by decide) ?_
      exact x_reti S hr hlk hQ hS ((fun i => ([(u_2.1 0), (u_2.1 1), (u_2.1 2), (u_2.1 3), (u_2.1 4), (u_2.1 5)] : List (Int32)).getD i 0), (fun i => ([u_2.2.1 0] : List (Nat)).getD i 0), (fun i => ([(u_2.2.2.1 0), (u_2.2.2.1 1), (u_2.2.2.1 2), (u_2.2.2.1 3), (u_2.2.2.1 4), (u_2.2.2.1 5), (u_2.2.2.1 6)] : List (Nat → Int32)).getD i (fun _ => 0)), (fun i => ([] : List (Nat → Int64)).getD i (fun _ => 0)), (fun i => ([] : List (Int64)).getD i 0)) (show u_2.2.1 0 ≤ 14 by omega) (x_B hP hD) dX11_longest_18

set_option maxHeartbeats 4000000 in
set_option maxRecDepth 100000 in
theorem ctX11_pull (l : Launch) (D : va_G) (k : Nat → ClassId) (z : Nat → Nat) (n : Nat → Nat) (mthrown : Int32) (mtaped : Nat) (msize : Nat) (mat : Nat) (mfrom : Nat) (mtoken : Int32) (mvalue : Int32) (mfaultKind : Int32) (mfaultPlace : Int32) (mmoreMany : Nat) (mlawNow : Int32) (mwetSet : Int32) (moverAll : Int32) (mones : Int32) (mtwos : Int32) (mgone : Int32) (mroundNow : Int32) (msampleFor : Int64) (msampleAll : Int64) (maskWorst : Int32) (moftenAll : Int64) (moftenView : Int64) (moftenOnes : Int64) (fworld : Nat → Int32) (frowOf : Nat → Int32) (fplaceOf : Nat → Int32) (ffirstOf : Nat → Int32) (fhardNow : Nat → Int32) (fmoreHead : Nat → Int32) (fmoreView : Nat → Int32) (fonesAt : Nat → Int32) (ftwosAt : Nat → Int32) (fgoneAt : Nat → Int32) (p0 : Int32) (p1 : Int32) (hmtaped : mtaped ≤ 600) (hmsize : msize ≤ 600) (hmat : mat ≤ 600) (hmfrom : mfrom ≤ 600) (hmmoreMany : mmoreMany ≤ 14) (hkworld : okW fworld) : MU l yX11_pull cX11_pull 3 (some .int) 9 D k z [.ref (n 0), .int p0, .int p1] [((n 0), .inr (11, [.int mthrown, .ref (n 1), .ref (n 2), .ref (n 3), .ref (n 4), .int (nI mtaped), .ref (n 5), .int (nI msize), .int (nI mat), .int (nI mfrom), .int mtoken, .int mvalue, .int mfaultKind, .int mfaultPlace, .ref (n 6), .ref (n 7), .ref (n 8), .ref (n 9), .ref (n 10), .ref (n 11), .ref (n 12), .int (nI mmoreMany), .int mlawNow, .int mwetSet, .int moverAll, .ref (n 13), .ref (n 14), .ref (n 15), .int mones, .int mtwos, .int mgone, .ref (n 16), .ref (n 17), .int mroundNow, .ref (n 18), .long msampleFor, .long msampleAll, .ref (n 19), .int maskWorst, .long moftenAll, .long moftenView, .long moftenOnes, .ref (n 20), .ref (n 21), .ref (n 22), .ref (n 23)])), ((n 1), .inl (k 0, 99, .inl fworld)), ((n 7), .inl (k 0, 12, .inl frowOf)), ((n 8), .inl (k 0, 12, .inl fplaceOf)), ((n 9), .inl (k 0, 4, .inl ffirstOf)), ((n 10), .inl (k 0, 12, .inl fhardNow)), ((n 11), .inl (k 0, 14, .inl fmoreHead)), ((n 12), .inl (k 0, 14, .inl fmoreView)), ((n 13), .inl (k 0, 17, .inl fonesAt)), ((n 14), .inl (k 0, 17, .inl ftwosAt)), ((n 15), .inl (k 0, 17, .inl fgoneAt))] 0 0 (Ui D (fun (r : Int32) (u : (Nat → Int32) × (Nat → Nat) × (Nat → Nat → Int32) × (Nat → Nat → Int64) × (Nat → Int64)) => (u.2.1 0 ≤ 14)) (fun u : (Nat → Int32) × (Nat → Nat) × (Nat → Nat → Int32) × (Nat → Nat → Int64) × (Nat → Int64) => [((n 0), .inr (11, [.int mthrown, .ref (n 1), .ref (n 2), .ref (n 3), .ref (n 4), .int (nI mtaped), .ref (n 5), .int (nI msize), .int (nI mat), .int (nI mfrom), .int mtoken, .int mvalue, .int mfaultKind, .int mfaultPlace, .ref (n 6), .ref (n 7), .ref (n 8), .ref (n 9), .ref (n 10), .ref (n 11), .ref (n 12), .int (nI (u.2.1 0)), .int (u.1 0), .int (u.1 1), .int (u.1 2), .ref (n 13), .ref (n 14), .ref (n 15), .int (u.1 3), .int (u.1 4), .int (u.1 5), .ref (n 16), .ref (n 17), .int mroundNow, .ref (n 18), .long msampleFor, .long msampleAll, .ref (n 19), .int maskWorst, .long moftenAll, .long moftenView, .long moftenOnes, .ref (n 20), .ref (n 21), .ref (n 22), .ref (n 23)])), ((n 1), .inl (k 0, 99, .inl fworld)), ((n 7), .inl (k 0, 12, .inl (u.2.2.1 4))), ((n 8), .inl (k 0, 12, .inl (u.2.2.1 5))), ((n 9), .inl (k 0, 4, .inl (u.2.2.1 6))), ((n 10), .inl (k 0, 12, .inl (u.2.2.1 0))), ((n 11), .inl (k 0, 14, .inl fmoreHead)), ((n 12), .inl (k 0, 14, .inl fmoreView)), ((n 13), .inl (k 0, 17, .inl (u.2.2.1 1))), ((n 14), .inl (k 0, 17, .inl (u.2.2.1 2))), ((n 15), .inl (k 0, 17, .inl (u.2.2.1 3)))])) := by
  refine MU.of (by decide) (Nat.le_of_ble_eq_true rfl) ?_
  intro p e s m below meth c ls A args Q S hr hlk hnm hQ hK hP hD hZ hA hS hl
  have hx := S.1
  have hb := S.2.1
  have hl : lv_has ls 3 [(0, .ref (n 0)), (1, .int p0), (2, .int p1)] := hl
  have hbfworld := okW_bd hkworld
  refine lv_aload_n hx hb dX11_pull_0 rfl (lv_at hl 0 rfl) ?_
  refine lv_iload_n hx hb dX11_pull_1 rfl (lv_at hl 2 rfl) ?_
  refine x_muVi (wr := []) (As := [.int p1]) S hK hP hD hZ hS hA hl mwX11_asksHour lkX11_330 (ctX11_asksHour l D k z n mthrown mtaped msize mat mfrom mtoken mvalue mfaultKind mfaultPlace mmoreMany mlawNow mwetSet moverAll mones mtwos mgone mroundNow msampleFor msampleAll maskWorst moftenAll moftenView moftenOnes fworld frowOf fplaceOf ffirstOf fhardNow fmoreHead fmoreView fonesAt ftwosAt fgoneAt p1 (by omega) (by omega) (by omega) (by omega) (by omega) (hkworld)) [0, 1, 2, 3, 4, 5, 6, 7, 8, 9, 10] [] rfl rfl (by decide) (by decide) (by decide) rfl rfl rfl rfl rfl ⟨Nat.le_of_ble_eq_true rfl, Nat.le_of_ble_eq_true rfl, Nat.le_of_ble_eq_true rfl⟩ dX11_pull_2 ⟨Nat.le_of_ble_eq_true rfl, Nat.le_of_ble_eq_true rfl⟩ (fun r_1 u_2 H locs hr_1 hP hD hS => ?_)
  have hP : va_P D vwCl [((n 0), .inr (11, [.int mthrown, .ref (n 1), .ref (n 2), .ref (n 3), .ref (n 4), .int (nI mtaped), .ref (n 5), .int (nI msize), .int (nI mat), .int (nI mfrom), .int mtoken, .int mvalue, .int mfaultKind, .int mfaultPlace, .ref (n 6), .ref (n 7), .ref (n 8), .ref (n 9), .ref (n 10), .ref (n 11), .ref (n 12), .int (nI (u_2.2.1 0)), .int (u_2.1 0), .int (u_2.1 1), .int (u_2.1 2), .ref (n 13), .ref (n 14), .ref (n 15), .int (u_2.1 3), .int (u_2.1 4), .int (u_2.1 5), .ref (n 16), .ref (n 17), .int mroundNow, .ref (n 18), .long msampleFor, .long msampleAll, .ref (n 19), .int maskWorst, .long moftenAll, .long moftenView, .long moftenOnes, .ref (n 20), .ref (n 21), .ref (n 22), .ref (n 23)])), ((n 1), .inl (k 0, 99, .inl fworld)), ((n 7), .inl (k 0, 12, .inl (u_2.2.2.1 4))), ((n 8), .inl (k 0, 12, .inl (u_2.2.2.1 5))), ((n 9), .inl (k 0, 4, .inl (u_2.2.2.1 6))), ((n 10), .inl (k 0, 12, .inl (u_2.2.2.1 0))), ((n 11), .inl (k 0, 14, .inl fmoreHead)), ((n 12), .inl (k 0, 14, .inl fmoreView)), ((n 13), .inl (k 0, 17, .inl (u_2.2.2.1 1))), ((n 14), .inl (k 0, 17, .inl (u_2.2.2.1 2))), ((n 15), .inl (k 0, 17, .inl (u_2.2.2.1 3)))] H := hP.sub [0, 1, 2, 3, 4, 5, 6, 7, 8, 9, 10] rfl
  have hD : va_D A [((n 0), .inr (11, [.int mthrown, .ref (n 1), .ref (n 2), .ref (n 3), .ref (n 4), .int (nI mtaped), .ref (n 5), .int (nI msize), .int (nI mat), .int (nI mfrom), .int mtoken, .int mvalue, .int mfaultKind, .int mfaultPlace, .ref (n 6), .ref (n 7), .ref (n 8), .ref (n 9), .ref (n 10), .ref (n 11), .ref (n 12), .int (nI (u_2.2.1 0)), .int (u_2.1 0), .int (u_2.1 1), .int (u_2.1 2), .ref (n 13), .ref (n 14), .ref (n 15), .int (u_2.1 3), .int (u_2.1 4), .int (u_2.1 5), .ref (n 16), .ref (n 17), .int mroundNow, .ref (n 18), .long msampleFor, .long msampleAll, .ref (n 19), .int maskWorst, .long moftenAll, .long moftenView, .long moftenOnes, .ref (n 20), .ref (n 21), .ref (n 22), .ref (n 23)])), ((n 1), .inl (k 0, 99, .inl fworld)), ((n 7), .inl (k 0, 12, .inl (u_2.2.2.1 4))), ((n 8), .inl (k 0, 12, .inl (u_2.2.2.1 5))), ((n 9), .inl (k 0, 4, .inl (u_2.2.2.1 6))), ((n 10), .inl (k 0, 12, .inl (u_2.2.2.1 0))), ((n 11), .inl (k 0, 14, .inl fmoreHead)), ((n 12), .inl (k 0, 14, .inl fmoreView)), ((n 13), .inl (k 0, 17, .inl (u_2.2.2.1 1))), ((n 14), .inl (k 0, 17, .inl (u_2.2.2.1 2))), ((n 15), .inl (k 0, 17, .inl (u_2.2.2.1 3)))] := hD.sub [0, 1, 2, 3, 4, 5, 6, 7, 8, 9, 10] (by decide) rfl
  obtain ⟨hp_3, hz_4, hg_5⟩ := hr_1
  refine lv_if_eq (tgt := 37) hx hb dX11_pull_5 (by decide) (fun c_6 => ?_) (fun c_6 => ?_)
  · skip
    refine lv_sipush (v := (-1000)) hx hb dX11_pull_37 (by decide) ?_
    exact x_reti S hr hlk hQ hS ((fun i => ([(u_2.1 0), (u_2.1 1), (u_2.1 2), (u_2.1 3), (u_2.1 4), (u_2.1 5)] : List (Int32)).getD i 0), (fun i => ([u_2.2.1 0] : List (Nat)).getD i 0), (fun i => ([(u_2.2.2.1 0), (u_2.2.2.1 1), (u_2.2.2.1 2), (u_2.2.2.1 3), (u_2.2.2.1 4), (u_2.2.2.1 5), (u_2.2.2.1 6)] : List (Nat → Int32)).getD i (fun _ => 0)), (fun i => ([] : List (Nat → Int64)).getD i (fun _ => 0)), (fun i => ([] : List (Int64)).getD i 0)) (show u_2.2.1 0 ≤ 14 by omega) (x_B hP hD) dX11_pull_40
  · skip
    obtain ⟨n_7, rfl, hn_7⟩ := hp_3.resolve_left c_6
    refine lv_aload_n hx hb dX11_pull_8 rfl (lv_at hl 0 rfl) ?_
    refine lv_iload_n hx hb dX11_pull_9 rfl (lv_at hl 1 rfl) ?_
    refine lv_i2l (v := p0.toInt64) hx hb dX11_pull_10 rfl ?_
    refine x_roVi (As := [.long p0.toInt64]) S hK hP hD hZ (fun _ h => h) hA hS hA hl mwX11_isHead lkX11_237 (ctX11_isHead_i l D k z n mthrown mtaped msize mat mfrom mtoken mvalue mfaultKind mfaultPlace (u_2.2.1 0) (u_2.1 0) (u_2.1 1) (u_2.1 2) (u_2.1 3) (u_2.1 4) (u_2.1 5) mroundNow msampleFor msampleAll maskWorst moftenAll moftenView moftenOnes fworld p0 (by omega) (by omega) (by omega) (by omega) (by omega) (hkworld)) [0, 1] rfl (by decide) rfl rfl rfl rfl rfl ⟨Nat.le_of_ble_eq_true rfl, Nat.le_of_ble_eq_true rfl, Nat.le_of_ble_eq_true rfl⟩ dX11_pull_11 ⟨Nat.le_of_ble_eq_true rfl, Nat.le_of_ble_eq_true rfl⟩ (fun r_8 H locs hr_8 hP hS => ?_)
    obtain ⟨hp_10, hz_11⟩ := hr_8
    refine lv_if_eq (tgt := 37) hx hb dX11_pull_14 (by decide) (fun c_12 => ?_) (fun c_12 => ?_)
    · skip
      refine lv_sipush (v := (-1000)) hx hb dX11_pull_37 (by decide) ?_
      exact x_reti S hr hlk hQ hS ((fun i => ([(u_2.1 0), (u_2.1 1), (u_2.1 2), (u_2.1 3), (u_2.1 4), (u_2.1 5)] : List (Int32)).getD i 0), (fun i => ([u_2.2.1 0] : List (Nat)).getD i 0), (fun i => ([(u_2.2.2.1 0), (u_2.2.2.1 1), (u_2.2.2.1 2), (u_2.2.2.1 3), (u_2.2.2.1 4), (u_2.2.2.1 5), (u_2.2.2.1 6)] : List (Nat → Int32)).getD i (fun _ => 0)), (fun i => ([] : List (Nat → Int64)).getD i (fun _ => 0)), (fun i => ([] : List (Int64)).getD i 0)) (show u_2.2.1 0 ≤ 14 by omega) (x_B hP hD) dX11_pull_40
    · skip
      obtain ⟨n_13, rfl, hn_13⟩ := hp_10.resolve_left c_12
      refine lv_aload_n hx hb dX11_pull_17 rfl (lv_at hl 0 rfl) ?_
      refine lv_iload_n hx hb dX11_pull_18 rfl (lv_at hl 1 rfl) ?_
      refine lv_aload_n hx hb dX11_pull_19 rfl (lv_at hl 0 rfl) ?_
      refine x_get S hK hP 0 rfl cfX11 25 lkX11_52 (by decide) rfl dX11_pull_20 ?_
      refine lv_iload_n hx hb dX11_pull_23 rfl (lv_at hl 2 rfl) ?_
      refine x_iald S hK hP 8 rfl (vp_in_nI (by omega) (by decide)) dX11_pull_24 ?_
      refine lv_topi (fun v_14 ev_14 => ?_)
      refine lv_aload_n hx hb dX11_pull_25 rfl (lv_at hl 0 rfl) ?_
      refine x_get S hK hP 0 rfl cfX11 26 lkX11_55 (by decide) rfl dX11_pull_26 ?_
      refine lv_iload_n hx hb dX11_pull_29 rfl (lv_at hl 2 rfl) ?_
      refine x_iald S hK hP 9 rfl (vp_in_nI (by omega) (by decide)) dX11_pull_30 ?_
      refine lv_topi (fun v_15 ev_15 => ?_)
      refine x_roVi (As := [.int (nI n_13), .int v_14, .int v_15]) S hK hP hD hZ (fun _ h => h) hA hS hA hl mwX11_pullOf lkX11_299 (ctX11_pullOf l D k z n mthrown mtaped msize mat mfrom mtoken mvalue mfaultKind mfaultPlace (u_2.2.1 0) (u_2.1 0) (u_2.1 1) (u_2.1 2) (u_2.1 3) (u_2.1 4) (u_2.1 5) mroundNow msampleFor msampleAll maskWorst moftenAll moftenView moftenOnes fworld (u_2.2.2.1 4) (u_2.2.2.1 5) (u_2.2.2.1 6) n_13 v_14 v_15 (by omega) (by omega) (by omega) (by omega) (by omega) (hkworld) (by omega)) [0, 1, 2, 3, 4] rfl (by decide) rfl rfl rfl rfl rfl ⟨Nat.le_of_ble_eq_true rfl, Nat.le_of_ble_eq_true rfl, Nat.le_of_ble_eq_true rfl⟩ dX11_pull_31 ⟨Nat.le_of_ble_eq_true rfl, Nat.le_of_ble_eq_true rfl⟩ (fun r_16 H locs hr_16 hP hS => ?_)
      refine lv_goto (tgt := 40) hx hb dX11_pull_34 (by decide) ?_
      exact x_reti S hr hlk hQ hS ((fun i => ([(u_2.1 0), (u_2.1 1), (u_2.1 2), (u_2.1 3), (u_2.1 4), (u_2.1 5)] : List (Int32)).getD i 0), (fun i => ([u_2.2.1 0] : List (Nat)).getD i 0), (fun i => ([(u_2.2.2.1 0), (u_2.2.2.1 1), (u_2.2.2.1 2), (u_2.2.2.1 3), (u_2.2.2.1 4), (u_2.2.2.1 5), (u_2.2.2.1 6)] : List (Nat → Int32)).getD i (fun _ => 0)), (fun i => ([] : List (Nat → Int64)).getD i (fun _ => 0)), (fun i => ([] : List (Int64)).getD i 0)) (show u_2.2.1 0 ≤ 14 by omega) (x_B hP hD) dX11_pull_40

set_option maxHeartbeats 4000000 in
set_option maxRecDepth 100000 in
theorem ctX11_tied (l : Launch) (D : va_G) (k : Nat → ClassId) (z : Nat → Nat) (n : Nat → Nat) (mthrown : Int32) (mtaped : Nat) (msize : Nat) (mat : Nat) (mfrom : Nat) (mtoken : Int32) (mvalue : Int32) (mfaultKind : Int32) (mfaultPlace : Int32) (mmoreMany : Nat) (mlawNow : Int32) (mwetSet : Int32) (moverAll : Int32) (mones : Int32) (mtwos : Int32) (mgone : Int32) (mroundNow : Int32) (msampleFor : Int64) (msampleAll : Int64) (maskWorst : Int32) (moftenAll : Int64) (moftenView : Int64) (moftenOnes : Int64) (fworld : Nat → Int32) (frowOf : Nat → Int32) (fplaceOf : Nat → Int32) (ffirstOf : Nat → Int32) (fhardNow : Nat → Int32) (fmoreHead : Nat → Int32) (fmoreView : Nat → Int32) (fonesAt : Nat → Int32) (ftwosAt : Nat → Int32) (fgoneAt : Nat → Int32) (p0 : Int32) (hmtaped : mtaped ≤ 600) (hmsize : msize ≤ 600) (hmat : mat ≤ 600) (hmfrom : mfrom ≤ 600) (hmmoreMany : mmoreMany ≤ 14) (hkworld : okW fworld) : MU l yX11_tied cX11_tied 4 (some .int) 9 D k z [.ref (n 0), .int p0] [((n 0), .inr (11, [.int mthrown, .ref (n 1), .ref (n 2), .ref (n 3), .ref (n 4), .int (nI mtaped), .ref (n 5), .int (nI msize), .int (nI mat), .int (nI mfrom), .int mtoken, .int mvalue, .int mfaultKind, .int mfaultPlace, .ref (n 6), .ref (n 7), .ref (n 8), .ref (n 9), .ref (n 10), .ref (n 11), .ref (n 12), .int (nI mmoreMany), .int mlawNow, .int mwetSet, .int moverAll, .ref (n 13), .ref (n 14), .ref (n 15), .int mones, .int mtwos, .int mgone, .ref (n 16), .ref (n 17), .int mroundNow, .ref (n 18), .long msampleFor, .long msampleAll, .ref (n 19), .int maskWorst, .long moftenAll, .long moftenView, .long moftenOnes, .ref (n 20), .ref (n 21), .ref (n 22), .ref (n 23)])), ((n 1), .inl (k 0, 99, .inl fworld)), ((n 7), .inl (k 0, 12, .inl frowOf)), ((n 8), .inl (k 0, 12, .inl fplaceOf)), ((n 9), .inl (k 0, 4, .inl ffirstOf)), ((n 10), .inl (k 0, 12, .inl fhardNow)), ((n 11), .inl (k 0, 14, .inl fmoreHead)), ((n 12), .inl (k 0, 14, .inl fmoreView)), ((n 13), .inl (k 0, 17, .inl fonesAt)), ((n 14), .inl (k 0, 17, .inl ftwosAt)), ((n 15), .inl (k 0, 17, .inl fgoneAt))] 0 0 (Ui D (fun (r : Int32) (u : (Nat → Int32) × (Nat → Nat) × (Nat → Nat → Int32) × (Nat → Nat → Int64) × (Nat → Int64)) => (u.2.1 0 ≤ 14)) (fun u : (Nat → Int32) × (Nat → Nat) × (Nat → Nat → Int32) × (Nat → Nat → Int64) × (Nat → Int64) => [((n 0), .inr (11, [.int mthrown, .ref (n 1), .ref (n 2), .ref (n 3), .ref (n 4), .int (nI mtaped), .ref (n 5), .int (nI msize), .int (nI mat), .int (nI mfrom), .int mtoken, .int mvalue, .int mfaultKind, .int mfaultPlace, .ref (n 6), .ref (n 7), .ref (n 8), .ref (n 9), .ref (n 10), .ref (n 11), .ref (n 12), .int (nI (u.2.1 0)), .int (u.1 0), .int (u.1 1), .int (u.1 2), .ref (n 13), .ref (n 14), .ref (n 15), .int (u.1 3), .int (u.1 4), .int (u.1 5), .ref (n 16), .ref (n 17), .int mroundNow, .ref (n 18), .long msampleFor, .long msampleAll, .ref (n 19), .int maskWorst, .long moftenAll, .long moftenView, .long moftenOnes, .ref (n 20), .ref (n 21), .ref (n 22), .ref (n 23)])), ((n 1), .inl (k 0, 99, .inl fworld)), ((n 7), .inl (k 0, 12, .inl (u.2.2.1 4))), ((n 8), .inl (k 0, 12, .inl (u.2.2.1 5))), ((n 9), .inl (k 0, 4, .inl (u.2.2.1 6))), ((n 10), .inl (k 0, 12, .inl (u.2.2.1 0))), ((n 11), .inl (k 0, 14, .inl fmoreHead)), ((n 12), .inl (k 0, 14, .inl fmoreView)), ((n 13), .inl (k 0, 17, .inl (u.2.2.1 1))), ((n 14), .inl (k 0, 17, .inl (u.2.2.1 2))), ((n 15), .inl (k 0, 17, .inl (u.2.2.1 3)))])) := by
  refine MU.of (by decide) (Nat.le_of_ble_eq_true rfl) ?_
  intro p e s m below meth c ls A args Q S hr hlk hnm hQ hK hP hD hZ hA hS hl
  have hx := S.1
  have hb := S.2.1
  have hl : lv_has ls 4 [(0, .ref (n 0)), (1, .int p0)] := hl
  have hbfworld := okW_bd hkworld
  refine lv_aload_n hx hb dX11_tied_0 rfl (lv_at hl 0 rfl) ?_
  refine lv_iload_n hx hb dX11_tied_1 rfl (lv_at hl 1 rfl) ?_
  refine x_muVi (wr := []) (As := [.int p0]) S hK hP hD hZ hS hA hl mwX11_asksHour lkX11_330 (ctX11_asksHour l D k z n mthrown mtaped msize mat mfrom mtoken mvalue mfaultKind mfaultPlace mmoreMany mlawNow mwetSet moverAll mones mtwos mgone mroundNow msampleFor msampleAll maskWorst moftenAll moftenView moftenOnes fworld frowOf fplaceOf ffirstOf fhardNow fmoreHead fmoreView fonesAt ftwosAt fgoneAt p0 (by omega) (by omega) (by omega) (by omega) (by omega) (hkworld)) [0, 1, 2, 3, 4, 5, 6, 7, 8, 9, 10] [] rfl rfl (by decide) (by decide) (by decide) rfl rfl rfl rfl rfl ⟨Nat.le_of_ble_eq_true rfl, Nat.le_of_ble_eq_true rfl, Nat.le_of_ble_eq_true rfl⟩ dX11_tied_2 ⟨Nat.le_of_ble_eq_true rfl, Nat.le_of_ble_eq_true rfl⟩ (fun r_1 u_2 H locs hr_1 hP hD hS => ?_)
  have hP : va_P D vwCl [((n 0), .inr (11, [.int mthrown, .ref (n 1), .ref (n 2), .ref (n 3), .ref (n 4), .int (nI mtaped), .ref (n 5), .int (nI msize), .int (nI mat), .int (nI mfrom), .int mtoken, .int mvalue, .int mfaultKind, .int mfaultPlace, .ref (n 6), .ref (n 7), .ref (n 8), .ref (n 9), .ref (n 10), .ref (n 11), .ref (n 12), .int (nI (u_2.2.1 0)), .int (u_2.1 0), .int (u_2.1 1), .int (u_2.1 2), .ref (n 13), .ref (n 14), .ref (n 15), .int (u_2.1 3), .int (u_2.1 4), .int (u_2.1 5), .ref (n 16), .ref (n 17), .int mroundNow, .ref (n 18), .long msampleFor, .long msampleAll, .ref (n 19), .int maskWorst, .long moftenAll, .long moftenView, .long moftenOnes, .ref (n 20), .ref (n 21), .ref (n 22), .ref (n 23)])), ((n 1), .inl (k 0, 99, .inl fworld)), ((n 7), .inl (k 0, 12, .inl (u_2.2.2.1 4))), ((n 8), .inl (k 0, 12, .inl (u_2.2.2.1 5))), ((n 9), .inl (k 0, 4, .inl (u_2.2.2.1 6))), ((n 10), .inl (k 0, 12, .inl (u_2.2.2.1 0))), ((n 11), .inl (k 0, 14, .inl fmoreHead)), ((n 12), .inl (k 0, 14, .inl fmoreView)), ((n 13), .inl (k 0, 17, .inl (u_2.2.2.1 1))), ((n 14), .inl (k 0, 17, .inl (u_2.2.2.1 2))), ((n 15), .inl (k 0, 17, .inl (u_2.2.2.1 3)))] H := hP.sub [0, 1, 2, 3, 4, 5, 6, 7, 8, 9, 10] rfl
  have hD : va_D A [((n 0), .inr (11, [.int mthrown, .ref (n 1), .ref (n 2), .ref (n 3), .ref (n 4), .int (nI mtaped), .ref (n 5), .int (nI msize), .int (nI mat), .int (nI mfrom), .int mtoken, .int mvalue, .int mfaultKind, .int mfaultPlace, .ref (n 6), .ref (n 7), .ref (n 8), .ref (n 9), .ref (n 10), .ref (n 11), .ref (n 12), .int (nI (u_2.2.1 0)), .int (u_2.1 0), .int (u_2.1 1), .int (u_2.1 2), .ref (n 13), .ref (n 14), .ref (n 15), .int (u_2.1 3), .int (u_2.1 4), .int (u_2.1 5), .ref (n 16), .ref (n 17), .int mroundNow, .ref (n 18), .long msampleFor, .long msampleAll, .ref (n 19), .int maskWorst, .long moftenAll, .long moftenView, .long moftenOnes, .ref (n 20), .ref (n 21), .ref (n 22), .ref (n 23)])), ((n 1), .inl (k 0, 99, .inl fworld)), ((n 7), .inl (k 0, 12, .inl (u_2.2.2.1 4))), ((n 8), .inl (k 0, 12, .inl (u_2.2.2.1 5))), ((n 9), .inl (k 0, 4, .inl (u_2.2.2.1 6))), ((n 10), .inl (k 0, 12, .inl (u_2.2.2.1 0))), ((n 11), .inl (k 0, 14, .inl fmoreHead)), ((n 12), .inl (k 0, 14, .inl fmoreView)), ((n 13), .inl (k 0, 17, .inl (u_2.2.2.1 1))), ((n 14), .inl (k 0, 17, .inl (u_2.2.2.1 2))), ((n 15), .inl (k 0, 17, .inl (u_2.2.2.1 3)))] := hD.sub [0, 1, 2, 3, 4, 5, 6, 7, 8, 9, 10] (by decide) rfl
  obtain ⟨hp_3, hz_4, hg_5⟩ := hr_1
  refine lv_if_ne (tgt := 11) hx hb dX11_tied_5 (by decide) (fun c_6 => ?_) (fun c_6 => ?_)
  · skip
    obtain ⟨n_7, rfl, hn_7⟩ := hp_3.resolve_left c_6
    refine lv_iconst (v := 0) hx hb dX11_tied_11 (by decide) ?_
    refine lv_istore_n (lv' := [(2, .int 0), (0, .ref (n 0)), (1, .int (nI n_7))]) hx hb dX11_tied_12 rfl hl (by decide) rfl (fun ls hl => ?_)
    refine lv_iconst (v := 0) hx hb dX11_tied_13 (by decide) ?_
    refine lv_istore_n (lv' := [(3, .int 0), (2, .int 0), (0, .ref (n 0)), (1, .int (nI n_7))]) hx hb dX11_tied_14 rfl hl (by decide) rfl (fun ls hl => ?_)
    have lp_37 : ∀ (nn j_35 : Nat) (x_36 : Int32) (H : Heap) (locs : List Loc) (ls : Array Slot), j_35 ≤ wn fworld 4 → wn fworld 4 - j_35 < nn → va_P D vwCl [((n 0), .inr (11, [.int mthrown, .ref (n 1), .ref (n 2), .ref (n 3), .ref (n 4), .int (nI mtaped), .ref (n 5), .int (nI msize), .int (nI mat), .int (nI mfrom), .int mtoken, .int mvalue, .int mfaultKind, .int mfaultPlace, .ref (n 6), .ref (n 7), .ref (n 8), .ref (n 9), .ref (n 10), .ref (n 11), .ref (n 12), .int (nI (u_2.2.1 0)), .int (u_2.1 0), .int (u_2.1 1), .int (u_2.1 2), .ref (n 13), .ref (n 14), .ref (n 15), .int (u_2.1 3), .int (u_2.1 4), .int (u_2.1 5), .ref (n 16), .ref (n 17), .int mroundNow, .ref (n 18), .long msampleFor, .long msampleAll, .ref (n 19), .int maskWorst, .long moftenAll, .long moftenView, .long moftenOnes, .ref (n 20), .ref (n 21), .ref (n 22), .ref (n 23)])), ((n 1), .inl (k 0, 99, .inl fworld)), ((n 7), .inl (k 0, 12, .inl (u_2.2.2.1 4))), ((n 8), .inl (k 0, 12, .inl (u_2.2.2.1 5))), ((n 9), .inl (k 0, 4, .inl (u_2.2.2.1 6))), ((n 10), .inl (k 0, 12, .inl (u_2.2.2.1 0))), ((n 11), .inl (k 0, 14, .inl fmoreHead)), ((n 12), .inl (k 0, 14, .inl fmoreView)), ((n 13), .inl (k 0, 17, .inl (u_2.2.2.1 1))), ((n 14), .inl (k 0, 17, .inl (u_2.2.2.1 2))), ((n 15), .inl (k 0, 17, .inl (u_2.2.2.1 3)))] H → va_D A [((n 0), .inr (11, [.int mthrown, .ref (n 1), .ref (n 2), .ref (n 3), .ref (n 4), .int (nI mtaped), .ref (n 5), .int (nI msize), .int (nI mat), .int (nI mfrom), .int mtoken, .int mvalue, .int mfaultKind, .int mfaultPlace, .ref (n 6), .ref (n 7), .ref (n 8), .ref (n 9), .ref (n 10), .ref (n 11), .ref (n 12), .int (nI (u_2.2.1 0)), .int (u_2.1 0), .int (u_2.1 1), .int (u_2.1 2), .ref (n 13), .ref (n 14), .ref (n 15), .int (u_2.1 3), .int (u_2.1 4), .int (u_2.1 5), .ref (n 16), .ref (n 17), .int mroundNow, .ref (n 18), .long msampleFor, .long msampleAll, .ref (n 19), .int maskWorst, .long moftenAll, .long moftenView, .long moftenOnes, .ref (n 20), .ref (n 21), .ref (n 22), .ref (n 23)])), ((n 1), .inl (k 0, 99, .inl fworld)), ((n 7), .inl (k 0, 12, .inl (u_2.2.2.1 4))), ((n 8), .inl (k 0, 12, .inl (u_2.2.2.1 5))), ((n 9), .inl (k 0, 4, .inl (u_2.2.2.1 6))), ((n 10), .inl (k 0, 12, .inl (u_2.2.2.1 0))), ((n 11), .inl (k 0, 14, .inl fmoreHead)), ((n 12), .inl (k 0, 14, .inl fmoreView)), ((n 13), .inl (k 0, 17, .inl (u_2.2.2.1 1))), ((n 14), .inl (k 0, 17, .inl (u_2.2.2.1 2))), ((n 15), .inl (k 0, 17, .inl (u_2.2.2.1 3)))] → va_S A s.heap H locs → lv_has ls 4 [(3, .int (nI j_35)), (2, .int x_36), (0, .ref (n 0)), (1, .int (nI n_7))] → W p l e (Rm 9 0 0) s m args below meth c H locs 0 0 Q (F0 m 15 ls []) := by
      intro nn
      induction nn with
      | zero => intro j_35 x_36 H locs ls hjj_35 hnj_35; exact absurd hnj_35 (by omega)
      | succ nn ihj_35 =>
        intro j_35 x_36 H locs ls hjj_35 hnj_35 hP hD hS hl
        refine lv_iload_n hx hb dX11_tied_15 rfl (lv_at hl 0 rfl) ?_
        refine lv_aload_n hx hb dX11_tied_16 rfl (lv_at hl 2 rfl) ?_
        refine x_roVi (As := []) S hK hP hD hZ (fun _ h => h) hA hS hA hl mwX11_headMany lkX11_95 (ctX11_headMany l D k z n mthrown mtaped msize mat mfrom mtoken mvalue mfaultKind mfaultPlace (u_2.2.1 0) (u_2.1 0) (u_2.1 1) (u_2.1 2) (u_2.1 3) (u_2.1 4) (u_2.1 5) mroundNow msampleFor msampleAll maskWorst moftenAll moftenView moftenOnes fworld (by omega) (by omega) (by omega) (by omega) (by omega) (hkworld)) [0, 1] rfl (by decide) rfl rfl rfl rfl rfl ⟨Nat.le_of_ble_eq_true rfl, Nat.le_of_ble_eq_true rfl, Nat.le_of_ble_eq_true rfl⟩ dX11_tied_17 ⟨Nat.le_of_ble_eq_true rfl, Nat.le_of_ble_eq_true rfl⟩ (fun r_38 H locs hr_38 hP hS => ?_)
        obtain rfl := hr_38
        refine lv_icmp_ge (tgt := 59) hx hb dX11_tied_20 (by decide) (fun c_40 => ?_) (fun c_40 => ?_)
        · skip
          have c_40 : wn fworld 4 ≤ j_35 := (ni_le rfl rfl (by omega) (by omega)).mp c_40
          refine lv_iload_n hx hb dX11_tied_59 rfl (lv_at hl 1 rfl) ?_
          refine lv_aload_n hx hb dX11_tied_60 rfl (lv_at hl 2 rfl) ?_
          refine lv_iload_n hx hb dX11_tied_61 rfl (lv_at hl 3 rfl) ?_
          refine x_roVi (As := [.int (nI n_7)]) S hK hP hD hZ (fun _ h => h) hA hS hA hl mwX11_stillThere lkX11_324 (ctX11_stillThere l D k z n mthrown mtaped msize mat mfrom mtoken mvalue mfaultKind mfaultPlace (u_2.2.1 0) (u_2.1 0) (u_2.1 1) (u_2.1 2) (u_2.1 3) (u_2.1 4) (u_2.1 5) mroundNow msampleFor msampleAll maskWorst moftenAll moftenView moftenOnes fworld (u_2.2.2.1 3) n_7 (by omega) (by omega) (by omega) (by omega) (by omega) (hkworld) (by omega)) [0, 1, 10] rfl (by decide) rfl rfl rfl rfl rfl ⟨Nat.le_of_ble_eq_true rfl, Nat.le_of_ble_eq_true rfl, Nat.le_of_ble_eq_true rfl⟩ dX11_tied_62 ⟨Nat.le_of_ble_eq_true rfl, Nat.le_of_ble_eq_true rfl⟩ (fun r_41 H locs hr_41 hP hS => ?_)
          obtain rfl := hr_41
          refine lv_iand hx hb dX11_tied_65 ?_
          refine lv_topi (fun v_43 ev_43 => ?_)
          exact x_reti S hr hlk hQ hS ((fun i => ([(u_2.1 0), (u_2.1 1), (u_2.1 2), (u_2.1 3), (u_2.1 4), (u_2.1 5)] : List (Int32)).getD i 0), (fun i => ([u_2.2.1 0] : List (Nat)).getD i 0), (fun i => ([(u_2.2.2.1 0), (u_2.2.2.1 1), (u_2.2.2.1 2), (u_2.2.2.1 3), (u_2.2.2.1 4), (u_2.2.2.1 5), (u_2.2.2.1 6)] : List (Nat → Int32)).getD i (fun _ => 0)), (fun i => ([] : List (Nat → Int64)).getD i (fun _ => 0)), (fun i => ([] : List (Int64)).getD i 0)) (show u_2.2.1 0 ≤ 14 by omega) (x_B hP hD) dX11_tied_66
        · skip
          have c_40 : ¬ wn fworld 4 ≤ j_35 := fun q => c_40 ((ni_le rfl rfl (by omega) (by omega)).mpr q)
          refine lv_iload_n hx hb dX11_tied_23 rfl (lv_at hl 1 rfl) ?_
          refine lv_aload_n hx hb dX11_tied_24 rfl (lv_at hl 2 rfl) ?_
          refine lv_iload_n hx hb dX11_tied_25 rfl (lv_at hl 0 rfl) ?_
          refine lv_aload_n hx hb dX11_tied_26 rfl (lv_at hl 2 rfl) ?_
          refine x_get S hK hP 0 rfl cfX11 25 lkX11_52 (by decide) rfl dX11_tied_27 ?_
          refine lv_iload_n hx hb dX11_tied_30 rfl (lv_at hl 3 rfl) ?_
          refine x_iald S hK hP 8 rfl (vp_in_nI (by omega) (by decide)) dX11_tied_31 ?_
          refine lv_topi (fun v_44 ev_44 => ?_)
          refine lv_aload_n hx hb dX11_tied_32 rfl (lv_at hl 2 rfl) ?_
          refine x_get S hK hP 0 rfl cfX11 26 lkX11_55 (by decide) rfl dX11_tied_33 ?_
          refine lv_iload_n hx hb dX11_tied_36 rfl (lv_at hl 3 rfl) ?_
          refine x_iald S hK hP 9 rfl (vp_in_nI (by omega) (by decide)) dX11_tied_37 ?_
          refine lv_topi (fun v_45 ev_45 => ?_)
          refine x_roVi (As := [.int (nI j_35), .int v_44, .int v_45]) S hK hP hD hZ (fun _ h => h) hA hS hA hl mwX11_pullOf lkX11_299 (ctX11_pullOf l D k z n mthrown mtaped msize mat mfrom mtoken mvalue mfaultKind mfaultPlace (u_2.2.1 0) (u_2.1 0) (u_2.1 1) (u_2.1 2) (u_2.1 3) (u_2.1 4) (u_2.1 5) mroundNow msampleFor msampleAll maskWorst moftenAll moftenView moftenOnes fworld (u_2.2.2.1 4) (u_2.2.2.1 5) (u_2.2.2.1 6) j_35 v_44 v_45 (by omega) (by omega) (by omega) (by omega) (by omega) (hkworld) (by omega)) [0, 1, 2, 3, 4] rfl (by decide) rfl rfl rfl rfl rfl ⟨Nat.le_of_ble_eq_true rfl, Nat.le_of_ble_eq_true rfl, Nat.le_of_ble_eq_true rfl⟩ dX11_tied_38 ⟨Nat.le_of_ble_eq_true rfl, Nat.le_of_ble_eq_true rfl⟩ (fun r_46 H locs hr_46 hP hS => ?_)
          refine lv_if_ne (tgt := 50) hx hb dX11_tied_41 (by decide) (fun c_48 => ?_) (fun c_48 => ?_)
          · skip
            refine lv_iconst (v := 0) hx hb dX11_tied_50 (by decide) ?_
            refine lv_ior hx hb dX11_tied_51 ?_
            refine lv_topi (fun v_49 ev_49 => ?_)
            refine lv_istore_n (lv' := [(2, .int v_49), (3, .int (nI j_35)), (0, .ref (n 0)), (1, .int (nI n_7))]) hx hb dX11_tied_52 rfl hl (by decide) rfl (fun ls hl => ?_)
            refine lv_iinc (v := (nI (j_35 + 1))) (lv' := [(3, .int (nI (j_35 + 1))), (2, .int v_49), (0, .ref (n 0)), (1, .int (nI n_7))]) hx hb dX11_tied_53 hl (k := 1) rfl (ni_inc _) (by decide) rfl (fun ls hl => ?_)
            refine lv_goto (tgt := 15) hx hb dX11_tied_56 (by decide) ?_
            exact ihj_35 (j_35 + 1) v_49 _ _ _ (by omega) (by omega) hP hD hS (lv_sub hl [0, 1, 2, 3] rfl)
          · skip
            refine lv_iconst (v := 1) hx hb dX11_tied_44 (by decide) ?_
            refine lv_iload_n hx hb dX11_tied_45 rfl (lv_at hl 0 rfl) ?_
            refine lv_ishl hx hb dX11_tied_46 ?_
            refine lv_topi (fun v_50 ev_50 => ?_)
            refine lv_goto (tgt := 51) hx hb dX11_tied_47 (by decide) ?_
            refine lv_ior hx hb dX11_tied_51 ?_
            refine lv_topi (fun v_51 ev_51 => ?_)
            refine lv_istore_n (lv' := [(2, .int v_51), (3, .int (nI j_35)), (0, .ref (n 0)), (1, .int (nI n_7))]) hx hb dX11_tied_52 rfl hl (by decide) rfl (fun ls hl => ?_)
            refine lv_iinc (v := (nI (j_35 + 1))) (lv' := [(3, .int (nI (j_35 + 1))), (2, .int v_51), (0, .ref (n 0)), (1, .int (nI n_7))]) hx hb dX11_tied_53 hl (k := 1) rfl (ni_inc _) (by decide) rfl (fun ls hl => ?_)
            refine lv_goto (tgt := 15) hx hb dX11_tied_56 (by decide) ?_
            exact ihj_35 (j_35 + 1) v_51 _ _ _ (by omega) (by omega) hP hD hS (lv_sub hl [0, 1, 2, 3] rfl)
    exact lp_37 (wn fworld 4 + 1) 0 0 _ _ _ (by omega) (by omega) hP hD hS (lv_sub hl [0, 1, 2, 3] rfl)
  · skip
    refine lv_bipush (v := (-2)) hx hb dX11_tied_8 (by decide) ?_
    exact x_reti S hr hlk hQ hS ((fun i => ([(u_2.1 0), (u_2.1 1), (u_2.1 2), (u_2.1 3), (u_2.1 4), (u_2.1 5)] : List (Int32)).getD i 0), (fun i => ([u_2.2.1 0] : List (Nat)).getD i 0), (fun i => ([(u_2.2.2.1 0), (u_2.2.2.1 1), (u_2.2.2.1 2), (u_2.2.2.1 3), (u_2.2.2.1 4), (u_2.2.2.1 5), (u_2.2.2.1 6)] : List (Nat → Int32)).getD i (fun _ => 0)), (fun i => ([] : List (Nat → Int64)).getD i (fun _ => 0)), (fun i => ([] : List (Int64)).getD i 0)) (show u_2.2.1 0 ≤ 14 by omega) (x_B hP hD) dX11_tied_10

set_option maxHeartbeats 4000000 in
set_option maxRecDepth 100000 in
theorem ctX11_since (l : Launch) (D : va_G) (k : Nat → ClassId) (z : Nat → Nat) (n : Nat → Nat) (mthrown : Int32) (mtaped : Nat) (msize : Nat) (mat : Nat) (mfrom : Nat) (mtoken : Int32) (mvalue : Int32) (mfaultKind : Int32) (mfaultPlace : Int32) (mmoreMany : Nat) (mlawNow : Int32) (mwetSet : Int32) (moverAll : Int32) (mones : Int32) (mtwos : Int32) (mgone : Int32) (mroundNow : Int32) (msampleFor : Int64) (msampleAll : Int64) (maskWorst : Int32) (moftenAll : Int64) (moftenView : Int64) (moftenOnes : Int64) (fworld : Nat → Int32) (frowOf : Nat → Int32) (fplaceOf : Nat → Int32) (ffirstOf : Nat → Int32) (fhardNow : Nat → Int32) (fmoreHead : Nat → Int32) (fmoreView : Nat → Int32) (fonesAt : Nat → Int32) (ftwosAt : Nat → Int32) (fgoneAt : Nat → Int32) (p0 : Int32) (hmtaped : mtaped ≤ 600) (hmsize : msize ≤ 600) (hmat : mat ≤ 600) (hmfrom : mfrom ≤ 600) (hmmoreMany : mmoreMany ≤ 14) (hkworld : okW fworld) : MU l yX11_since cX11_since 3 (some .int) 9 D k z [.ref (n 0), .int p0] [((n 0), .inr (11, [.int mthrown, .ref (n 1), .ref (n 2), .ref (n 3), .ref (n 4), .int (nI mtaped), .ref (n 5), .int (nI msize), .int (nI mat), .int (nI mfrom), .int mtoken, .int mvalue, .int mfaultKind, .int mfaultPlace, .ref (n 6), .ref (n 7), .ref (n 8), .ref (n 9), .ref (n 10), .ref (n 11), .ref (n 12), .int (nI mmoreMany), .int mlawNow, .int mwetSet, .int moverAll, .ref (n 13), .ref (n 14), .ref (n 15), .int mones, .int mtwos, .int mgone, .ref (n 16), .ref (n 17), .int mroundNow, .ref (n 18), .long msampleFor, .long msampleAll, .ref (n 19), .int maskWorst, .long moftenAll, .long moftenView, .long moftenOnes, .ref (n 20), .ref (n 21), .ref (n 22), .ref (n 23)])), ((n 1), .inl (k 0, 99, .inl fworld)), ((n 7), .inl (k 0, 12, .inl frowOf)), ((n 8), .inl (k 0, 12, .inl fplaceOf)), ((n 9), .inl (k 0, 4, .inl ffirstOf)), ((n 10), .inl (k 0, 12, .inl fhardNow)), ((n 11), .inl (k 0, 14, .inl fmoreHead)), ((n 12), .inl (k 0, 14, .inl fmoreView)), ((n 13), .inl (k 0, 17, .inl fonesAt)), ((n 14), .inl (k 0, 17, .inl ftwosAt)), ((n 15), .inl (k 0, 17, .inl fgoneAt))] 0 0 (Ui D (fun (r : Int32) (u : (Nat → Int32) × (Nat → Nat) × (Nat → Nat → Int32) × (Nat → Nat → Int64) × (Nat → Int64)) => (u.2.1 0 ≤ 14)) (fun u : (Nat → Int32) × (Nat → Nat) × (Nat → Nat → Int32) × (Nat → Nat → Int64) × (Nat → Int64) => [((n 0), .inr (11, [.int mthrown, .ref (n 1), .ref (n 2), .ref (n 3), .ref (n 4), .int (nI mtaped), .ref (n 5), .int (nI msize), .int (nI mat), .int (nI mfrom), .int mtoken, .int mvalue, .int mfaultKind, .int mfaultPlace, .ref (n 6), .ref (n 7), .ref (n 8), .ref (n 9), .ref (n 10), .ref (n 11), .ref (n 12), .int (nI (u.2.1 0)), .int (u.1 0), .int (u.1 1), .int (u.1 2), .ref (n 13), .ref (n 14), .ref (n 15), .int (u.1 3), .int (u.1 4), .int (u.1 5), .ref (n 16), .ref (n 17), .int mroundNow, .ref (n 18), .long msampleFor, .long msampleAll, .ref (n 19), .int maskWorst, .long moftenAll, .long moftenView, .long moftenOnes, .ref (n 20), .ref (n 21), .ref (n 22), .ref (n 23)])), ((n 1), .inl (k 0, 99, .inl fworld)), ((n 7), .inl (k 0, 12, .inl (u.2.2.1 4))), ((n 8), .inl (k 0, 12, .inl (u.2.2.1 5))), ((n 9), .inl (k 0, 4, .inl (u.2.2.1 6))), ((n 10), .inl (k 0, 12, .inl (u.2.2.1 0))), ((n 11), .inl (k 0, 14, .inl fmoreHead)), ((n 12), .inl (k 0, 14, .inl fmoreView)), ((n 13), .inl (k 0, 17, .inl (u.2.2.1 1))), ((n 14), .inl (k 0, 17, .inl (u.2.2.1 2))), ((n 15), .inl (k 0, 17, .inl (u.2.2.1 3)))])) := by
  refine MU.of (by decide) (Nat.le_of_ble_eq_true rfl) ?_
  intro p e s m below meth c ls A args Q S hr hlk hnm hQ hK hP hD hZ hA hS hl
  have hx := S.1
  have hb := S.2.1
  have hl : lv_has ls 3 [(0, .ref (n 0)), (1, .int p0)] := hl
  have hbfworld := okW_bd hkworld
  refine lv_aload_n hx hb dX11_since_0 rfl (lv_at hl 0 rfl) ?_
  refine lv_iload_n hx hb dX11_since_1 rfl (lv_at hl 1 rfl) ?_
  refine x_muVi (wr := []) (As := [.int p0]) S hK hP hD hZ hS hA hl mwX11_asksHead lkX11_342 (ctX11_asksHead l D k z n mthrown mtaped msize mat mfrom mtoken mvalue mfaultKind mfaultPlace mmoreMany mlawNow mwetSet moverAll mones mtwos mgone mroundNow msampleFor msampleAll maskWorst moftenAll moftenView moftenOnes fworld frowOf fplaceOf ffirstOf fhardNow fmoreHead fmoreView fonesAt ftwosAt fgoneAt p0 (by omega) (by omega) (by omega) (by omega) (by omega) (hkworld)) [0, 1, 2, 3, 4, 5, 6, 7, 8, 9, 10] [] rfl rfl (by decide) (by decide) (by decide) rfl rfl rfl rfl rfl ⟨Nat.le_of_ble_eq_true rfl, Nat.le_of_ble_eq_true rfl, Nat.le_of_ble_eq_true rfl⟩ dX11_since_2 ⟨Nat.le_of_ble_eq_true rfl, Nat.le_of_ble_eq_true rfl⟩ (fun r_1 u_2 H locs hr_1 hP hD hS => ?_)
  have hP : va_P D vwCl [((n 0), .inr (11, [.int mthrown, .ref (n 1), .ref (n 2), .ref (n 3), .ref (n 4), .int (nI mtaped), .ref (n 5), .int (nI msize), .int (nI mat), .int (nI mfrom), .int mtoken, .int mvalue, .int mfaultKind, .int mfaultPlace, .ref (n 6), .ref (n 7), .ref (n 8), .ref (n 9), .ref (n 10), .ref (n 11), .ref (n 12), .int (nI (u_2.2.1 0)), .int (u_2.1 0), .int (u_2.1 1), .int (u_2.1 2), .ref (n 13), .ref (n 14), .ref (n 15), .int (u_2.1 3), .int (u_2.1 4), .int (u_2.1 5), .ref (n 16), .ref (n 17), .int mroundNow, .ref (n 18), .long msampleFor, .long msampleAll, .ref (n 19), .int maskWorst, .long moftenAll, .long moftenView, .long moftenOnes, .ref (n 20), .ref (n 21), .ref (n 22), .ref (n 23)])), ((n 1), .inl (k 0, 99, .inl fworld)), ((n 7), .inl (k 0, 12, .inl (u_2.2.2.1 4))), ((n 8), .inl (k 0, 12, .inl (u_2.2.2.1 5))), ((n 9), .inl (k 0, 4, .inl (u_2.2.2.1 6))), ((n 10), .inl (k 0, 12, .inl (u_2.2.2.1 0))), ((n 11), .inl (k 0, 14, .inl fmoreHead)), ((n 12), .inl (k 0, 14, .inl fmoreView)), ((n 13), .inl (k 0, 17, .inl (u_2.2.2.1 1))), ((n 14), .inl (k 0, 17, .inl (u_2.2.2.1 2))), ((n 15), .inl (k 0, 17, .inl (u_2.2.2.1 3)))] H := hP.sub [0, 1, 2, 3, 4, 5, 6, 7, 8, 9, 10] rfl
  have hD : va_D A [((n 0), .inr (11, [.int mthrown, .ref (n 1), .ref (n 2), .ref (n 3), .ref (n 4), .int (nI mtaped), .ref (n 5), .int (nI msize), .int (nI mat), .int (nI mfrom), .int mtoken, .int mvalue, .int mfaultKind, .int mfaultPlace, .ref (n 6), .ref (n 7), .ref (n 8), .ref (n 9), .ref (n 10), .ref (n 11), .ref (n 12), .int (nI (u_2.2.1 0)), .int (u_2.1 0), .int (u_2.1 1), .int (u_2.1 2), .ref (n 13), .ref (n 14), .ref (n 15), .int (u_2.1 3), .int (u_2.1 4), .int (u_2.1 5), .ref (n 16), .ref (n 17), .int mroundNow, .ref (n 18), .long msampleFor, .long msampleAll, .ref (n 19), .int maskWorst, .long moftenAll, .long moftenView, .long moftenOnes, .ref (n 20), .ref (n 21), .ref (n 22), .ref (n 23)])), ((n 1), .inl (k 0, 99, .inl fworld)), ((n 7), .inl (k 0, 12, .inl (u_2.2.2.1 4))), ((n 8), .inl (k 0, 12, .inl (u_2.2.2.1 5))), ((n 9), .inl (k 0, 4, .inl (u_2.2.2.1 6))), ((n 10), .inl (k 0, 12, .inl (u_2.2.2.1 0))), ((n 11), .inl (k 0, 14, .inl fmoreHead)), ((n 12), .inl (k 0, 14, .inl fmoreView)), ((n 13), .inl (k 0, 17, .inl (u_2.2.2.1 1))), ((n 14), .inl (k 0, 17, .inl (u_2.2.2.1 2))), ((n 15), .inl (k 0, 17, .inl (u_2.2.2.1 3)))] := hD.sub [0, 1, 2, 3, 4, 5, 6, 7, 8, 9, 10] (by decide) rfl
  obtain ⟨hp_3, hz_4, hg_5⟩ := hr_1
  refine lv_if_ne (tgt := 11) hx hb dX11_since_5 (by decide) (fun c_6 => ?_) (fun c_6 => ?_)
  · skip
    obtain ⟨n_7, rfl, hn_7⟩ := hp_3.resolve_left c_6
    refine lv_aload_n hx hb dX11_since_11 rfl (lv_at hl 0 rfl) ?_
    refine x_roVi (As := []) S hK hP hD hZ (fun _ h => h) hA hS hA hl mwX11_hours lkX11_103 (ctX11_hours l D k z n mthrown mtaped msize mat mfrom mtoken mvalue mfaultKind mfaultPlace (u_2.2.1 0) (u_2.1 0) (u_2.1 1) (u_2.1 2) (u_2.1 3) (u_2.1 4) (u_2.1 5) mroundNow msampleFor msampleAll maskWorst moftenAll moftenView moftenOnes fworld (by omega) (by omega) (by omega) (by omega) (by omega) (hkworld)) [0, 1] rfl (by decide) rfl rfl rfl rfl rfl ⟨Nat.le_of_ble_eq_true rfl, Nat.le_of_ble_eq_true rfl, Nat.le_of_ble_eq_true rfl⟩ dX11_since_12 ⟨Nat.le_of_ble_eq_true rfl, Nat.le_of_ble_eq_true rfl⟩ (fun r_8 H locs hr_8 hP hS => ?_)
    obtain rfl := hr_8
    refine lv_istore_n (lv' := [(2, .int (nI (wn fworld 0))), (0, .ref (n 0)), (1, .int (nI n_7))]) hx hb dX11_since_15 rfl hl (by decide) rfl (fun ls hl => ?_)
    have lp_20 : ∀ (nn j_19 : Nat)  (H : Heap) (locs : List Loc) (ls : Array Slot), j_19 ≤ 16 → j_19 < nn → va_P D vwCl [((n 0), .inr (11, [.int mthrown, .ref (n 1), .ref (n 2), .ref (n 3), .ref (n 4), .int (nI mtaped), .ref (n 5), .int (nI msize), .int (nI mat), .int (nI mfrom), .int mtoken, .int mvalue, .int mfaultKind, .int mfaultPlace, .ref (n 6), .ref (n 7), .ref (n 8), .ref (n 9), .ref (n 10), .ref (n 11), .ref (n 12), .int (nI (u_2.2.1 0)), .int (u_2.1 0), .int (u_2.1 1), .int (u_2.1 2), .ref (n 13), .ref (n 14), .ref (n 15), .int (u_2.1 3), .int (u_2.1 4), .int (u_2.1 5), .ref (n 16), .ref (n 17), .int mroundNow, .ref (n 18), .long msampleFor, .long msampleAll, .ref (n 19), .int maskWorst, .long moftenAll, .long moftenView, .long moftenOnes, .ref (n 20), .ref (n 21), .ref (n 22), .ref (n 23)])), ((n 1), .inl (k 0, 99, .inl fworld)), ((n 7), .inl (k 0, 12, .inl (u_2.2.2.1 4))), ((n 8), .inl (k 0, 12, .inl (u_2.2.2.1 5))), ((n 9), .inl (k 0, 4, .inl (u_2.2.2.1 6))), ((n 10), .inl (k 0, 12, .inl (u_2.2.2.1 0))), ((n 11), .inl (k 0, 14, .inl fmoreHead)), ((n 12), .inl (k 0, 14, .inl fmoreView)), ((n 13), .inl (k 0, 17, .inl (u_2.2.2.1 1))), ((n 14), .inl (k 0, 17, .inl (u_2.2.2.1 2))), ((n 15), .inl (k 0, 17, .inl (u_2.2.2.1 3)))] H → va_D A [((n 0), .inr (11, [.int mthrown, .ref (n 1), .ref (n 2), .ref (n 3), .ref (n 4), .int (nI mtaped), .ref (n 5), .int (nI msize), .int (nI mat), .int (nI mfrom), .int mtoken, .int mvalue, .int mfaultKind, .int mfaultPlace, .ref (n 6), .ref (n 7), .ref (n 8), .ref (n 9), .ref (n 10), .ref (n 11), .ref (n 12), .int (nI (u_2.2.1 0)), .int (u_2.1 0), .int (u_2.1 1), .int (u_2.1 2), .ref (n 13), .ref (n 14), .ref (n 15), .int (u_2.1 3), .int (u_2.1 4), .int (u_2.1 5), .ref (n 16), .ref (n 17), .int mroundNow, .ref (n 18), .long msampleFor, .long msampleAll, .ref (n 19), .int maskWorst, .long moftenAll, .long moftenView, .long moftenOnes, .ref (n 20), .ref (n 21), .ref (n 22), .ref (n 23)])), ((n 1), .inl (k 0, 99, .inl fworld)), ((n 7), .inl (k 0, 12, .inl (u_2.2.2.1 4))), ((n 8), .inl (k 0, 12, .inl (u_2.2.2.1 5))), ((n 9), .inl (k 0, 4, .inl (u_2.2.2.1 6))), ((n 10), .inl (k 0, 12, .inl (u_2.2.2.1 0))), ((n 11), .inl (k 0, 14, .inl fmoreHead)), ((n 12), .inl (k 0, 14, .inl fmoreView)), ((n 13), .inl (k 0, 17, .inl (u_2.2.2.1 1))), ((n 14), .inl (k 0, 17, .inl (u_2.2.2.1 2))), ((n 15), .inl (k 0, 17, .inl (u_2.2.2.1 3)))] → va_S A s.heap H locs → lv_has ls 3 [(2, .int (nI j_19)), (0, .ref (n 0)), (1, .int (nI n_7))] → W p l e (Rm 9 0 0) s m args below meth c H locs 0 0 Q (F0 m 16 ls []) := by
      intro nn
      induction nn with
      | zero => intro j_19  H locs ls hjj_19 hnj_19; exact absurd hnj_19 (by omega)
      | succ nn ihj_19 =>
        intro j_19  H locs ls hjj_19 hnj_19 hP hD hS hl
        refine lv_iload_n hx hb dX11_since_16 rfl (lv_at hl 0 rfl) ?_
        refine lv_if_le (tgt := 46) hx hb dX11_since_17 (by decide) (fun c_21 => ?_) (fun c_21 => ?_)
        · skip
          have c_21 : j_19 ≤ 0 := (ni_le rfl (by decide) (by omega) (by omega)).mp c_21
          refine lv_iload_n hx hb dX11_since_46 rfl (lv_at hl 0 rfl) ?_
          exact x_reti S hr hlk hQ hS ((fun i => ([(u_2.1 0), (u_2.1 1), (u_2.1 2), (u_2.1 3), (u_2.1 4), (u_2.1 5)] : List (Int32)).getD i 0), (fun i => ([u_2.2.1 0] : List (Nat)).getD i 0), (fun i => ([(u_2.2.2.1 0), (u_2.2.2.1 1), (u_2.2.2.1 2), (u_2.2.2.1 3), (u_2.2.2.1 4), (u_2.2.2.1 5), (u_2.2.2.1 6)] : List (Nat → Int32)).getD i (fun _ => 0)), (fun i => ([] : List (Nat → Int64)).getD i (fun _ => 0)), (fun i => ([] : List (Int64)).getD i 0)) (show u_2.2.1 0 ≤ 14 by omega) (x_B hP hD) dX11_since_47
        · skip
          have c_21 : ¬ j_19 ≤ 0 := fun q => c_21 ((ni_le rfl (by decide) (by omega) (by omega)).mpr q)
          refine lv_aload_n hx hb dX11_since_20 rfl (lv_at hl 1 rfl) ?_
          refine lv_iload_n hx hb dX11_since_21 rfl (lv_at hl 2 rfl) ?_
          refine lv_iload_n hx hb dX11_since_22 rfl (lv_at hl 0 rfl) ?_
          refine lv_iconst (v := 1) hx hb dX11_since_23 (by decide) ?_
          refine lv_isub hx hb dX11_since_24 ?_
          refine x_is (nI (j_19 - 1)) (ni_sub rfl (by decide) (by omega)) ?_
          refine x_roVi (As := [.int (nI n_7), .int (nI (j_19 - 1))]) S hK hP hD hZ (fun _ h => h) hA hS hA hl mwX11_viewOf lkX11_333 (ctX11_viewOf l D k z n mthrown mtaped msize mat mfrom mtoken mvalue mfaultKind mfaultPlace (u_2.2.1 0) (u_2.1 0) (u_2.1 1) (u_2.1 2) (u_2.1 3) (u_2.1 4) (u_2.1 5) mroundNow msampleFor msampleAll maskWorst moftenAll moftenView moftenOnes (u_2.2.2.1 1) (u_2.2.2.1 2) (nI n_7) (j_19 - 1) (by omega) (by omega) (by omega) (by omega) (by omega) (by omega)) [0, 8, 9] rfl (by decide) rfl rfl rfl rfl rfl ⟨Nat.le_of_ble_eq_true rfl, Nat.le_of_ble_eq_true rfl, Nat.le_of_ble_eq_true rfl⟩ dX11_since_25 ⟨Nat.le_of_ble_eq_true rfl, Nat.le_of_ble_eq_true rfl⟩ (fun r_22 H locs hr_22 hP hS => ?_)
          refine lv_aload_n hx hb dX11_since_28 rfl (lv_at hl 1 rfl) ?_
          refine lv_iload_n hx hb dX11_since_29 rfl (lv_at hl 2 rfl) ?_
          refine lv_aload_n hx hb dX11_since_30 rfl (lv_at hl 1 rfl) ?_
          refine x_roVi (As := []) S hK hP hD hZ (fun _ h => h) hA hS hA hl mwX11_hours lkX11_103 (ctX11_hours l D k z n mthrown mtaped msize mat mfrom mtoken mvalue mfaultKind mfaultPlace (u_2.2.1 0) (u_2.1 0) (u_2.1 1) (u_2.1 2) (u_2.1 3) (u_2.1 4) (u_2.1 5) mroundNow msampleFor msampleAll maskWorst moftenAll moftenView moftenOnes fworld (by omega) (by omega) (by omega) (by omega) (by omega) (hkworld)) [0, 1] rfl (by decide) rfl rfl rfl rfl rfl ⟨Nat.le_of_ble_eq_true rfl, Nat.le_of_ble_eq_true rfl, Nat.le_of_ble_eq_true rfl⟩ dX11_since_31 ⟨Nat.le_of_ble_eq_true rfl, Nat.le_of_ble_eq_true rfl⟩ (fun r_24 H locs hr_24 hP hS => ?_)
          obtain rfl := hr_24
          refine x_roVi (As := [.int (nI n_7), .int (nI (wn fworld 0))]) S hK hP hD hZ (fun _ h => h) hA hS hA hl mwX11_viewOf lkX11_333 (ctX11_viewOf l D k z n mthrown mtaped msize mat mfrom mtoken mvalue mfaultKind mfaultPlace (u_2.2.1 0) (u_2.1 0) (u_2.1 1) (u_2.1 2) (u_2.1 3) (u_2.1 4) (u_2.1 5) mroundNow msampleFor msampleAll maskWorst moftenAll moftenView moftenOnes (u_2.2.2.1 1) (u_2.2.2.1 2) (nI n_7) (wn fworld 0) (by omega) (by omega) (by omega) (by omega) (by omega) (by omega)) [0, 8, 9] rfl (by decide) rfl rfl rfl rfl rfl ⟨Nat.le_of_ble_eq_true rfl, Nat.le_of_ble_eq_true rfl, Nat.le_of_ble_eq_true rfl⟩ dX11_since_34 ⟨Nat.le_of_ble_eq_true rfl, Nat.le_of_ble_eq_true rfl⟩ (fun r_26 H locs hr_26 hP hS => ?_)
          refine lv_icmp_ne (tgt := 46) hx hb dX11_since_37 (by decide) (fun c_28 => ?_) (fun c_28 => ?_)
          · skip
            refine lv_iload_n hx hb dX11_since_46 rfl (lv_at hl 0 rfl) ?_
            exact x_reti S hr hlk hQ hS ((fun i => ([(u_2.1 0), (u_2.1 1), (u_2.1 2), (u_2.1 3), (u_2.1 4), (u_2.1 5)] : List (Int32)).getD i 0), (fun i => ([u_2.2.1 0] : List (Nat)).getD i 0), (fun i => ([(u_2.2.2.1 0), (u_2.2.2.1 1), (u_2.2.2.1 2), (u_2.2.2.1 3), (u_2.2.2.1 4), (u_2.2.2.1 5), (u_2.2.2.1 6)] : List (Nat → Int32)).getD i (fun _ => 0)), (fun i => ([] : List (Nat → Int64)).getD i (fun _ => 0)), (fun i => ([] : List (Int64)).getD i 0)) (show u_2.2.1 0 ≤ 14 by omega) (x_B hP hD) dX11_since_47
          · skip
            refine lv_iinc (v := (nI (j_19 - 1))) (lv' := [(2, .int (nI (j_19 - 1))), (0, .ref (n 0)), (1, .int (nI n_7))]) hx hb dX11_since_40 hl (k := 0) rfl (ni_dec (by omega)) (by decide) rfl (fun ls hl => ?_)
            refine lv_goto (tgt := 16) hx hb dX11_since_43 (by decide) ?_
            exact ihj_19 (j_19 - 1)  _ _ _ (by omega) (by omega) hP hD hS (lv_sub hl [0, 1, 2] rfl)
    exact lp_20 (wn fworld 0 + 1) (wn fworld 0)  _ _ _ (by omega) (by omega) hP hD hS (lv_sub hl [0, 1, 2] rfl)
  · skip
    refine lv_bipush (v := (-2)) hx hb dX11_since_8 (by decide) ?_
    exact x_reti S hr hlk hQ hS ((fun i => ([(u_2.1 0), (u_2.1 1), (u_2.1 2), (u_2.1 3), (u_2.1 4), (u_2.1 5)] : List (Int32)).getD i 0), (fun i => ([u_2.2.1 0] : List (Nat)).getD i 0), (fun i => ([(u_2.2.2.1 0), (u_2.2.2.1 1), (u_2.2.2.1 2), (u_2.2.2.1 3), (u_2.2.2.1 4), (u_2.2.2.1 5), (u_2.2.2.1 6)] : List (Nat → Int32)).getD i (fun _ => 0)), (fun i => ([] : List (Nat → Int64)).getD i (fun _ => 0)), (fun i => ([] : List (Int64)).getD i 0)) (show u_2.2.1 0 ≤ 14 by omega) (x_B hP hD) dX11_since_10

set_option maxHeartbeats 4000000 in
set_option maxRecDepth 100000 in
theorem ctX11_held (l : Launch) (D : va_G) (k : Nat → ClassId) (z : Nat → Nat) (n : Nat → Nat) (mthrown : Int32) (mtaped : Nat) (msize : Nat) (mat : Nat) (mfrom : Nat) (mtoken : Int32) (mvalue : Int32) (mfaultKind : Int32) (mfaultPlace : Int32) (mmoreMany : Nat) (mlawNow : Int32) (mwetSet : Int32) (moverAll : Int32) (mones : Int32) (mtwos : Int32) (mgone : Int32) (mroundNow : Int32) (msampleFor : Int64) (msampleAll : Int64) (maskWorst : Int32) (moftenAll : Int64) (moftenView : Int64) (moftenOnes : Int64) (fworld : Nat → Int32) (frowOf : Nat → Int32) (fplaceOf : Nat → Int32) (ffirstOf : Nat → Int32) (fhardNow : Nat → Int32) (fmoreHead : Nat → Int32) (fmoreView : Nat → Int32) (fonesAt : Nat → Int32) (ftwosAt : Nat → Int32) (fgoneAt : Nat → Int32) (p0 : Int32) (hmtaped : mtaped ≤ 600) (hmsize : msize ≤ 600) (hmat : mat ≤ 600) (hmfrom : mfrom ≤ 600) (hmmoreMany : mmoreMany ≤ 14) (hkworld : okW fworld) : MU l yX11_held cX11_held 6 (some .int) 9 D k z [.ref (n 0), .int p0] [((n 0), .inr (11, [.int mthrown, .ref (n 1), .ref (n 2), .ref (n 3), .ref (n 4), .int (nI mtaped), .ref (n 5), .int (nI msize), .int (nI mat), .int (nI mfrom), .int mtoken, .int mvalue, .int mfaultKind, .int mfaultPlace, .ref (n 6), .ref (n 7), .ref (n 8), .ref (n 9), .ref (n 10), .ref (n 11), .ref (n 12), .int (nI mmoreMany), .int mlawNow, .int mwetSet, .int moverAll, .ref (n 13), .ref (n 14), .ref (n 15), .int mones, .int mtwos, .int mgone, .ref (n 16), .ref (n 17), .int mroundNow, .ref (n 18), .long msampleFor, .long msampleAll, .ref (n 19), .int maskWorst, .long moftenAll, .long moftenView, .long moftenOnes, .ref (n 20), .ref (n 21), .ref (n 22), .ref (n 23)])), ((n 1), .inl (k 0, 99, .inl fworld)), ((n 7), .inl (k 0, 12, .inl frowOf)), ((n 8), .inl (k 0, 12, .inl fplaceOf)), ((n 9), .inl (k 0, 4, .inl ffirstOf)), ((n 10), .inl (k 0, 12, .inl fhardNow)), ((n 11), .inl (k 0, 14, .inl fmoreHead)), ((n 12), .inl (k 0, 14, .inl fmoreView)), ((n 13), .inl (k 0, 17, .inl fonesAt)), ((n 14), .inl (k 0, 17, .inl ftwosAt)), ((n 15), .inl (k 0, 17, .inl fgoneAt))] 0 0 (Ui D (fun (r : Int32) (u : (Nat → Int32) × (Nat → Nat) × (Nat → Nat → Int32) × (Nat → Nat → Int64) × (Nat → Int64)) => (u.2.1 0 ≤ 14)) (fun u : (Nat → Int32) × (Nat → Nat) × (Nat → Nat → Int32) × (Nat → Nat → Int64) × (Nat → Int64) => [((n 0), .inr (11, [.int mthrown, .ref (n 1), .ref (n 2), .ref (n 3), .ref (n 4), .int (nI mtaped), .ref (n 5), .int (nI msize), .int (nI mat), .int (nI mfrom), .int mtoken, .int mvalue, .int mfaultKind, .int mfaultPlace, .ref (n 6), .ref (n 7), .ref (n 8), .ref (n 9), .ref (n 10), .ref (n 11), .ref (n 12), .int (nI (u.2.1 0)), .int (u.1 0), .int (u.1 1), .int (u.1 2), .ref (n 13), .ref (n 14), .ref (n 15), .int (u.1 3), .int (u.1 4), .int (u.1 5), .ref (n 16), .ref (n 17), .int mroundNow, .ref (n 18), .long msampleFor, .long msampleAll, .ref (n 19), .int maskWorst, .long moftenAll, .long moftenView, .long moftenOnes, .ref (n 20), .ref (n 21), .ref (n 22), .ref (n 23)])), ((n 1), .inl (k 0, 99, .inl fworld)), ((n 7), .inl (k 0, 12, .inl (u.2.2.1 4))), ((n 8), .inl (k 0, 12, .inl (u.2.2.1 5))), ((n 9), .inl (k 0, 4, .inl (u.2.2.1 6))), ((n 10), .inl (k 0, 12, .inl (u.2.2.1 0))), ((n 11), .inl (k 0, 14, .inl fmoreHead)), ((n 12), .inl (k 0, 14, .inl fmoreView)), ((n 13), .inl (k 0, 17, .inl (u.2.2.1 1))), ((n 14), .inl (k 0, 17, .inl (u.2.2.1 2))), ((n 15), .inl (k 0, 17, .inl (u.2.2.1 3)))])) := by
  refine MU.of (by decide) (Nat.le_of_ble_eq_true rfl) ?_
  intro p e s m below meth c ls A args Q S hr hlk hnm hQ hK hP hD hZ hA hS hl
  have hx := S.1
  have hb := S.2.1
  have hl : lv_has ls 6 [(0, .ref (n 0)), (1, .int p0)] := hl
  have hbfworld := okW_bd hkworld
  refine lv_aload_n hx hb dX11_held_0 rfl (lv_at hl 0 rfl) ?_
  refine lv_iload_n hx hb dX11_held_1 rfl (lv_at hl 1 rfl) ?_
  refine x_muVi (wr := []) (As := [.int p0]) S hK hP hD hZ hS hA hl mwX11_asksHead lkX11_342 (ctX11_asksHead l D k z n mthrown mtaped msize mat mfrom mtoken mvalue mfaultKind mfaultPlace mmoreMany mlawNow mwetSet moverAll mones mtwos mgone mroundNow msampleFor msampleAll maskWorst moftenAll moftenView moftenOnes fworld frowOf fplaceOf ffirstOf fhardNow fmoreHead fmoreView fonesAt ftwosAt fgoneAt p0 (by omega) (by omega) (by omega) (by omega) (by omega) (hkworld)) [0, 1, 2, 3, 4, 5, 6, 7, 8, 9, 10] [] rfl rfl (by decide) (by decide) (by decide) rfl rfl rfl rfl rfl ⟨Nat.le_of_ble_eq_true rfl, Nat.le_of_ble_eq_true rfl, Nat.le_of_ble_eq_true rfl⟩ dX11_held_2 ⟨Nat.le_of_ble_eq_true rfl, Nat.le_of_ble_eq_true rfl⟩ (fun r_1 u_2 H locs hr_1 hP hD hS => ?_)
  have hP : va_P D vwCl [((n 0), .inr (11, [.int mthrown, .ref (n 1), .ref (n 2), .ref (n 3), .ref (n 4), .int (nI mtaped), .ref (n 5), .int (nI msize), .int (nI mat), .int (nI mfrom), .int mtoken, .int mvalue, .int mfaultKind, .int mfaultPlace, .ref (n 6), .ref (n 7), .ref (n 8), .ref (n 9), .ref (n 10), .ref (n 11), .ref (n 12), .int (nI (u_2.2.1 0)), .int (u_2.1 0), .int (u_2.1 1), .int (u_2.1 2), .ref (n 13), .ref (n 14), .ref (n 15), .int (u_2.1 3), .int (u_2.1 4), .int (u_2.1 5), .ref (n 16), .ref (n 17), .int mroundNow, .ref (n 18), .long msampleFor, .long msampleAll, .ref (n 19), .int maskWorst, .long moftenAll, .long moftenView, .long moftenOnes, .ref (n 20), .ref (n 21), .ref (n 22), .ref (n 23)])), ((n 1), .inl (k 0, 99, .inl fworld)), ((n 7), .inl (k 0, 12, .inl (u_2.2.2.1 4))), ((n 8), .inl (k 0, 12, .inl (u_2.2.2.1 5))), ((n 9), .inl (k 0, 4, .inl (u_2.2.2.1 6))), ((n 10), .inl (k 0, 12, .inl (u_2.2.2.1 0))), ((n 11), .inl (k 0, 14, .inl fmoreHead)), ((n 12), .inl (k 0, 14, .inl fmoreView)), ((n 13), .inl (k 0, 17, .inl (u_2.2.2.1 1))), ((n 14), .inl (k 0, 17, .inl (u_2.2.2.1 2))), ((n 15), .inl (k 0, 17, .inl (u_2.2.2.1 3)))] H := hP.sub [0, 1, 2, 3, 4, 5, 6, 7, 8, 9, 10] rfl
  have hD : va_D A [((n 0), .inr (11, [.int mthrown, .ref (n 1), .ref (n 2), .ref (n 3), .ref (n 4), .int (nI mtaped), .ref (n 5), .int (nI msize), .int (nI mat), .int (nI mfrom), .int mtoken, .int mvalue, .int mfaultKind, .int mfaultPlace, .ref (n 6), .ref (n 7), .ref (n 8), .ref (n 9), .ref (n 10), .ref (n 11), .ref (n 12), .int (nI (u_2.2.1 0)), .int (u_2.1 0), .int (u_2.1 1), .int (u_2.1 2), .ref (n 13), .ref (n 14), .ref (n 15), .int (u_2.1 3), .int (u_2.1 4), .int (u_2.1 5), .ref (n 16), .ref (n 17), .int mroundNow, .ref (n 18), .long msampleFor, .long msampleAll, .ref (n 19), .int maskWorst, .long moftenAll, .long moftenView, .long moftenOnes, .ref (n 20), .ref (n 21), .ref (n 22), .ref (n 23)])), ((n 1), .inl (k 0, 99, .inl fworld)), ((n 7), .inl (k 0, 12, .inl (u_2.2.2.1 4))), ((n 8), .inl (k 0, 12, .inl (u_2.2.2.1 5))), ((n 9), .inl (k 0, 4, .inl (u_2.2.2.1 6))), ((n 10), .inl (k 0, 12, .inl (u_2.2.2.1 0))), ((n 11), .inl (k 0, 14, .inl fmoreHead)), ((n 12), .inl (k 0, 14, .inl fmoreView)), ((n 13), .inl (k 0, 17, .inl (u_2.2.2.1 1))), ((n 14), .inl (k 0, 17, .inl (u_2.2.2.1 2))), ((n 15), .inl (k 0, 17, .inl (u_2.2.2.1 3)))] := hD.sub [0, 1, 2, 3, 4, 5, 6, 7, 8, 9, 10] (by decide) rfl
  obtain ⟨hp_3, hz_4, hg_5⟩ := hr_1
  refine lv_if_ne (tgt := 11) hx hb dX11_held_5 (by decide) (fun c_6 => ?_) (fun c_6 => ?_)
  · skip
    obtain ⟨n_7, rfl, hn_7⟩ := hp_3.resolve_left c_6
    refine lv_iconst (v := 0) hx hb dX11_held_11 (by decide) ?_
    refine lv_istore_n (lv' := [(2, .int 0), (0, .ref (n 0)), (1, .int (nI n_7))]) hx hb dX11_held_12 rfl hl (by decide) rfl (fun ls hl => ?_)
    refine lv_iconst (v := 0) hx hb dX11_held_13 (by decide) ?_
    refine lv_istore_n (lv' := [(3, .int 0), (2, .int 0), (0, .ref (n 0)), (1, .int (nI n_7))]) hx hb dX11_held_14 rfl hl (by decide) rfl (fun ls hl => ?_)
    refine lv_iconst (v := 0) hx hb dX11_held_15 (by decide) ?_
    refine lv_istore (lv' := [(4, .int 0), (3, .int 0), (2, .int 0), (0, .ref (n 0)), (1, .int (nI n_7))]) hx hb dX11_held_16 hl (by decide) rfl (fun ls hl => ?_)
    have lp_79 : ∀ (nn j_76 : Nat) (x_77 : Int32) (x_78 : Int32) (H : Heap) (locs : List Loc) (ls : Array Slot), j_76 ≤ wn fworld 0 + 1 → wn fworld 0 + 1 - j_76 < nn → va_P D vwCl [((n 0), .inr (11, [.int mthrown, .ref (n 1), .ref (n 2), .ref (n 3), .ref (n 4), .int (nI mtaped), .ref (n 5), .int (nI msize), .int (nI mat), .int (nI mfrom), .int mtoken, .int mvalue, .int mfaultKind, .int mfaultPlace, .ref (n 6), .ref (n 7), .ref (n 8), .ref (n 9), .ref (n 10), .ref (n 11), .ref (n 12), .int (nI (u_2.2.1 0)), .int (u_2.1 0), .int (u_2.1 1), .int (u_2.1 2), .ref (n 13), .ref (n 14), .ref (n 15), .int (u_2.1 3), .int (u_2.1 4), .int (u_2.1 5), .ref (n 16), .ref (n 17), .int mroundNow, .ref (n 18), .long msampleFor, .long msampleAll, .ref (n 19), .int maskWorst, .long moftenAll, .long moftenView, .long moftenOnes, .ref (n 20), .ref (n 21), .ref (n 22), .ref (n 23)])), ((n 1), .inl (k 0, 99, .inl fworld)), ((n 7), .inl (k 0, 12, .inl (u_2.2.2.1 4))), ((n 8), .inl (k 0, 12, .inl (u_2.2.2.1 5))), ((n 9), .inl (k 0, 4, .inl (u_2.2.2.1 6))), ((n 10), .inl (k 0, 12, .inl (u_2.2.2.1 0))), ((n 11), .inl (k 0, 14, .inl fmoreHead)), ((n 12), .inl (k 0, 14, .inl fmoreView)), ((n 13), .inl (k 0, 17, .inl (u_2.2.2.1 1))), ((n 14), .inl (k 0, 17, .inl (u_2.2.2.1 2))), ((n 15), .inl (k 0, 17, .inl (u_2.2.2.1 3)))] H → va_D A [((n 0), .inr (11, [.int mthrown, .ref (n 1), .ref (n 2), .ref (n 3), .ref (n 4), .int (nI mtaped), .ref (n 5), .int (nI msize), .int (nI mat), .int (nI mfrom), .int mtoken, .int mvalue, .int mfaultKind, .int mfaultPlace, .ref (n 6), .ref (n 7), .ref (n 8), .ref (n 9), .ref (n 10), .ref (n 11), .ref (n 12), .int (nI (u_2.2.1 0)), .int (u_2.1 0), .int (u_2.1 1), .int (u_2.1 2), .ref (n 13), .ref (n 14), .ref (n 15), .int (u_2.1 3), .int (u_2.1 4), .int (u_2.1 5), .ref (n 16), .ref (n 17), .int mroundNow, .ref (n 18), .long msampleFor, .long msampleAll, .ref (n 19), .int maskWorst, .long moftenAll, .long moftenView, .long moftenOnes, .ref (n 20), .ref (n 21), .ref (n 22), .ref (n 23)])), ((n 1), .inl (k 0, 99, .inl fworld)), ((n 7), .inl (k 0, 12, .inl (u_2.2.2.1 4))), ((n 8), .inl (k 0, 12, .inl (u_2.2.2.1 5))), ((n 9), .inl (k 0, 4, .inl (u_2.2.2.1 6))), ((n 10), .inl (k 0, 12, .inl (u_2.2.2.1 0))), ((n 11), .inl (k 0, 14, .inl fmoreHead)), ((n 12), .inl (k 0, 14, .inl fmoreView)), ((n 13), .inl (k 0, 17, .inl (u_2.2.2.1 1))), ((n 14), .inl (k 0, 17, .inl (u_2.2.2.1 2))), ((n 15), .inl (k 0, 17, .inl (u_2.2.2.1 3)))] → va_S A s.heap H locs → lv_has ls 6 [(4, .int (nI j_76)), (3, .int x_77), (2, .int x_78), (0, .ref (n 0)), (1, .int (nI n_7))] → W p l e (Rm 9 0 0) s m args below meth c H locs 0 0 Q (F0 m 18 ls []) := by
      intro nn
      induction nn with
      | zero => intro j_76 x_77 x_78 H locs ls hjj_76 hnj_76; exact absurd hnj_76 (by omega)
      | succ nn ihj_76 =>
        intro j_76 x_77 x_78 H locs ls hjj_76 hnj_76 hP hD hS hl
        refine lv_iload hx hb dX11_held_18 (lv_at hl 0 rfl) ?_
        refine lv_aload_n hx hb dX11_held_20 rfl (lv_at hl 3 rfl) ?_
        refine x_roVi (As := []) S hK hP hD hZ (fun _ h => h) hA hS hA hl mwX11_hours lkX11_103 (ctX11_hours l D k z n mthrown mtaped msize mat mfrom mtoken mvalue mfaultKind mfaultPlace (u_2.2.1 0) (u_2.1 0) (u_2.1 1) (u_2.1 2) (u_2.1 3) (u_2.1 4) (u_2.1 5) mroundNow msampleFor msampleAll maskWorst moftenAll moftenView moftenOnes fworld (by omega) (by omega) (by omega) (by omega) (by omega) (hkworld)) [0, 1] rfl (by decide) rfl rfl rfl rfl rfl ⟨Nat.le_of_ble_eq_true rfl, Nat.le_of_ble_eq_true rfl, Nat.le_of_ble_eq_true rfl⟩ dX11_held_21 ⟨Nat.le_of_ble_eq_true rfl, Nat.le_of_ble_eq_true rfl⟩ (fun r_80 H locs hr_80 hP hS => ?_)
        obtain rfl := hr_80
        refine lv_icmp_gt (tgt := 97) hx hb dX11_held_24 (by decide) (fun c_82 => ?_) (fun c_82 => ?_)
        · skip
          have c_82 : wn fworld 0 < j_76 := (ni_lt rfl rfl (by omega) (by omega)).mp c_82
          refine lv_iload_n hx hb dX11_held_97 rfl (lv_at hl 2 rfl) ?_
          exact x_reti S hr hlk hQ hS ((fun i => ([(u_2.1 0), (u_2.1 1), (u_2.1 2), (u_2.1 3), (u_2.1 4), (u_2.1 5)] : List (Int32)).getD i 0), (fun i => ([u_2.2.1 0] : List (Nat)).getD i 0), (fun i => ([(u_2.2.2.1 0), (u_2.2.2.1 1), (u_2.2.2.1 2), (u_2.2.2.1 3), (u_2.2.2.1 4), (u_2.2.2.1 5), (u_2.2.2.1 6)] : List (Nat → Int32)).getD i (fun _ => 0)), (fun i => ([] : List (Nat → Int64)).getD i (fun _ => 0)), (fun i => ([] : List (Int64)).getD i 0)) (show u_2.2.1 0 ≤ 14 by omega) (x_B hP hD) dX11_held_98
        · skip
          have c_82 : ¬ wn fworld 0 < j_76 := fun q => c_82 ((ni_lt rfl rfl (by omega) (by omega)).mpr q)
          refine lv_iload hx hb dX11_held_27 (lv_at hl 0 rfl) ?_
          refine lv_if_le (tgt := 55) hx hb dX11_held_29 (by decide) (fun c_83 => ?_) (fun c_83 => ?_)
          · skip
            have c_83 : j_76 ≤ 0 := (ni_le rfl (by decide) (by omega) (by omega)).mp c_83
            refine lv_iconst (v := 0) hx hb dX11_held_55 (by decide) ?_
            refine lv_istore (lv' := [(5, .int 0), (4, .int (nI j_76)), (3, .int x_77), (2, .int x_78), (0, .ref (n 0)), (1, .int (nI n_7))]) hx hb dX11_held_56 hl (by decide) rfl (fun ls hl => ?_)
            refine lv_aload_n hx hb dX11_held_58 rfl (lv_at hl 4 rfl) ?_
            refine lv_iload_n hx hb dX11_held_59 rfl (lv_at hl 5 rfl) ?_
            refine lv_iload hx hb dX11_held_60 (lv_at hl 1 rfl) ?_
            refine x_roVi (As := [.int (nI n_7), .int (nI j_76)]) S hK hP hD hZ (fun _ h => h) hA hS hA hl mwX11_viewOf lkX11_333 (ctX11_viewOf l D k z n mthrown mtaped msize mat mfrom mtoken mvalue mfaultKind mfaultPlace (u_2.2.1 0) (u_2.1 0) (u_2.1 1) (u_2.1 2) (u_2.1 3) (u_2.1 4) (u_2.1 5) mroundNow msampleFor msampleAll maskWorst moftenAll moftenView moftenOnes (u_2.2.2.1 1) (u_2.2.2.1 2) (nI n_7) j_76 (by omega) (by omega) (by omega) (by omega) (by omega) (by omega)) [0, 8, 9] rfl (by decide) rfl rfl rfl rfl rfl ⟨Nat.le_of_ble_eq_true rfl, Nat.le_of_ble_eq_true rfl, Nat.le_of_ble_eq_true rfl⟩ dX11_held_62 ⟨Nat.le_of_ble_eq_true rfl, Nat.le_of_ble_eq_true rfl⟩ (fun r_84 H locs hr_84 hP hS => ?_)
            refine lv_if_ne (tgt := 72) hx hb dX11_held_65 (by decide) (fun c_86 => ?_) (fun c_86 => ?_)
            · skip
              refine lv_iload hx hb dX11_held_72 (lv_at hl 0 rfl) ?_
              refine lv_if_eq (tgt := 83) hx hb dX11_held_74 (by decide) (fun c_87 => ?_) (fun c_87 => absurd (by decide) c_87)
              refine lv_iconst (v := 1) hx hb dX11_held_83 (by decide) ?_
              refine lv_istore_n (lv' := [(3, .int 1), (5, .int 0), (4, .int (nI j_76)), (2, .int x_78), (0, .ref (n 0)), (1, .int (nI n_7))]) hx hb dX11_held_84 rfl hl (by decide) rfl (fun ls hl => ?_)
              refine lv_iload_n hx hb dX11_held_85 rfl (lv_at hl 3 rfl) ?_
              refine lv_iload_n hx hb dX11_held_86 rfl (lv_at hl 0 rfl) ?_
              refine x_mmax S hl lkX11_355 (Nat.le_of_ble_eq_true rfl) (Nat.le_of_ble_eq_true rfl) ⟨Nat.le_of_ble_eq_true rfl, Nat.le_of_ble_eq_true rfl⟩ dX11_held_87 (fun v_88 ev_88 => ?_)
              refine lv_istore_n (lv' := [(2, .int v_88), (3, .int 1), (5, .int 0), (4, .int (nI j_76)), (0, .ref (n 0)), (1, .int (nI n_7))]) hx hb dX11_held_90 rfl hl (by decide) rfl (fun ls hl => ?_)
              refine lv_iinc (v := (nI (j_76 + 1))) (lv' := [(4, .int (nI (j_76 + 1))), (2, .int v_88), (3, .int 1), (5, .int 0), (0, .ref (n 0)), (1, .int (nI n_7))]) hx hb dX11_held_91 hl (k := 3) rfl (ni_inc _) (by decide) rfl (fun ls hl => ?_)
              refine lv_goto (tgt := 18) hx hb dX11_held_94 (by decide) ?_
              exact ihj_76 (j_76 + 1) 1 v_88 _ _ _ (by omega) (by omega) hP hD hS (lv_sub hl [0, 2, 1, 4, 5] rfl)
            · skip
              refine lv_iconst (v := 0) hx hb dX11_held_68 (by decide) ?_
              refine lv_goto (tgt := 84) hx hb dX11_held_69 (by decide) ?_
              refine lv_istore_n (lv' := [(3, .int 0), (5, .int 0), (4, .int (nI j_76)), (2, .int x_78), (0, .ref (n 0)), (1, .int (nI n_7))]) hx hb dX11_held_84 rfl hl (by decide) rfl (fun ls hl => ?_)
              refine lv_iload_n hx hb dX11_held_85 rfl (lv_at hl 3 rfl) ?_
              refine lv_iload_n hx hb dX11_held_86 rfl (lv_at hl 0 rfl) ?_
              refine x_mmax S hl lkX11_355 (Nat.le_of_ble_eq_true rfl) (Nat.le_of_ble_eq_true rfl) ⟨Nat.le_of_ble_eq_true rfl, Nat.le_of_ble_eq_true rfl⟩ dX11_held_87 (fun v_89 ev_89 => ?_)
              refine lv_istore_n (lv' := [(2, .int v_89), (3, .int 0), (5, .int 0), (4, .int (nI j_76)), (0, .ref (n 0)), (1, .int (nI n_7))]) hx hb dX11_held_90 rfl hl (by decide) rfl (fun ls hl => ?_)
              refine lv_iinc (v := (nI (j_76 + 1))) (lv' := [(4, .int (nI (j_76 + 1))), (2, .int v_89), (3, .int 0), (5, .int 0), (0, .ref (n 0)), (1, .int (nI n_7))]) hx hb dX11_held_91 hl (k := 3) rfl (ni_inc _) (by decide) rfl (fun ls hl => ?_)
              refine lv_goto (tgt := 18) hx hb dX11_held_94 (by decide) ?_
              exact ihj_76 (j_76 + 1) 0 v_89 _ _ _ (by omega) (by omega) hP hD hS (lv_sub hl [0, 2, 1, 4, 5] rfl)
          · skip
            have c_83 : ¬ j_76 ≤ 0 := fun q => c_83 ((ni_le rfl (by decide) (by omega) (by omega)).mpr q)
            refine lv_aload_n hx hb dX11_held_32 rfl (lv_at hl 3 rfl) ?_
            refine lv_iload_n hx hb dX11_held_33 rfl (lv_at hl 4 rfl) ?_
            refine lv_iload hx hb dX11_held_34 (lv_at hl 0 rfl) ?_
            refine x_roVi (As := [.int (nI n_7), .int (nI j_76)]) S hK hP hD hZ (fun _ h => h) hA hS hA hl mwX11_viewOf lkX11_333 (ctX11_viewOf l D k z n mthrown mtaped msize mat mfrom mtoken mvalue mfaultKind mfaultPlace (u_2.2.1 0) (u_2.1 0) (u_2.1 1) (u_2.1 2) (u_2.1 3) (u_2.1 4) (u_2.1 5) mroundNow msampleFor msampleAll maskWorst moftenAll moftenView moftenOnes (u_2.2.2.1 1) (u_2.2.2.1 2) (nI n_7) j_76 (by omega) (by omega) (by omega) (by omega) (by omega) (by omega)) [0, 8, 9] rfl (by decide) rfl rfl rfl rfl rfl ⟨Nat.le_of_ble_eq_true rfl, Nat.le_of_ble_eq_true rfl, Nat.le_of_ble_eq_true rfl⟩ dX11_held_36 ⟨Nat.le_of_ble_eq_true rfl, Nat.le_of_ble_eq_true rfl⟩ (fun r_90 H locs hr_90 hP hS => ?_)
            refine lv_aload_n hx hb dX11_held_39 rfl (lv_at hl 3 rfl) ?_
            refine lv_iload_n hx hb dX11_held_40 rfl (lv_at hl 4 rfl) ?_
            refine lv_iload hx hb dX11_held_41 (lv_at hl 0 rfl) ?_
            refine lv_iconst (v := 1) hx hb dX11_held_43 (by decide) ?_
            refine lv_isub hx hb dX11_held_44 ?_
            refine x_is (nI (j_76 - 1)) (ni_sub rfl (by decide) (by omega)) ?_
            refine x_roVi (As := [.int (nI n_7), .int (nI (j_76 - 1))]) S hK hP hD hZ (fun _ h => h) hA hS hA hl mwX11_viewOf lkX11_333 (ctX11_viewOf l D k z n mthrown mtaped msize mat mfrom mtoken mvalue mfaultKind mfaultPlace (u_2.2.1 0) (u_2.1 0) (u_2.1 1) (u_2.1 2) (u_2.1 3) (u_2.1 4) (u_2.1 5) mroundNow msampleFor msampleAll maskWorst moftenAll moftenView moftenOnes (u_2.2.2.1 1) (u_2.2.2.1 2) (nI n_7) (j_76 - 1) (by omega) (by omega) (by omega) (by omega) (by omega) (by omega)) [0, 8, 9] rfl (by decide) rfl rfl rfl rfl rfl ⟨Nat.le_of_ble_eq_true rfl, Nat.le_of_ble_eq_true rfl, Nat.le_of_ble_eq_true rfl⟩ dX11_held_45 ⟨Nat.le_of_ble_eq_true rfl, Nat.le_of_ble_eq_true rfl⟩ (fun r_92 H locs hr_92 hP hS => ?_)
            refine lv_icmp_ne (tgt := 55) hx hb dX11_held_48 (by decide) (fun c_94 => ?_) (fun c_94 => ?_)
            · skip
              refine lv_iconst (v := 0) hx hb dX11_held_55 (by decide) ?_
              refine lv_istore (lv' := [(5, .int 0), (4, .int (nI j_76)), (3, .int x_77), (2, .int x_78), (0, .ref (n 0)), (1, .int (nI n_7))]) hx hb dX11_held_56 hl (by decide) rfl (fun ls hl => ?_)
              refine lv_aload_n hx hb dX11_held_58 rfl (lv_at hl 4 rfl) ?_
              refine lv_iload_n hx hb dX11_held_59 rfl (lv_at hl 5 rfl) ?_
              refine lv_iload hx hb dX11_held_60 (lv_at hl 1 rfl) ?_
              refine x_roVi (As := [.int (nI n_7), .int (nI j_76)]) S hK hP hD hZ (fun _ h => h) hA hS hA hl mwX11_viewOf lkX11_333 (ctX11_viewOf l D k z n mthrown mtaped msize mat mfrom mtoken mvalue mfaultKind mfaultPlace (u_2.2.1 0) (u_2.1 0) (u_2.1 1) (u_2.1 2) (u_2.1 3) (u_2.1 4) (u_2.1 5) mroundNow msampleFor msampleAll maskWorst moftenAll moftenView moftenOnes (u_2.2.2.1 1) (u_2.2.2.1 2) (nI n_7) j_76 (by omega) (by omega) (by omega) (by omega) (by omega) (by omega)) [0, 8, 9] rfl (by decide) rfl rfl rfl rfl rfl ⟨Nat.le_of_ble_eq_true rfl, Nat.le_of_ble_eq_true rfl, Nat.le_of_ble_eq_true rfl⟩ dX11_held_62 ⟨Nat.le_of_ble_eq_true rfl, Nat.le_of_ble_eq_true rfl⟩ (fun r_95 H locs hr_95 hP hS => ?_)
              refine lv_if_ne (tgt := 72) hx hb dX11_held_65 (by decide) (fun c_97 => ?_) (fun c_97 => ?_)
              · skip
                refine lv_iload hx hb dX11_held_72 (lv_at hl 0 rfl) ?_
                refine lv_if_eq (tgt := 83) hx hb dX11_held_74 (by decide) (fun c_98 => ?_) (fun c_98 => absurd (by decide) c_98)
                refine lv_iconst (v := 1) hx hb dX11_held_83 (by decide) ?_
                refine lv_istore_n (lv' := [(3, .int 1), (5, .int 0), (4, .int (nI j_76)), (2, .int x_78), (0, .ref (n 0)), (1, .int (nI n_7))]) hx hb dX11_held_84 rfl hl (by decide) rfl (fun ls hl => ?_)
                refine lv_iload_n hx hb dX11_held_85 rfl (lv_at hl 3 rfl) ?_
                refine lv_iload_n hx hb dX11_held_86 rfl (lv_at hl 0 rfl) ?_
                refine x_mmax S hl lkX11_355 (Nat.le_of_ble_eq_true rfl) (Nat.le_of_ble_eq_true rfl) ⟨Nat.le_of_ble_eq_true rfl, Nat.le_of_ble_eq_true rfl⟩ dX11_held_87 (fun v_99 ev_99 => ?_)
                refine lv_istore_n (lv' := [(2, .int v_99), (3, .int 1), (5, .int 0), (4, .int (nI j_76)), (0, .ref (n 0)), (1, .int (nI n_7))]) hx hb dX11_held_90 rfl hl (by decide) rfl (fun ls hl => ?_)
                refine lv_iinc (v := (nI (j_76 + 1))) (lv' := [(4, .int (nI (j_76 + 1))), (2, .int v_99), (3, .int 1), (5, .int 0), (0, .ref (n 0)), (1, .int (nI n_7))]) hx hb dX11_held_91 hl (k := 3) rfl (ni_inc _) (by decide) rfl (fun ls hl => ?_)
                refine lv_goto (tgt := 18) hx hb dX11_held_94 (by decide) ?_
                exact ihj_76 (j_76 + 1) 1 v_99 _ _ _ (by omega) (by omega) hP hD hS (lv_sub hl [0, 2, 1, 4, 5] rfl)
              · skip
                refine lv_iconst (v := 0) hx hb dX11_held_68 (by decide) ?_
                refine lv_goto (tgt := 84) hx hb dX11_held_69 (by decide) ?_
                refine lv_istore_n (lv' := [(3, .int 0), (5, .int 0), (4, .int (nI j_76)), (2, .int x_78), (0, .ref (n 0)), (1, .int (nI n_7))]) hx hb dX11_held_84 rfl hl (by decide) rfl (fun ls hl => ?_)
                refine lv_iload_n hx hb dX11_held_85 rfl (lv_at hl 3 rfl) ?_
                refine lv_iload_n hx hb dX11_held_86 rfl (lv_at hl 0 rfl) ?_
                refine x_mmax S hl lkX11_355 (Nat.le_of_ble_eq_true rfl) (Nat.le_of_ble_eq_true rfl) ⟨Nat.le_of_ble_eq_true rfl, Nat.le_of_ble_eq_true rfl⟩ dX11_held_87 (fun v_100 ev_100 => ?_)
                refine lv_istore_n (lv' := [(2, .int v_100), (3, .int 0), (5, .int 0), (4, .int (nI j_76)), (0, .ref (n 0)), (1, .int (nI n_7))]) hx hb dX11_held_90 rfl hl (by decide) rfl (fun ls hl => ?_)
                refine lv_iinc (v := (nI (j_76 + 1))) (lv' := [(4, .int (nI (j_76 + 1))), (2, .int v_100), (3, .int 0), (5, .int 0), (0, .ref (n 0)), (1, .int (nI n_7))]) hx hb dX11_held_91 hl (k := 3) rfl (ni_inc _) (by decide) rfl (fun ls hl => ?_)
                refine lv_goto (tgt := 18) hx hb dX11_held_94 (by decide) ?_
                exact ihj_76 (j_76 + 1) 0 v_100 _ _ _ (by omega) (by omega) hP hD hS (lv_sub hl [0, 2, 1, 4, 5] rfl)
            · skip
              refine lv_iconst (v := 1) hx hb dX11_held_51 (by decide) ?_
              refine lv_goto (tgt := 56) hx hb dX11_held_52 (by decide) ?_
              refine lv_istore (lv' := [(5, .int 1), (4, .int (nI j_76)), (3, .int x_77), (2, .int x_78), (0, .ref (n 0)), (1, .int (nI n_7))]) hx hb dX11_held_56 hl (by decide) rfl (fun ls hl => ?_)
              refine lv_aload_n hx hb dX11_held_58 rfl (lv_at hl 4 rfl) ?_
              refine lv_iload_n hx hb dX11_held_59 rfl (lv_at hl 5 rfl) ?_
              refine lv_iload hx hb dX11_held_60 (lv_at hl 1 rfl) ?_
              refine x_roVi (As := [.int (nI n_7), .int (nI j_76)]) S hK hP hD hZ (fun _ h => h) hA hS hA hl mwX11_viewOf lkX11_333 (ctX11_viewOf l D k z n mthrown mtaped msize mat mfrom mtoken mvalue mfaultKind mfaultPlace (u_2.2.1 0) (u_2.1 0) (u_2.1 1) (u_2.1 2) (u_2.1 3) (u_2.1 4) (u_2.1 5) mroundNow msampleFor msampleAll maskWorst moftenAll moftenView moftenOnes (u_2.2.2.1 1) (u_2.2.2.1 2) (nI n_7) j_76 (by omega) (by omega) (by omega) (by omega) (by omega) (by omega)) [0, 8, 9] rfl (by decide) rfl rfl rfl rfl rfl ⟨Nat.le_of_ble_eq_true rfl, Nat.le_of_ble_eq_true rfl, Nat.le_of_ble_eq_true rfl⟩ dX11_held_62 ⟨Nat.le_of_ble_eq_true rfl, Nat.le_of_ble_eq_true rfl⟩ (fun r_101 H locs hr_101 hP hS => ?_)
              refine lv_if_ne (tgt := 72) hx hb dX11_held_65 (by decide) (fun c_103 => ?_) (fun c_103 => ?_)
              · skip
                refine lv_iload hx hb dX11_held_72 (lv_at hl 0 rfl) ?_
                refine lv_if_eq (tgt := 83) hx hb dX11_held_74 (by decide) (fun c_104 => absurd c_104 (by decide)) (fun c_104 => ?_)
                refine lv_iload_n hx hb dX11_held_77 rfl (lv_at hl 2 rfl) ?_
                refine lv_iconst (v := 1) hx hb dX11_held_78 (by decide) ?_
                refine lv_iadd hx hb dX11_held_79 ?_
                refine lv_topi (fun v_105 ev_105 => ?_)
                refine lv_goto (tgt := 84) hx hb dX11_held_80 (by decide) ?_
                refine lv_istore_n (lv' := [(3, .int v_105), (5, .int 1), (4, .int (nI j_76)), (2, .int x_78), (0, .ref (n 0)), (1, .int (nI n_7))]) hx hb dX11_held_84 rfl hl (by decide) rfl (fun ls hl => ?_)
                refine lv_iload_n hx hb dX11_held_85 rfl (lv_at hl 3 rfl) ?_
                refine lv_iload_n hx hb dX11_held_86 rfl (lv_at hl 0 rfl) ?_
                refine x_mmax S hl lkX11_355 (Nat.le_of_ble_eq_true rfl) (Nat.le_of_ble_eq_true rfl) ⟨Nat.le_of_ble_eq_true rfl, Nat.le_of_ble_eq_true rfl⟩ dX11_held_87 (fun v_106 ev_106 => ?_)
                refine lv_istore_n (lv' := [(2, .int v_106), (3, .int v_105), (5, .int 1), (4, .int (nI j_76)), (0, .ref (n 0)), (1, .int (nI n_7))]) hx hb dX11_held_90 rfl hl (by decide) rfl (fun ls hl => ?_)
                refine lv_iinc (v := (nI (j_76 + 1))) (lv' := [(4, .int (nI (j_76 + 1))), (2, .int v_106), (3, .int v_105), (5, .int 1), (0, .ref (n 0)), (1, .int (nI n_7))]) hx hb dX11_held_91 hl (k := 3) rfl (ni_inc _) (by decide) rfl (fun ls hl => ?_)
                refine lv_goto (tgt := 18) hx hb dX11_held_94 (by decide) ?_
                exact ihj_76 (j_76 + 1) v_105 v_106 _ _ _ (by omega) (by omega) hP hD hS (lv_sub hl [0, 2, 1, 4, 5] rfl)
              · skip
                refine lv_iconst (v := 0) hx hb dX11_held_68 (by decide) ?_
                refine lv_goto (tgt := 84) hx hb dX11_held_69 (by decide) ?_
                refine lv_istore_n (lv' := [(3, .int 0), (5, .int 1), (4, .int (nI j_76)), (2, .int x_78), (0, .ref (n 0)), (1, .int (nI n_7))]) hx hb dX11_held_84 rfl hl (by decide) rfl (fun ls hl => ?_)
                refine lv_iload_n hx hb dX11_held_85 rfl (lv_at hl 3 rfl) ?_
                refine lv_iload_n hx hb dX11_held_86 rfl (lv_at hl 0 rfl) ?_
                refine x_mmax S hl lkX11_355 (Nat.le_of_ble_eq_true rfl) (Nat.le_of_ble_eq_true rfl) ⟨Nat.le_of_ble_eq_true rfl, Nat.le_of_ble_eq_true rfl⟩ dX11_held_87 (fun v_107 ev_107 => ?_)
                refine lv_istore_n (lv' := [(2, .int v_107), (3, .int 0), (5, .int 1), (4, .int (nI j_76)), (0, .ref (n 0)), (1, .int (nI n_7))]) hx hb dX11_held_90 rfl hl (by decide) rfl (fun ls hl => ?_)
                refine lv_iinc (v := (nI (j_76 + 1))) (lv' := [(4, .int (nI (j_76 + 1))), (2, .int v_107), (3, .int 0), (5, .int 1), (0, .ref (n 0)), (1, .int (nI n_7))]) hx hb dX11_held_91 hl (k := 3) rfl (ni_inc _) (by decide) rfl (fun ls hl => ?_)
                refine lv_goto (tgt := 18) hx hb dX11_held_94 (by decide) ?_
                exact ihj_76 (j_76 + 1) 0 v_107 _ _ _ (by omega) (by omega) hP hD hS (lv_sub hl [0, 2, 1, 4, 5] rfl)
    exact lp_79 (wn fworld 0 + 1 + 1) 0 0 0 _ _ _ (by omega) (by omega) hP hD hS (lv_sub hl [0, 1, 2, 3, 4] rfl)
  · skip
    refine lv_bipush (v := (-2)) hx hb dX11_held_8 (by decide) ?_
    exact x_reti S hr hlk hQ hS ((fun i => ([(u_2.1 0), (u_2.1 1), (u_2.1 2), (u_2.1 3), (u_2.1 4), (u_2.1 5)] : List (Int32)).getD i 0), (fun i => ([u_2.2.1 0] : List (Nat)).getD i 0), (fun i => ([(u_2.2.2.1 0), (u_2.2.2.1 1), (u_2.2.2.1 2), (u_2.2.2.1 3), (u_2.2.2.1 4), (u_2.2.2.1 5), (u_2.2.2.1 6)] : List (Nat → Int32)).getD i (fun _ => 0)), (fun i => ([] : List (Nat → Int64)).getD i (fun _ => 0)), (fun i => ([] : List (Int64)).getD i 0)) (show u_2.2.1 0 ≤ 14 by omega) (x_B hP hD) dX11_held_10

set_option maxHeartbeats 4000000 in
set_option maxRecDepth 100000 in
theorem ctX11_hush (l : Launch) (D : va_G) (k : Nat → ClassId) (z : Nat → Nat) (n : Nat → Nat) (mthrown : Int32) (mtaped : Nat) (msize : Nat) (mat : Nat) (mfrom : Nat) (mtoken : Int32) (mvalue : Int32) (mfaultKind : Int32) (mfaultPlace : Int32) (mmoreMany : Nat) (mlawNow : Int32) (mwetSet : Int32) (moverAll : Int32) (mones : Int32) (mtwos : Int32) (mgone : Int32) (mroundNow : Int32) (msampleFor : Int64) (msampleAll : Int64) (maskWorst : Int32) (moftenAll : Int64) (moftenView : Int64) (moftenOnes : Int64) (fworld : Nat → Int32) (frowOf : Nat → Int32) (fplaceOf : Nat → Int32) (ffirstOf : Nat → Int32) (fhardNow : Nat → Int32) (fmoreHead : Nat → Int32) (fmoreView : Nat → Int32) (fonesAt : Nat → Int32) (ftwosAt : Nat → Int32) (fgoneAt : Nat → Int32) (p0 : Int32) (hmtaped : mtaped ≤ 600) (hmsize : msize ≤ 600) (hmat : mat ≤ 600) (hmfrom : mfrom ≤ 600) (hmmoreMany : mmoreMany ≤ 14) (hkworld : okW fworld) : MU l yX11_hush cX11_hush 5 (some .int) 9 D k z [.ref (n 0), .int p0] [((n 0), .inr (11, [.int mthrown, .ref (n 1), .ref (n 2), .ref (n 3), .ref (n 4), .int (nI mtaped), .ref (n 5), .int (nI msize), .int (nI mat), .int (nI mfrom), .int mtoken, .int mvalue, .int mfaultKind, .int mfaultPlace, .ref (n 6), .ref (n 7), .ref (n 8), .ref (n 9), .ref (n 10), .ref (n 11), .ref (n 12), .int (nI mmoreMany), .int mlawNow, .int mwetSet, .int moverAll, .ref (n 13), .ref (n 14), .ref (n 15), .int mones, .int mtwos, .int mgone, .ref (n 16), .ref (n 17), .int mroundNow, .ref (n 18), .long msampleFor, .long msampleAll, .ref (n 19), .int maskWorst, .long moftenAll, .long moftenView, .long moftenOnes, .ref (n 20), .ref (n 21), .ref (n 22), .ref (n 23)])), ((n 1), .inl (k 0, 99, .inl fworld)), ((n 7), .inl (k 0, 12, .inl frowOf)), ((n 8), .inl (k 0, 12, .inl fplaceOf)), ((n 9), .inl (k 0, 4, .inl ffirstOf)), ((n 10), .inl (k 0, 12, .inl fhardNow)), ((n 11), .inl (k 0, 14, .inl fmoreHead)), ((n 12), .inl (k 0, 14, .inl fmoreView)), ((n 13), .inl (k 0, 17, .inl fonesAt)), ((n 14), .inl (k 0, 17, .inl ftwosAt)), ((n 15), .inl (k 0, 17, .inl fgoneAt))] 0 0 (Ui D (fun (r : Int32) (u : (Nat → Int32) × (Nat → Nat) × (Nat → Nat → Int32) × (Nat → Nat → Int64) × (Nat → Int64)) => (u.2.1 0 ≤ 14)) (fun u : (Nat → Int32) × (Nat → Nat) × (Nat → Nat → Int32) × (Nat → Nat → Int64) × (Nat → Int64) => [((n 0), .inr (11, [.int mthrown, .ref (n 1), .ref (n 2), .ref (n 3), .ref (n 4), .int (nI mtaped), .ref (n 5), .int (nI msize), .int (nI mat), .int (nI mfrom), .int mtoken, .int mvalue, .int mfaultKind, .int mfaultPlace, .ref (n 6), .ref (n 7), .ref (n 8), .ref (n 9), .ref (n 10), .ref (n 11), .ref (n 12), .int (nI (u.2.1 0)), .int (u.1 0), .int (u.1 1), .int (u.1 2), .ref (n 13), .ref (n 14), .ref (n 15), .int (u.1 3), .int (u.1 4), .int (u.1 5), .ref (n 16), .ref (n 17), .int mroundNow, .ref (n 18), .long msampleFor, .long msampleAll, .ref (n 19), .int maskWorst, .long moftenAll, .long moftenView, .long moftenOnes, .ref (n 20), .ref (n 21), .ref (n 22), .ref (n 23)])), ((n 1), .inl (k 0, 99, .inl fworld)), ((n 7), .inl (k 0, 12, .inl (u.2.2.1 4))), ((n 8), .inl (k 0, 12, .inl (u.2.2.1 5))), ((n 9), .inl (k 0, 4, .inl (u.2.2.1 6))), ((n 10), .inl (k 0, 12, .inl (u.2.2.1 0))), ((n 11), .inl (k 0, 14, .inl fmoreHead)), ((n 12), .inl (k 0, 14, .inl fmoreView)), ((n 13), .inl (k 0, 17, .inl (u.2.2.1 1))), ((n 14), .inl (k 0, 17, .inl (u.2.2.1 2))), ((n 15), .inl (k 0, 17, .inl (u.2.2.1 3)))])) := by
  refine MU.of (by decide) (Nat.le_of_ble_eq_true rfl) ?_
  intro p e s m below meth c ls A args Q S hr hlk hnm hQ hK hP hD hZ hA hS hl
  have hx := S.1
  have hb := S.2.1
  have hl : lv_has ls 5 [(0, .ref (n 0)), (1, .int p0)] := hl
  have hbfworld := okW_bd hkworld
  refine lv_aload_n hx hb dX11_hush_0 rfl (lv_at hl 0 rfl) ?_
  refine lv_iload_n hx hb dX11_hush_1 rfl (lv_at hl 1 rfl) ?_
  refine x_muVi (wr := []) (As := [.int p0]) S hK hP hD hZ hS hA hl mwX11_asksHour lkX11_330 (ctX11_asksHour l D k z n mthrown mtaped msize mat mfrom mtoken mvalue mfaultKind mfaultPlace mmoreMany mlawNow mwetSet moverAll mones mtwos mgone mroundNow msampleFor msampleAll maskWorst moftenAll moftenView moftenOnes fworld frowOf fplaceOf ffirstOf fhardNow fmoreHead fmoreView fonesAt ftwosAt fgoneAt p0 (by omega) (by omega) (by omega) (by omega) (by omega) (hkworld)) [0, 1, 2, 3, 4, 5, 6, 7, 8, 9, 10] [] rfl rfl (by decide) (by decide) (by decide) rfl rfl rfl rfl rfl ⟨Nat.le_of_ble_eq_true rfl, Nat.le_of_ble_eq_true rfl, Nat.le_of_ble_eq_true rfl⟩ dX11_hush_2 ⟨Nat.le_of_ble_eq_true rfl, Nat.le_of_ble_eq_true rfl⟩ (fun r_1 u_2 H locs hr_1 hP hD hS => ?_)
  have hP : va_P D vwCl [((n 0), .inr (11, [.int mthrown, .ref (n 1), .ref (n 2), .ref (n 3), .ref (n 4), .int (nI mtaped), .ref (n 5), .int (nI msize), .int (nI mat), .int (nI mfrom), .int mtoken, .int mvalue, .int mfaultKind, .int mfaultPlace, .ref (n 6), .ref (n 7), .ref (n 8), .ref (n 9), .ref (n 10), .ref (n 11), .ref (n 12), .int (nI (u_2.2.1 0)), .int (u_2.1 0), .int (u_2.1 1), .int (u_2.1 2), .ref (n 13), .ref (n 14), .ref (n 15), .int (u_2.1 3), .int (u_2.1 4), .int (u_2.1 5), .ref (n 16), .ref (n 17), .int mroundNow, .ref (n 18), .long msampleFor, .long msampleAll, .ref (n 19), .int maskWorst, .long moftenAll, .long moftenView, .long moftenOnes, .ref (n 20), .ref (n 21), .ref (n 22), .ref (n 23)])), ((n 1), .inl (k 0, 99, .inl fworld)), ((n 7), .inl (k 0, 12, .inl (u_2.2.2.1 4))), ((n 8), .inl (k 0, 12, .inl (u_2.2.2.1 5))), ((n 9), .inl (k 0, 4, .inl (u_2.2.2.1 6))), ((n 10), .inl (k 0, 12, .inl (u_2.2.2.1 0))), ((n 11), .inl (k 0, 14, .inl fmoreHead)), ((n 12), .inl (k 0, 14, .inl fmoreView)), ((n 13), .inl (k 0, 17, .inl (u_2.2.2.1 1))), ((n 14), .inl (k 0, 17, .inl (u_2.2.2.1 2))), ((n 15), .inl (k 0, 17, .inl (u_2.2.2.1 3)))] H := hP.sub [0, 1, 2, 3, 4, 5, 6, 7, 8, 9, 10] rfl
  have hD : va_D A [((n 0), .inr (11, [.int mthrown, .ref (n 1), .ref (n 2), .ref (n 3), .ref (n 4), .int (nI mtaped), .ref (n 5), .int (nI msize), .int (nI mat), .int (nI mfrom), .int mtoken, .int mvalue, .int mfaultKind, .int mfaultPlace, .ref (n 6), .ref (n 7), .ref (n 8), .ref (n 9), .ref (n 10), .ref (n 11), .ref (n 12), .int (nI (u_2.2.1 0)), .int (u_2.1 0), .int (u_2.1 1), .int (u_2.1 2), .ref (n 13), .ref (n 14), .ref (n 15), .int (u_2.1 3), .int (u_2.1 4), .int (u_2.1 5), .ref (n 16), .ref (n 17), .int mroundNow, .ref (n 18), .long msampleFor, .long msampleAll, .ref (n 19), .int maskWorst, .long moftenAll, .long moftenView, .long moftenOnes, .ref (n 20), .ref (n 21), .ref (n 22), .ref (n 23)])), ((n 1), .inl (k 0, 99, .inl fworld)), ((n 7), .inl (k 0, 12, .inl (u_2.2.2.1 4))), ((n 8), .inl (k 0, 12, .inl (u_2.2.2.1 5))), ((n 9), .inl (k 0, 4, .inl (u_2.2.2.1 6))), ((n 10), .inl (k 0, 12, .inl (u_2.2.2.1 0))), ((n 11), .inl (k 0, 14, .inl fmoreHead)), ((n 12), .inl (k 0, 14, .inl fmoreView)), ((n 13), .inl (k 0, 17, .inl (u_2.2.2.1 1))), ((n 14), .inl (k 0, 17, .inl (u_2.2.2.1 2))), ((n 15), .inl (k 0, 17, .inl (u_2.2.2.1 3)))] := hD.sub [0, 1, 2, 3, 4, 5, 6, 7, 8, 9, 10] (by decide) rfl
  obtain ⟨hp_3, hz_4, hg_5⟩ := hr_1
  refine lv_if_ne (tgt := 11) hx hb dX11_hush_5 (by decide) (fun c_6 => ?_) (fun c_6 => ?_)
  · skip
    obtain ⟨n_7, rfl, hn_7⟩ := hp_3.resolve_left c_6
    refine lv_aload_n hx hb dX11_hush_11 rfl (lv_at hl 0 rfl) ?_
    refine x_get S hK hP 0 rfl cfX11 25 lkX11_52 (by decide) rfl dX11_hush_12 ?_
    refine lv_iload_n hx hb dX11_hush_15 rfl (lv_at hl 1 rfl) ?_
    refine x_iald S hK hP 8 rfl (vp_in_nI (by omega) (by decide)) dX11_hush_16 ?_
    refine lv_topi (fun v_8 ev_8 => ?_)
    refine lv_aload_n hx hb dX11_hush_17 rfl (lv_at hl 0 rfl) ?_
    refine x_get S hK hP 0 rfl cfX11 26 lkX11_55 (by decide) rfl dX11_hush_18 ?_
    refine lv_iload_n hx hb dX11_hush_21 rfl (lv_at hl 1 rfl) ?_
    refine x_iald S hK hP 9 rfl (vp_in_nI (by omega) (by decide)) dX11_hush_22 ?_
    refine lv_topi (fun v_9 ev_9 => ?_)
    refine lv_ior hx hb dX11_hush_23 ?_
    refine lv_topi (fun v_10 ev_10 => ?_)
    refine lv_istore_n (lv' := [(2, .int v_10), (0, .ref (n 0)), (1, .int (nI n_7))]) hx hb dX11_hush_24 rfl hl (by decide) rfl (fun ls hl => ?_)
    refine lv_iconst (v := 0) hx hb dX11_hush_25 (by decide) ?_
    refine lv_istore_n (lv' := [(3, .int 0), (2, .int v_10), (0, .ref (n 0)), (1, .int (nI n_7))]) hx hb dX11_hush_26 rfl hl (by decide) rfl (fun ls hl => ?_)
    refine lv_iconst (v := 0) hx hb dX11_hush_27 (by decide) ?_
    refine lv_istore (lv' := [(4, .int 0), (3, .int 0), (2, .int v_10), (0, .ref (n 0)), (1, .int (nI n_7))]) hx hb dX11_hush_28 hl (by decide) rfl (fun ls hl => ?_)
    have lp_48 : ∀ (nn j_46 : Nat) (x_47 : Int32) (H : Heap) (locs : List Loc) (ls : Array Slot), j_46 ≤ wn fworld 4 → wn fworld 4 - j_46 < nn → va_P D vwCl [((n 0), .inr (11, [.int mthrown, .ref (n 1), .ref (n 2), .ref (n 3), .ref (n 4), .int (nI mtaped), .ref (n 5), .int (nI msize), .int (nI mat), .int (nI mfrom), .int mtoken, .int mvalue, .int mfaultKind, .int mfaultPlace, .ref (n 6), .ref (n 7), .ref (n 8), .ref (n 9), .ref (n 10), .ref (n 11), .ref (n 12), .int (nI (u_2.2.1 0)), .int (u_2.1 0), .int (u_2.1 1), .int (u_2.1 2), .ref (n 13), .ref (n 14), .ref (n 15), .int (u_2.1 3), .int (u_2.1 4), .int (u_2.1 5), .ref (n 16), .ref (n 17), .int mroundNow, .ref (n 18), .long msampleFor, .long msampleAll, .ref (n 19), .int maskWorst, .long moftenAll, .long moftenView, .long moftenOnes, .ref (n 20), .ref (n 21), .ref (n 22), .ref (n 23)])), ((n 1), .inl (k 0, 99, .inl fworld)), ((n 7), .inl (k 0, 12, .inl (u_2.2.2.1 4))), ((n 8), .inl (k 0, 12, .inl (u_2.2.2.1 5))), ((n 9), .inl (k 0, 4, .inl (u_2.2.2.1 6))), ((n 10), .inl (k 0, 12, .inl (u_2.2.2.1 0))), ((n 11), .inl (k 0, 14, .inl fmoreHead)), ((n 12), .inl (k 0, 14, .inl fmoreView)), ((n 13), .inl (k 0, 17, .inl (u_2.2.2.1 1))), ((n 14), .inl (k 0, 17, .inl (u_2.2.2.1 2))), ((n 15), .inl (k 0, 17, .inl (u_2.2.2.1 3)))] H → va_D A [((n 0), .inr (11, [.int mthrown, .ref (n 1), .ref (n 2), .ref (n 3), .ref (n 4), .int (nI mtaped), .ref (n 5), .int (nI msize), .int (nI mat), .int (nI mfrom), .int mtoken, .int mvalue, .int mfaultKind, .int mfaultPlace, .ref (n 6), .ref (n 7), .ref (n 8), .ref (n 9), .ref (n 10), .ref (n 11), .ref (n 12), .int (nI (u_2.2.1 0)), .int (u_2.1 0), .int (u_2.1 1), .int (u_2.1 2), .ref (n 13), .ref (n 14), .ref (n 15), .int (u_2.1 3), .int (u_2.1 4), .int (u_2.1 5), .ref (n 16), .ref (n 17), .int mroundNow, .ref (n 18), .long msampleFor, .long msampleAll, .ref (n 19), .int maskWorst, .long moftenAll, .long moftenView, .long moftenOnes, .ref (n 20), .ref (n 21), .ref (n 22), .ref (n 23)])), ((n 1), .inl (k 0, 99, .inl fworld)), ((n 7), .inl (k 0, 12, .inl (u_2.2.2.1 4))), ((n 8), .inl (k 0, 12, .inl (u_2.2.2.1 5))), ((n 9), .inl (k 0, 4, .inl (u_2.2.2.1 6))), ((n 10), .inl (k 0, 12, .inl (u_2.2.2.1 0))), ((n 11), .inl (k 0, 14, .inl fmoreHead)), ((n 12), .inl (k 0, 14, .inl fmoreView)), ((n 13), .inl (k 0, 17, .inl (u_2.2.2.1 1))), ((n 14), .inl (k 0, 17, .inl (u_2.2.2.1 2))), ((n 15), .inl (k 0, 17, .inl (u_2.2.2.1 3)))] → va_S A s.heap H locs → lv_has ls 5 [(4, .int (nI j_46)), (3, .int x_47), (2, .int v_10), (0, .ref (n 0)), (1, .int (nI n_7))] → W p l e (Rm 9 0 0) s m args below meth c H locs 0 0 Q (F0 m 30 ls []) := by
      intro nn
      induction nn with
      | zero => intro j_46 x_47 H locs ls hjj_46 hnj_46; exact absurd hnj_46 (by omega)
      | succ nn ihj_46 =>
        intro j_46 x_47 H locs ls hjj_46 hnj_46 hP hD hS hl
        refine lv_iload hx hb dX11_hush_30 (lv_at hl 0 rfl) ?_
        refine lv_aload_n hx hb dX11_hush_32 rfl (lv_at hl 3 rfl) ?_
        refine x_roVi (As := []) S hK hP hD hZ (fun _ h => h) hA hS hA hl mwX11_headMany lkX11_95 (ctX11_headMany l D k z n mthrown mtaped msize mat mfrom mtoken mvalue mfaultKind mfaultPlace (u_2.2.1 0) (u_2.1 0) (u_2.1 1) (u_2.1 2) (u_2.1 3) (u_2.1 4) (u_2.1 5) mroundNow msampleFor msampleAll maskWorst moftenAll moftenView moftenOnes fworld (by omega) (by omega) (by omega) (by omega) (by omega) (hkworld)) [0, 1] rfl (by decide) rfl rfl rfl rfl rfl ⟨Nat.le_of_ble_eq_true rfl, Nat.le_of_ble_eq_true rfl, Nat.le_of_ble_eq_true rfl⟩ dX11_hush_33 ⟨Nat.le_of_ble_eq_true rfl, Nat.le_of_ble_eq_true rfl⟩ (fun r_49 H locs hr_49 hP hS => ?_)
        obtain rfl := hr_49
        refine lv_icmp_ge (tgt := 79) hx hb dX11_hush_36 (by decide) (fun c_51 => ?_) (fun c_51 => ?_)
        · skip
          have c_51 : wn fworld 4 ≤ j_46 := (ni_le rfl rfl (by omega) (by omega)).mp c_51
          refine lv_iload_n hx hb dX11_hush_79 rfl (lv_at hl 1 rfl) ?_
          refine lv_aload_n hx hb dX11_hush_80 rfl (lv_at hl 3 rfl) ?_
          refine lv_iload_n hx hb dX11_hush_81 rfl (lv_at hl 4 rfl) ?_
          refine x_roVi (As := [.int (nI n_7)]) S hK hP hD hZ (fun _ h => h) hA hS hA hl mwX11_stillThere lkX11_324 (ctX11_stillThere l D k z n mthrown mtaped msize mat mfrom mtoken mvalue mfaultKind mfaultPlace (u_2.2.1 0) (u_2.1 0) (u_2.1 1) (u_2.1 2) (u_2.1 3) (u_2.1 4) (u_2.1 5) mroundNow msampleFor msampleAll maskWorst moftenAll moftenView moftenOnes fworld (u_2.2.2.1 3) n_7 (by omega) (by omega) (by omega) (by omega) (by omega) (hkworld) (by omega)) [0, 1, 10] rfl (by decide) rfl rfl rfl rfl rfl ⟨Nat.le_of_ble_eq_true rfl, Nat.le_of_ble_eq_true rfl, Nat.le_of_ble_eq_true rfl⟩ dX11_hush_82 ⟨Nat.le_of_ble_eq_true rfl, Nat.le_of_ble_eq_true rfl⟩ (fun r_52 H locs hr_52 hP hS => ?_)
          obtain rfl := hr_52
          refine lv_iand hx hb dX11_hush_85 ?_
          refine lv_topi (fun v_54 ev_54 => ?_)
          exact x_reti S hr hlk hQ hS ((fun i => ([(u_2.1 0), (u_2.1 1), (u_2.1 2), (u_2.1 3), (u_2.1 4), (u_2.1 5)] : List (Int32)).getD i 0), (fun i => ([u_2.2.1 0] : List (Nat)).getD i 0), (fun i => ([(u_2.2.2.1 0), (u_2.2.2.1 1), (u_2.2.2.1 2), (u_2.2.2.1 3), (u_2.2.2.1 4), (u_2.2.2.1 5), (u_2.2.2.1 6)] : List (Nat → Int32)).getD i (fun _ => 0)), (fun i => ([] : List (Nat → Int64)).getD i (fun _ => 0)), (fun i => ([] : List (Int64)).getD i 0)) (show u_2.2.1 0 ≤ 14 by omega) (x_B hP hD) dX11_hush_86
        · skip
          have c_51 : ¬ wn fworld 4 ≤ j_46 := fun q => c_51 ((ni_le rfl rfl (by omega) (by omega)).mpr q)
          refine lv_iload_n hx hb dX11_hush_39 rfl (lv_at hl 1 rfl) ?_
          refine lv_iload_n hx hb dX11_hush_40 rfl (lv_at hl 2 rfl) ?_
          refine lv_iconst (v := 1) hx hb dX11_hush_41 (by decide) ?_
          refine lv_iload hx hb dX11_hush_42 (lv_at hl 0 rfl) ?_
          refine lv_ishl hx hb dX11_hush_44 ?_
          refine lv_topi (fun v_55 ev_55 => ?_)
          refine lv_aload_n hx hb dX11_hush_45 rfl (lv_at hl 3 rfl) ?_
          refine lv_iload hx hb dX11_hush_46 (lv_at hl 0 rfl) ?_
          refine x_roVi (As := [.int (nI j_46)]) S hK hP hD hZ (fun _ h => h) hA hS hA hl mwX11_besides lkX11_252 (ctX11_besides l D k z n mthrown mtaped msize mat mfrom mtoken mvalue mfaultKind mfaultPlace (u_2.2.1 0) (u_2.1 0) (u_2.1 1) (u_2.1 2) (u_2.1 3) (u_2.1 4) (u_2.1 5) mroundNow msampleFor msampleAll maskWorst moftenAll moftenView moftenOnes fworld (u_2.2.2.1 4) (u_2.2.2.1 5) (u_2.2.2.1 6) j_46 (by omega) (by omega) (by omega) (by omega) (by omega) (hkworld) (by omega)) [0, 1, 2, 3, 4] rfl (by decide) rfl rfl rfl rfl rfl ⟨Nat.le_of_ble_eq_true rfl, Nat.le_of_ble_eq_true rfl, Nat.le_of_ble_eq_true rfl⟩ dX11_hush_48 ⟨Nat.le_of_ble_eq_true rfl, Nat.le_of_ble_eq_true rfl⟩ (fun r_56 H locs hr_56 hP hS => ?_)
          refine lv_ior hx hb dX11_hush_51 ?_
          refine lv_topi (fun v_58 ev_58 => ?_)
          refine lv_aload_n hx hb dX11_hush_52 rfl (lv_at hl 3 rfl) ?_
          refine lv_iload hx hb dX11_hush_53 (lv_at hl 0 rfl) ?_
          refine x_roVi (As := [.int (nI j_46)]) S hK hP hD hZ (fun _ h => h) hA hS hA hl mwX11_across lkX11_255 (ctX11_across l D k z n mthrown mtaped msize mat mfrom mtoken mvalue mfaultKind mfaultPlace (u_2.2.1 0) (u_2.1 0) (u_2.1 1) (u_2.1 2) (u_2.1 3) (u_2.1 4) (u_2.1 5) mroundNow msampleFor msampleAll maskWorst moftenAll moftenView moftenOnes fworld (u_2.2.2.1 4) (u_2.2.2.1 5) (u_2.2.2.1 6) j_46 (by omega) (by omega) (by omega) (by omega) (by omega) (hkworld) (by omega)) [0, 1, 2, 3, 4] rfl (by decide) rfl rfl rfl rfl rfl ⟨Nat.le_of_ble_eq_true rfl, Nat.le_of_ble_eq_true rfl, Nat.le_of_ble_eq_true rfl⟩ dX11_hush_55 ⟨Nat.le_of_ble_eq_true rfl, Nat.le_of_ble_eq_true rfl⟩ (fun r_59 H locs hr_59 hP hS => ?_)
          refine lv_ior hx hb dX11_hush_58 ?_
          refine lv_topi (fun v_61 ev_61 => ?_)
          refine lv_iand hx hb dX11_hush_59 ?_
          refine lv_topi (fun v_62 ev_62 => ?_)
          refine lv_if_ne (tgt := 70) hx hb dX11_hush_60 (by decide) (fun c_63 => ?_) (fun c_63 => ?_)
          · skip
            refine lv_iconst (v := 0) hx hb dX11_hush_70 (by decide) ?_
            refine lv_ior hx hb dX11_hush_71 ?_
            refine lv_topi (fun v_64 ev_64 => ?_)
            refine lv_istore_n (lv' := [(3, .int v_64), (4, .int (nI j_46)), (2, .int v_10), (0, .ref (n 0)), (1, .int (nI n_7))]) hx hb dX11_hush_72 rfl hl (by decide) rfl (fun ls hl => ?_)
            refine lv_iinc (v := (nI (j_46 + 1))) (lv' := [(4, .int (nI (j_46 + 1))), (3, .int v_64), (2, .int v_10), (0, .ref (n 0)), (1, .int (nI n_7))]) hx hb dX11_hush_73 hl (k := 1) rfl (ni_inc _) (by decide) rfl (fun ls hl => ?_)
            refine lv_goto (tgt := 30) hx hb dX11_hush_76 (by decide) ?_
            exact ihj_46 (j_46 + 1) v_64 _ _ _ (by omega) (by omega) hP hD hS (lv_sub hl [0, 1, 2, 3, 4] rfl)
          · skip
            refine lv_iconst (v := 1) hx hb dX11_hush_63 (by decide) ?_
            refine lv_iload hx hb dX11_hush_64 (lv_at hl 0 rfl) ?_
            refine lv_ishl hx hb dX11_hush_66 ?_
            refine lv_topi (fun v_65 ev_65 => ?_)
            refine lv_goto (tgt := 71) hx hb dX11_hush_67 (by decide) ?_
            refine lv_ior hx hb dX11_hush_71 ?_
            refine lv_topi (fun v_66 ev_66 => ?_)
            refine lv_istore_n (lv' := [(3, .int v_66), (4, .int (nI j_46)), (2, .int v_10), (0, .ref (n 0)), (1, .int (nI n_7))]) hx hb dX11_hush_72 rfl hl (by decide) rfl (fun ls hl => ?_)
            refine lv_iinc (v := (nI (j_46 + 1))) (lv' := [(4, .int (nI (j_46 + 1))), (3, .int v_66), (2, .int v_10), (0, .ref (n 0)), (1, .int (nI n_7))]) hx hb dX11_hush_73 hl (k := 1) rfl (ni_inc _) (by decide) rfl (fun ls hl => ?_)
            refine lv_goto (tgt := 30) hx hb dX11_hush_76 (by decide) ?_
            exact ihj_46 (j_46 + 1) v_66 _ _ _ (by omega) (by omega) hP hD hS (lv_sub hl [0, 1, 2, 3, 4] rfl)
    exact lp_48 (wn fworld 4 + 1) 0 0 _ _ _ (by omega) (by omega) hP hD hS (lv_sub hl [0, 1, 2, 3, 4] rfl)
  · skip
    refine lv_bipush (v := (-2)) hx hb dX11_hush_8 (by decide) ?_
    exact x_reti S hr hlk hQ hS ((fun i => ([(u_2.1 0), (u_2.1 1), (u_2.1 2), (u_2.1 3), (u_2.1 4), (u_2.1 5)] : List (Int32)).getD i 0), (fun i => ([u_2.2.1 0] : List (Nat)).getD i 0), (fun i => ([(u_2.2.2.1 0), (u_2.2.2.1 1), (u_2.2.2.1 2), (u_2.2.2.1 3), (u_2.2.2.1 4), (u_2.2.2.1 5), (u_2.2.2.1 6)] : List (Nat → Int32)).getD i (fun _ => 0)), (fun i => ([] : List (Nat → Int64)).getD i (fun _ => 0)), (fun i => ([] : List (Int64)).getD i 0)) (show u_2.2.1 0 ≤ 14 by omega) (x_B hP hD) dX11_hush_10

set_option maxHeartbeats 4000000 in
set_option maxRecDepth 100000 in
theorem ctX11_lonely (l : Launch) (D : va_G) (k : Nat → ClassId) (z : Nat → Nat) (n : Nat → Nat) (mthrown : Int32) (mtaped : Nat) (msize : Nat) (mat : Nat) (mfrom : Nat) (mtoken : Int32) (mvalue : Int32) (mfaultKind : Int32) (mfaultPlace : Int32) (mmoreMany : Nat) (mlawNow : Int32) (mwetSet : Int32) (moverAll : Int32) (mones : Int32) (mtwos : Int32) (mgone : Int32) (mroundNow : Int32) (msampleFor : Int64) (msampleAll : Int64) (maskWorst : Int32) (moftenAll : Int64) (moftenView : Int64) (moftenOnes : Int64) (fworld : Nat → Int32) (frowOf : Nat → Int32) (fplaceOf : Nat → Int32) (ffirstOf : Nat → Int32) (fhardNow : Nat → Int32) (fmoreHead : Nat → Int32) (fmoreView : Nat → Int32) (fonesAt : Nat → Int32) (ftwosAt : Nat → Int32) (fgoneAt : Nat → Int32) (p0 : Int32) (hmtaped : mtaped ≤ 600) (hmsize : msize ≤ 600) (hmat : mat ≤ 600) (hmfrom : mfrom ≤ 600) (hmmoreMany : mmoreMany ≤ 14) (hkworld : okW fworld) : MU l yX11_lonely cX11_lonely 5 (some .int) 9 D k z [.ref (n 0), .int p0] [((n 0), .inr (11, [.int mthrown, .ref (n 1), .ref (n 2), .ref (n 3), .ref (n 4), .int (nI mtaped), .ref (n 5), .int (nI msize), .int (nI mat), .int (nI mfrom), .int mtoken, .int mvalue, .int mfaultKind, .int mfaultPlace, .ref (n 6), .ref (n 7), .ref (n 8), .ref (n 9), .ref (n 10), .ref (n 11), .ref (n 12), .int (nI mmoreMany), .int mlawNow, .int mwetSet, .int moverAll, .ref (n 13), .ref (n 14), .ref (n 15), .int mones, .int mtwos, .int mgone, .ref (n 16), .ref (n 17), .int mroundNow, .ref (n 18), .long msampleFor, .long msampleAll, .ref (n 19), .int maskWorst, .long moftenAll, .long moftenView, .long moftenOnes, .ref (n 20), .ref (n 21), .ref (n 22), .ref (n 23)])), ((n 1), .inl (k 0, 99, .inl fworld)), ((n 7), .inl (k 0, 12, .inl frowOf)), ((n 8), .inl (k 0, 12, .inl fplaceOf)), ((n 9), .inl (k 0, 4, .inl ffirstOf)), ((n 10), .inl (k 0, 12, .inl fhardNow)), ((n 11), .inl (k 0, 14, .inl fmoreHead)), ((n 12), .inl (k 0, 14, .inl fmoreView)), ((n 13), .inl (k 0, 17, .inl fonesAt)), ((n 14), .inl (k 0, 17, .inl ftwosAt)), ((n 15), .inl (k 0, 17, .inl fgoneAt))] 0 0 (Ui D (fun (r : Int32) (u : (Nat → Int32) × (Nat → Nat) × (Nat → Nat → Int32) × (Nat → Nat → Int64) × (Nat → Int64)) => (u.2.1 0 ≤ 14)) (fun u : (Nat → Int32) × (Nat → Nat) × (Nat → Nat → Int32) × (Nat → Nat → Int64) × (Nat → Int64) => [((n 0), .inr (11, [.int mthrown, .ref (n 1), .ref (n 2), .ref (n 3), .ref (n 4), .int (nI mtaped), .ref (n 5), .int (nI msize), .int (nI mat), .int (nI mfrom), .int mtoken, .int mvalue, .int mfaultKind, .int mfaultPlace, .ref (n 6), .ref (n 7), .ref (n 8), .ref (n 9), .ref (n 10), .ref (n 11), .ref (n 12), .int (nI (u.2.1 0)), .int (u.1 0), .int (u.1 1), .int (u.1 2), .ref (n 13), .ref (n 14), .ref (n 15), .int (u.1 3), .int (u.1 4), .int (u.1 5), .ref (n 16), .ref (n 17), .int mroundNow, .ref (n 18), .long msampleFor, .long msampleAll, .ref (n 19), .int maskWorst, .long moftenAll, .long moftenView, .long moftenOnes, .ref (n 20), .ref (n 21), .ref (n 22), .ref (n 23)])), ((n 1), .inl (k 0, 99, .inl fworld)), ((n 7), .inl (k 0, 12, .inl (u.2.2.1 4))), ((n 8), .inl (k 0, 12, .inl (u.2.2.1 5))), ((n 9), .inl (k 0, 4, .inl (u.2.2.1 6))), ((n 10), .inl (k 0, 12, .inl (u.2.2.1 0))), ((n 11), .inl (k 0, 14, .inl fmoreHead)), ((n 12), .inl (k 0, 14, .inl fmoreView)), ((n 13), .inl (k 0, 17, .inl (u.2.2.1 1))), ((n 14), .inl (k 0, 17, .inl (u.2.2.1 2))), ((n 15), .inl (k 0, 17, .inl (u.2.2.1 3)))])) := by
  refine MU.of (by decide) (Nat.le_of_ble_eq_true rfl) ?_
  intro p e s m below meth c ls A args Q S hr hlk hnm hQ hK hP hD hZ hA hS hl
  have hx := S.1
  have hb := S.2.1
  have hl : lv_has ls 5 [(0, .ref (n 0)), (1, .int p0)] := hl
  have hbfworld := okW_bd hkworld
  refine lv_aload_n hx hb dX11_lonely_0 rfl (lv_at hl 0 rfl) ?_
  refine lv_iload_n hx hb dX11_lonely_1 rfl (lv_at hl 1 rfl) ?_
  refine x_muVi (wr := []) (As := [.int p0]) S hK hP hD hZ hS hA hl mwX11_asksHour lkX11_330 (ctX11_asksHour l D k z n mthrown mtaped msize mat mfrom mtoken mvalue mfaultKind mfaultPlace mmoreMany mlawNow mwetSet moverAll mones mtwos mgone mroundNow msampleFor msampleAll maskWorst moftenAll moftenView moftenOnes fworld frowOf fplaceOf ffirstOf fhardNow fmoreHead fmoreView fonesAt ftwosAt fgoneAt p0 (by omega) (by omega) (by omega) (by omega) (by omega) (hkworld)) [0, 1, 2, 3, 4, 5, 6, 7, 8, 9, 10] [] rfl rfl (by decide) (by decide) (by decide) rfl rfl rfl rfl rfl ⟨Nat.le_of_ble_eq_true rfl, Nat.le_of_ble_eq_true rfl, Nat.le_of_ble_eq_true rfl⟩ dX11_lonely_2 ⟨Nat.le_of_ble_eq_true rfl, Nat.le_of_ble_eq_true rfl⟩ (fun r_1 u_2 H locs hr_1 hP hD hS => ?_)
  have hP : va_P D vwCl [((n 0), .inr (11, [.int mthrown, .ref (n 1), .ref (n 2), .ref (n 3), .ref (n 4), .int (nI mtaped), .ref (n 5), .int (nI msize), .int (nI mat), .int (nI mfrom), .int mtoken, .int mvalue, .int mfaultKind, .int mfaultPlace, .ref (n 6), .ref (n 7), .ref (n 8), .ref (n 9), .ref (n 10), .ref (n 11), .ref (n 12), .int (nI (u_2.2.1 0)), .int (u_2.1 0), .int (u_2.1 1), .int (u_2.1 2), .ref (n 13), .ref (n 14), .ref (n 15), .int (u_2.1 3), .int (u_2.1 4), .int (u_2.1 5), .ref (n 16), .ref (n 17), .int mroundNow, .ref (n 18), .long msampleFor, .long msampleAll, .ref (n 19), .int maskWorst, .long moftenAll, .long moftenView, .long moftenOnes, .ref (n 20), .ref (n 21), .ref (n 22), .ref (n 23)])), ((n 1), .inl (k 0, 99, .inl fworld)), ((n 7), .inl (k 0, 12, .inl (u_2.2.2.1 4))), ((n 8), .inl (k 0, 12, .inl (u_2.2.2.1 5))), ((n 9), .inl (k 0, 4, .inl (u_2.2.2.1 6))), ((n 10), .inl (k 0, 12, .inl (u_2.2.2.1 0))), ((n 11), .inl (k 0, 14, .inl fmoreHead)), ((n 12), .inl (k 0, 14, .inl fmoreView)), ((n 13), .inl (k 0, 17, .inl (u_2.2.2.1 1))), ((n 14), .inl (k 0, 17, .inl (u_2.2.2.1 2))), ((n 15), .inl (k 0, 17, .inl (u_2.2.2.1 3)))] H := hP.sub [0, 1, 2, 3, 4, 5, 6, 7, 8, 9, 10] rfl
  have hD : va_D A [((n 0), .inr (11, [.int mthrown, .ref (n 1), .ref (n 2), .ref (n 3), .ref (n 4), .int (nI mtaped), .ref (n 5), .int (nI msize), .int (nI mat), .int (nI mfrom), .int mtoken, .int mvalue, .int mfaultKind, .int mfaultPlace, .ref (n 6), .ref (n 7), .ref (n 8), .ref (n 9), .ref (n 10), .ref (n 11), .ref (n 12), .int (nI (u_2.2.1 0)), .int (u_2.1 0), .int (u_2.1 1), .int (u_2.1 2), .ref (n 13), .ref (n 14), .ref (n 15), .int (u_2.1 3), .int (u_2.1 4), .int (u_2.1 5), .ref (n 16), .ref (n 17), .int mroundNow, .ref (n 18), .long msampleFor, .long msampleAll, .ref (n 19), .int maskWorst, .long moftenAll, .long moftenView, .long moftenOnes, .ref (n 20), .ref (n 21), .ref (n 22), .ref (n 23)])), ((n 1), .inl (k 0, 99, .inl fworld)), ((n 7), .inl (k 0, 12, .inl (u_2.2.2.1 4))), ((n 8), .inl (k 0, 12, .inl (u_2.2.2.1 5))), ((n 9), .inl (k 0, 4, .inl (u_2.2.2.1 6))), ((n 10), .inl (k 0, 12, .inl (u_2.2.2.1 0))), ((n 11), .inl (k 0, 14, .inl fmoreHead)), ((n 12), .inl (k 0, 14, .inl fmoreView)), ((n 13), .inl (k 0, 17, .inl (u_2.2.2.1 1))), ((n 14), .inl (k 0, 17, .inl (u_2.2.2.1 2))), ((n 15), .inl (k 0, 17, .inl (u_2.2.2.1 3)))] := hD.sub [0, 1, 2, 3, 4, 5, 6, 7, 8, 9, 10] (by decide) rfl
  obtain ⟨hp_3, hz_4, hg_5⟩ := hr_1
  refine lv_if_ne (tgt := 11) hx hb dX11_lonely_5 (by decide) (fun c_6 => ?_) (fun c_6 => ?_)
  · skip
    obtain ⟨n_7, rfl, hn_7⟩ := hp_3.resolve_left c_6
    refine lv_iconst (v := 0) hx hb dX11_lonely_11 (by decide) ?_
    refine lv_istore_n (lv' := [(2, .int 0), (0, .ref (n 0)), (1, .int (nI n_7))]) hx hb dX11_lonely_12 rfl hl (by decide) rfl (fun ls hl => ?_)
    refine lv_iconst (v := 0) hx hb dX11_lonely_13 (by decide) ?_
    refine lv_istore_n (lv' := [(3, .int 0), (2, .int 0), (0, .ref (n 0)), (1, .int (nI n_7))]) hx hb dX11_lonely_14 rfl hl (by decide) rfl (fun ls hl => ?_)
    have lp_84 : ∀ (nn j_82 : Nat) (x_83 : Int32) (H : Heap) (locs : List Loc) (ls : Array Slot), j_82 ≤ wn fworld 4 → wn fworld 4 - j_82 < nn → va_P D vwCl [((n 0), .inr (11, [.int mthrown, .ref (n 1), .ref (n 2), .ref (n 3), .ref (n 4), .int (nI mtaped), .ref (n 5), .int (nI msize), .int (nI mat), .int (nI mfrom), .int mtoken, .int mvalue, .int mfaultKind, .int mfaultPlace, .ref (n 6), .ref (n 7), .ref (n 8), .ref (n 9), .ref (n 10), .ref (n 11), .ref (n 12), .int (nI (u_2.2.1 0)), .int (u_2.1 0), .int (u_2.1 1), .int (u_2.1 2), .ref (n 13), .ref (n 14), .ref (n 15), .int (u_2.1 3), .int (u_2.1 4), .int (u_2.1 5), .ref (n 16), .ref (n 17), .int mroundNow, .ref (n 18), .long msampleFor, .long msampleAll, .ref (n 19), .int maskWorst, .long moftenAll, .long moftenView, .long moftenOnes, .ref (n 20), .ref (n 21), .ref (n 22), .ref (n 23)])), ((n 1), .inl (k 0, 99, .inl fworld)), ((n 7), .inl (k 0, 12, .inl (u_2.2.2.1 4))), ((n 8), .inl (k 0, 12, .inl (u_2.2.2.1 5))), ((n 9), .inl (k 0, 4, .inl (u_2.2.2.1 6))), ((n 10), .inl (k 0, 12, .inl (u_2.2.2.1 0))), ((n 11), .inl (k 0, 14, .inl fmoreHead)), ((n 12), .inl (k 0, 14, .inl fmoreView)), ((n 13), .inl (k 0, 17, .inl (u_2.2.2.1 1))), ((n 14), .inl (k 0, 17, .inl (u_2.2.2.1 2))), ((n 15), .inl (k 0, 17, .inl (u_2.2.2.1 3)))] H → va_D A [((n 0), .inr (11, [.int mthrown, .ref (n 1), .ref (n 2), .ref (n 3), .ref (n 4), .int (nI mtaped), .ref (n 5), .int (nI msize), .int (nI mat), .int (nI mfrom), .int mtoken, .int mvalue, .int mfaultKind, .int mfaultPlace, .ref (n 6), .ref (n 7), .ref (n 8), .ref (n 9), .ref (n 10), .ref (n 11), .ref (n 12), .int (nI (u_2.2.1 0)), .int (u_2.1 0), .int (u_2.1 1), .int (u_2.1 2), .ref (n 13), .ref (n 14), .ref (n 15), .int (u_2.1 3), .int (u_2.1 4), .int (u_2.1 5), .ref (n 16), .ref (n 17), .int mroundNow, .ref (n 18), .long msampleFor, .long msampleAll, .ref (n 19), .int maskWorst, .long moftenAll, .long moftenView, .long moftenOnes, .ref (n 20), .ref (n 21), .ref (n 22), .ref (n 23)])), ((n 1), .inl (k 0, 99, .inl fworld)), ((n 7), .inl (k 0, 12, .inl (u_2.2.2.1 4))), ((n 8), .inl (k 0, 12, .inl (u_2.2.2.1 5))), ((n 9), .inl (k 0, 4, .inl (u_2.2.2.1 6))), ((n 10), .inl (k 0, 12, .inl (u_2.2.2.1 0))), ((n 11), .inl (k 0, 14, .inl fmoreHead)), ((n 12), .inl (k 0, 14, .inl fmoreView)), ((n 13), .inl (k 0, 17, .inl (u_2.2.2.1 1))), ((n 14), .inl (k 0, 17, .inl (u_2.2.2.1 2))), ((n 15), .inl (k 0, 17, .inl (u_2.2.2.1 3)))] → va_S A s.heap H locs → lv_has ls 5 [(3, .int (nI j_82)), (2, .int x_83), (0, .ref (n 0)), (1, .int (nI n_7))] → W p l e (Rm 9 0 0) s m args below meth c H locs 0 0 Q (F0 m 15 ls []) := by
      intro nn
      induction nn with
      | zero => intro j_82 x_83 H locs ls hjj_82 hnj_82; exact absurd hnj_82 (by omega)
      | succ nn ihj_82 =>
        intro j_82 x_83 H locs ls hjj_82 hnj_82 hP hD hS hl
        refine lv_iload_n hx hb dX11_lonely_15 rfl (lv_at hl 0 rfl) ?_
        refine lv_aload_n hx hb dX11_lonely_16 rfl (lv_at hl 2 rfl) ?_
        refine x_roVi (As := []) S hK hP hD hZ (fun _ h => h) hA hS hA hl mwX11_headMany lkX11_95 (ctX11_headMany l D k z n mthrown mtaped msize mat mfrom mtoken mvalue mfaultKind mfaultPlace (u_2.2.1 0) (u_2.1 0) (u_2.1 1) (u_2.1 2) (u_2.1 3) (u_2.1 4) (u_2.1 5) mroundNow msampleFor msampleAll maskWorst moftenAll moftenView moftenOnes fworld (by omega) (by omega) (by omega) (by omega) (by omega) (hkworld)) [0, 1] rfl (by decide) rfl rfl rfl rfl rfl ⟨Nat.le_of_ble_eq_true rfl, Nat.le_of_ble_eq_true rfl, Nat.le_of_ble_eq_true rfl⟩ dX11_lonely_17 ⟨Nat.le_of_ble_eq_true rfl, Nat.le_of_ble_eq_true rfl⟩ (fun r_85 H locs hr_85 hP hS => ?_)
        obtain rfl := hr_85
        refine lv_icmp_ge (tgt := 92) hx hb dX11_lonely_20 (by decide) (fun c_87 => ?_) (fun c_87 => ?_)
        · skip
          have c_87 : wn fworld 4 ≤ j_82 := (ni_le rfl rfl (by omega) (by omega)).mp c_87
          refine lv_iload_n hx hb dX11_lonely_92 rfl (lv_at hl 1 rfl) ?_
          exact x_reti S hr hlk hQ hS ((fun i => ([(u_2.1 0), (u_2.1 1), (u_2.1 2), (u_2.1 3), (u_2.1 4), (u_2.1 5)] : List (Int32)).getD i 0), (fun i => ([u_2.2.1 0] : List (Nat)).getD i 0), (fun i => ([(u_2.2.2.1 0), (u_2.2.2.1 1), (u_2.2.2.1 2), (u_2.2.2.1 3), (u_2.2.2.1 4), (u_2.2.2.1 5), (u_2.2.2.1 6)] : List (Nat → Int32)).getD i (fun _ => 0)), (fun i => ([] : List (Nat → Int64)).getD i (fun _ => 0)), (fun i => ([] : List (Int64)).getD i 0)) (show u_2.2.1 0 ≤ 14 by omega) (x_B hP hD) dX11_lonely_93
        · skip
          have c_87 : ¬ wn fworld 4 ≤ j_82 := fun q => c_87 ((ni_le rfl rfl (by omega) (by omega)).mpr q)
          refine lv_aload_n hx hb dX11_lonely_23 rfl (lv_at hl 2 rfl) ?_
          refine lv_iload_n hx hb dX11_lonely_24 rfl (lv_at hl 0 rfl) ?_
          refine lv_iload_n hx hb dX11_lonely_25 rfl (lv_at hl 3 rfl) ?_
          refine x_roVi (As := [.int (nI j_82), .int (nI n_7)]) S hK hP hD hZ (fun _ h => h) hA hS hA hl mwX11_viewOf lkX11_333 (ctX11_viewOf l D k z n mthrown mtaped msize mat mfrom mtoken mvalue mfaultKind mfaultPlace (u_2.2.1 0) (u_2.1 0) (u_2.1 1) (u_2.1 2) (u_2.1 3) (u_2.1 4) (u_2.1 5) mroundNow msampleFor msampleAll maskWorst moftenAll moftenView moftenOnes (u_2.2.2.1 1) (u_2.2.2.1 2) (nI j_82) n_7 (by omega) (by omega) (by omega) (by omega) (by omega) (by omega)) [0, 8, 9] rfl (by decide) rfl rfl rfl rfl rfl ⟨Nat.le_of_ble_eq_true rfl, Nat.le_of_ble_eq_true rfl, Nat.le_of_ble_eq_true rfl⟩ dX11_lonely_26 ⟨Nat.le_of_ble_eq_true rfl, Nat.le_of_ble_eq_true rfl⟩ (fun r_88 H locs hr_88 hP hS => ?_)
          refine lv_iconst (v := 1) hx hb dX11_lonely_29 (by decide) ?_
          refine lv_icmp_ne (tgt := 42) hx hb dX11_lonely_30 (by decide) (fun c_90 => ?_) (fun c_90 => ?_)
          · skip
            refine lv_aload_n hx hb dX11_lonely_42 rfl (lv_at hl 2 rfl) ?_
            refine x_get S hK hP 0 rfl cfX11 26 lkX11_55 (by decide) rfl dX11_lonely_43 ?_
            refine lv_iload_n hx hb dX11_lonely_46 rfl (lv_at hl 3 rfl) ?_
            refine x_iald S hK hP 9 rfl (vp_in_nI (by omega) (by decide)) dX11_lonely_47 ?_
            refine lv_topi (fun v_91 ev_91 => ?_)
            refine lv_istore (lv' := [(4, .int v_91), (3, .int (nI j_82)), (2, .int x_83), (0, .ref (n 0)), (1, .int (nI n_7))]) hx hb dX11_lonely_48 hl (by decide) rfl (fun ls hl => ?_)
            refine lv_iload_n hx hb dX11_lonely_50 rfl (lv_at hl 2 rfl) ?_
            refine lv_aload_n hx hb dX11_lonely_51 rfl (lv_at hl 3 rfl) ?_
            refine lv_iload_n hx hb dX11_lonely_52 rfl (lv_at hl 1 rfl) ?_
            refine lv_iload_n hx hb dX11_lonely_53 rfl (lv_at hl 4 rfl) ?_
            refine x_roVi (As := [.int (nI j_82), .int (nI n_7)]) S hK hP hD hZ (fun _ h => h) hA hS hA hl mwX11_viewOf lkX11_333 (ctX11_viewOf l D k z n mthrown mtaped msize mat mfrom mtoken mvalue mfaultKind mfaultPlace (u_2.2.1 0) (u_2.1 0) (u_2.1 1) (u_2.1 2) (u_2.1 3) (u_2.1 4) (u_2.1 5) mroundNow msampleFor msampleAll maskWorst moftenAll moftenView moftenOnes (u_2.2.2.1 1) (u_2.2.2.1 2) (nI j_82) n_7 (by omega) (by omega) (by omega) (by omega) (by omega) (by omega)) [0, 8, 9] rfl (by decide) rfl rfl rfl rfl rfl ⟨Nat.le_of_ble_eq_true rfl, Nat.le_of_ble_eq_true rfl, Nat.le_of_ble_eq_true rfl⟩ dX11_lonely_54 ⟨Nat.le_of_ble_eq_true rfl, Nat.le_of_ble_eq_true rfl⟩ (fun r_92 H locs hr_92 hP hS => ?_)
            refine lv_if_le (tgt := 83) hx hb dX11_lonely_57 (by decide) (fun c_94 => ?_) (fun c_94 => ?_)
            · skip
              refine lv_iconst (v := 0) hx hb dX11_lonely_83 (by decide) ?_
              refine lv_ior hx hb dX11_lonely_84 ?_
              refine lv_topi (fun v_95 ev_95 => ?_)
              refine lv_istore_n (lv' := [(2, .int v_95), (4, .int v_91), (3, .int (nI j_82)), (0, .ref (n 0)), (1, .int (nI n_7))]) hx hb dX11_lonely_85 rfl hl (by decide) rfl (fun ls hl => ?_)
              refine lv_iinc (v := (nI (j_82 + 1))) (lv' := [(3, .int (nI (j_82 + 1))), (2, .int v_95), (4, .int v_91), (0, .ref (n 0)), (1, .int (nI n_7))]) hx hb dX11_lonely_86 hl (k := 2) rfl (ni_inc _) (by decide) rfl (fun ls hl => ?_)
              refine lv_goto (tgt := 15) hx hb dX11_lonely_89 (by decide) ?_
              exact ihj_82 (j_82 + 1) v_95 _ _ _ (by omega) (by omega) hP hD hS (lv_sub hl [0, 1, 3, 4] rfl)
            · skip
              refine lv_iload hx hb dX11_lonely_60 (lv_at hl 0 rfl) ?_
              refine lv_aload_n hx hb dX11_lonely_62 rfl (lv_at hl 3 rfl) ?_
              refine lv_iload_n hx hb dX11_lonely_63 rfl (lv_at hl 1 rfl) ?_
              refine x_roVi (As := [.int (nI j_82)]) S hK hP hD hZ (fun _ h => h) hA hS hA hl mwX11_besides lkX11_252 (ctX11_besides l D k z n mthrown mtaped msize mat mfrom mtoken mvalue mfaultKind mfaultPlace (u_2.2.1 0) (u_2.1 0) (u_2.1 1) (u_2.1 2) (u_2.1 3) (u_2.1 4) (u_2.1 5) mroundNow msampleFor msampleAll maskWorst moftenAll moftenView moftenOnes fworld (u_2.2.2.1 4) (u_2.2.2.1 5) (u_2.2.2.1 6) j_82 (by omega) (by omega) (by omega) (by omega) (by omega) (hkworld) (by omega)) [0, 1, 2, 3, 4] rfl (by decide) rfl rfl rfl rfl rfl ⟨Nat.le_of_ble_eq_true rfl, Nat.le_of_ble_eq_true rfl, Nat.le_of_ble_eq_true rfl⟩ dX11_lonely_64 ⟨Nat.le_of_ble_eq_true rfl, Nat.le_of_ble_eq_true rfl⟩ (fun r_96 H locs hr_96 hP hS => ?_)
              refine lv_aload_n hx hb dX11_lonely_67 rfl (lv_at hl 3 rfl) ?_
              refine lv_iload_n hx hb dX11_lonely_68 rfl (lv_at hl 1 rfl) ?_
              refine x_roVi (As := [.int (nI j_82)]) S hK hP hD hZ (fun _ h => h) hA hS hA hl mwX11_across lkX11_255 (ctX11_across l D k z n mthrown mtaped msize mat mfrom mtoken mvalue mfaultKind mfaultPlace (u_2.2.1 0) (u_2.1 0) (u_2.1 1) (u_2.1 2) (u_2.1 3) (u_2.1 4) (u_2.1 5) mroundNow msampleFor msampleAll maskWorst moftenAll moftenView moftenOnes fworld (u_2.2.2.1 4) (u_2.2.2.1 5) (u_2.2.2.1 6) j_82 (by omega) (by omega) (by omega) (by omega) (by omega) (hkworld) (by omega)) [0, 1, 2, 3, 4] rfl (by decide) rfl rfl rfl rfl rfl ⟨Nat.le_of_ble_eq_true rfl, Nat.le_of_ble_eq_true rfl, Nat.le_of_ble_eq_true rfl⟩ dX11_lonely_69 ⟨Nat.le_of_ble_eq_true rfl, Nat.le_of_ble_eq_true rfl⟩ (fun r_98 H locs hr_98 hP hS => ?_)
              refine lv_ior hx hb dX11_lonely_72 ?_
              refine lv_topi (fun v_100 ev_100 => ?_)
              refine lv_iand hx hb dX11_lonely_73 ?_
              refine lv_topi (fun v_101 ev_101 => ?_)
              refine lv_if_ne (tgt := 83) hx hb dX11_lonely_74 (by decide) (fun c_102 => ?_) (fun c_102 => ?_)
              · skip
                refine lv_iconst (v := 0) hx hb dX11_lonely_83 (by decide) ?_
                refine lv_ior hx hb dX11_lonely_84 ?_
                refine lv_topi (fun v_103 ev_103 => ?_)
                refine lv_istore_n (lv' := [(2, .int v_103), (4, .int v_91), (3, .int (nI j_82)), (0, .ref (n 0)), (1, .int (nI n_7))]) hx hb dX11_lonely_85 rfl hl (by decide) rfl (fun ls hl => ?_)
                refine lv_iinc (v := (nI (j_82 + 1))) (lv' := [(3, .int (nI (j_82 + 1))), (2, .int v_103), (4, .int v_91), (0, .ref (n 0)), (1, .int (nI n_7))]) hx hb dX11_lonely_86 hl (k := 2) rfl (ni_inc _) (by decide) rfl (fun ls hl => ?_)
                refine lv_goto (tgt := 15) hx hb dX11_lonely_89 (by decide) ?_
                exact ihj_82 (j_82 + 1) v_103 _ _ _ (by omega) (by omega) hP hD hS (lv_sub hl [0, 1, 3, 4] rfl)
              · skip
                refine lv_iconst (v := 1) hx hb dX11_lonely_77 (by decide) ?_
                refine lv_iload_n hx hb dX11_lonely_78 rfl (lv_at hl 1 rfl) ?_
                refine lv_ishl hx hb dX11_lonely_79 ?_
                refine lv_topi (fun v_104 ev_104 => ?_)
                refine lv_goto (tgt := 84) hx hb dX11_lonely_80 (by decide) ?_
                refine lv_ior hx hb dX11_lonely_84 ?_
                refine lv_topi (fun v_105 ev_105 => ?_)
                refine lv_istore_n (lv' := [(2, .int v_105), (4, .int v_91), (3, .int (nI j_82)), (0, .ref (n 0)), (1, .int (nI n_7))]) hx hb dX11_lonely_85 rfl hl (by decide) rfl (fun ls hl => ?_)
                refine lv_iinc (v := (nI (j_82 + 1))) (lv' := [(3, .int (nI (j_82 + 1))), (2, .int v_105), (4, .int v_91), (0, .ref (n 0)), (1, .int (nI n_7))]) hx hb dX11_lonely_86 hl (k := 2) rfl (ni_inc _) (by decide) rfl (fun ls hl => ?_)
                refine lv_goto (tgt := 15) hx hb dX11_lonely_89 (by decide) ?_
                exact ihj_82 (j_82 + 1) v_105 _ _ _ (by omega) (by omega) hP hD hS (lv_sub hl [0, 1, 3, 4] rfl)
          · skip
            refine lv_aload_n hx hb dX11_lonely_33 rfl (lv_at hl 2 rfl) ?_
            refine x_get S hK hP 0 rfl cfX11 25 lkX11_52 (by decide) rfl dX11_lonely_34 ?_
            refine lv_iload_n hx hb dX11_lonely_37 rfl (lv_at hl 3 rfl) ?_
            refine x_iald S hK hP 8 rfl (vp_in_nI (by omega) (by decide)) dX11_lonely_38 ?_
            refine lv_topi (fun v_106 ev_106 => ?_)
            refine lv_goto (tgt := 48) hx hb dX11_lonely_39 (by decide) ?_
            refine lv_istore (lv' := [(4, .int v_106), (3, .int (nI j_82)), (2, .int x_83), (0, .ref (n 0)), (1, .int (nI n_7))]) hx hb dX11_lonely_48 hl (by decide) rfl (fun ls hl => ?_)
            refine lv_iload_n hx hb dX11_lonely_50 rfl (lv_at hl 2 rfl) ?_
            refine lv_aload_n hx hb dX11_lonely_51 rfl (lv_at hl 3 rfl) ?_
            refine lv_iload_n hx hb dX11_lonely_52 rfl (lv_at hl 1 rfl) ?_
            refine lv_iload_n hx hb dX11_lonely_53 rfl (lv_at hl 4 rfl) ?_
            refine x_roVi (As := [.int (nI j_82), .int (nI n_7)]) S hK hP hD hZ (fun _ h => h) hA hS hA hl mwX11_viewOf lkX11_333 (ctX11_viewOf l D k z n mthrown mtaped msize mat mfrom mtoken mvalue mfaultKind mfaultPlace (u_2.2.1 0) (u_2.1 0) (u_2.1 1) (u_2.1 2) (u_2.1 3) (u_2.1 4) (u_2.1 5) mroundNow msampleFor msampleAll maskWorst moftenAll moftenView moftenOnes (u_2.2.2.1 1) (u_2.2.2.1 2) (nI j_82) n_7 (by omega) (by omega) (by omega) (by omega) (by omega) (by omega)) [0, 8, 9] rfl (by decide) rfl rfl rfl rfl rfl ⟨Nat.le_of_ble_eq_true rfl, Nat.le_of_ble_eq_true rfl, Nat.le_of_ble_eq_true rfl⟩ dX11_lonely_54 ⟨Nat.le_of_ble_eq_true rfl, Nat.le_of_ble_eq_true rfl⟩ (fun r_107 H locs hr_107 hP hS => ?_)
            refine lv_if_le (tgt := 83) hx hb dX11_lonely_57 (by decide) (fun c_109 => ?_) (fun c_109 => ?_)
            · skip
              refine lv_iconst (v := 0) hx hb dX11_lonely_83 (by decide) ?_
              refine lv_ior hx hb dX11_lonely_84 ?_
              refine lv_topi (fun v_110 ev_110 => ?_)
              refine lv_istore_n (lv' := [(2, .int v_110), (4, .int v_106), (3, .int (nI j_82)), (0, .ref (n 0)), (1, .int (nI n_7))]) hx hb dX11_lonely_85 rfl hl (by decide) rfl (fun ls hl => ?_)
              refine lv_iinc (v := (nI (j_82 + 1))) (lv' := [(3, .int (nI (j_82 + 1))), (2, .int v_110), (4, .int v_106), (0, .ref (n 0)), (1, .int (nI n_7))]) hx hb dX11_lonely_86 hl (k := 2) rfl (ni_inc _) (by decide) rfl (fun ls hl => ?_)
              refine lv_goto (tgt := 15) hx hb dX11_lonely_89 (by decide) ?_
              exact ihj_82 (j_82 + 1) v_110 _ _ _ (by omega) (by omega) hP hD hS (lv_sub hl [0, 1, 3, 4] rfl)
            · skip
              refine lv_iload hx hb dX11_lonely_60 (lv_at hl 0 rfl) ?_
              refine lv_aload_n hx hb dX11_lonely_62 rfl (lv_at hl 3 rfl) ?_
              refine lv_iload_n hx hb dX11_lonely_63 rfl (lv_at hl 1 rfl) ?_
              refine x_roVi (As := [.int (nI j_82)]) S hK hP hD hZ (fun _ h => h) hA hS hA hl mwX11_besides lkX11_252 (ctX11_besides l D k z n mthrown mtaped msize mat mfrom mtoken mvalue mfaultKind mfaultPlace (u_2.2.1 0) (u_2.1 0) (u_2.1 1) (u_2.1 2) (u_2.1 3) (u_2.1 4) (u_2.1 5) mroundNow msampleFor msampleAll maskWorst moftenAll moftenView moftenOnes fworld (u_2.2.2.1 4) (u_2.2.2.1 5) (u_2.2.2.1 6) j_82 (by omega) (by omega) (by omega) (by omega) (by omega) (hkworld) (by omega)) [0, 1, 2, 3, 4] rfl (by decide) rfl rfl rfl rfl rfl ⟨Nat.le_of_ble_eq_true rfl, Nat.le_of_ble_eq_true rfl, Nat.le_of_ble_eq_true rfl⟩ dX11_lonely_64 ⟨Nat.le_of_ble_eq_true rfl, Nat.le_of_ble_eq_true rfl⟩ (fun r_111 H locs hr_111 hP hS => ?_)
              refine lv_aload_n hx hb dX11_lonely_67 rfl (lv_at hl 3 rfl) ?_
              refine lv_iload_n hx hb dX11_lonely_68 rfl (lv_at hl 1 rfl) ?_
              refine x_roVi (As := [.int (nI j_82)]) S hK hP hD hZ (fun _ h => h) hA hS hA hl mwX11_across lkX11_255 (ctX11_across l D k z n mthrown mtaped msize mat mfrom mtoken mvalue mfaultKind mfaultPlace (u_2.2.1 0) (u_2.1 0) (u_2.1 1) (u_2.1 2) (u_2.1 3) (u_2.1 4) (u_2.1 5) mroundNow msampleFor msampleAll maskWorst moftenAll moftenView moftenOnes fworld (u_2.2.2.1 4) (u_2.2.2.1 5) (u_2.2.2.1 6) j_82 (by omega) (by omega) (by omega) (by omega) (by omega) (hkworld) (by omega)) [0, 1, 2, 3, 4] rfl (by decide) rfl rfl rfl rfl rfl ⟨Nat.le_of_ble_eq_true rfl, Nat.le_of_ble_eq_true rfl, Nat.le_of_ble_eq_true rfl⟩ dX11_lonely_69 ⟨Nat.le_of_ble_eq_true rfl, Nat.le_of_ble_eq_true rfl⟩ (fun r_113 H locs hr_113 hP hS => ?_)
              refine lv_ior hx hb dX11_lonely_72 ?_
              refine lv_topi (fun v_115 ev_115 => ?_)
              refine lv_iand hx hb dX11_lonely_73 ?_
              refine lv_topi (fun v_116 ev_116 => ?_)
              refine lv_if_ne (tgt := 83) hx hb dX11_lonely_74 (by decide) (fun c_117 => ?_) (fun c_117 => ?_)
              · skip
                refine lv_iconst (v := 0) hx hb dX11_lonely_83 (by decide) ?_
                refine lv_ior hx hb dX11_lonely_84 ?_
                refine lv_topi (fun v_118 ev_118 => ?_)
                refine lv_istore_n (lv' := [(2, .int v_118), (4, .int v_106), (3, .int (nI j_82)), (0, .ref (n 0)), (1, .int (nI n_7))]) hx hb dX11_lonely_85 rfl hl (by decide) rfl (fun ls hl => ?_)
                refine lv_iinc (v := (nI (j_82 + 1))) (lv' := [(3, .int (nI (j_82 + 1))), (2, .int v_118), (4, .int v_106), (0, .ref (n 0)), (1, .int (nI n_7))]) hx hb dX11_lonely_86 hl (k := 2) rfl (ni_inc _) (by decide) rfl (fun ls hl => ?_)
                refine lv_goto (tgt := 15) hx hb dX11_lonely_89 (by decide) ?_
                exact ihj_82 (j_82 + 1) v_118 _ _ _ (by omega) (by omega) hP hD hS (lv_sub hl [0, 1, 3, 4] rfl)
              · skip
                refine lv_iconst (v := 1) hx hb dX11_lonely_77 (by decide) ?_
                refine lv_iload_n hx hb dX11_lonely_78 rfl (lv_at hl 1 rfl) ?_
                refine lv_ishl hx hb dX11_lonely_79 ?_
                refine lv_topi (fun v_119 ev_119 => ?_)
                refine lv_goto (tgt := 84) hx hb dX11_lonely_80 (by decide) ?_
                refine lv_ior hx hb dX11_lonely_84 ?_
                refine lv_topi (fun v_120 ev_120 => ?_)
                refine lv_istore_n (lv' := [(2, .int v_120), (4, .int v_106), (3, .int (nI j_82)), (0, .ref (n 0)), (1, .int (nI n_7))]) hx hb dX11_lonely_85 rfl hl (by decide) rfl (fun ls hl => ?_)
                refine lv_iinc (v := (nI (j_82 + 1))) (lv' := [(3, .int (nI (j_82 + 1))), (2, .int v_120), (4, .int v_106), (0, .ref (n 0)), (1, .int (nI n_7))]) hx hb dX11_lonely_86 hl (k := 2) rfl (ni_inc _) (by decide) rfl (fun ls hl => ?_)
                refine lv_goto (tgt := 15) hx hb dX11_lonely_89 (by decide) ?_
                exact ihj_82 (j_82 + 1) v_120 _ _ _ (by omega) (by omega) hP hD hS (lv_sub hl [0, 1, 3, 4] rfl)
    exact lp_84 (wn fworld 4 + 1) 0 0 _ _ _ (by omega) (by omega) hP hD hS (lv_sub hl [0, 1, 2, 3] rfl)
  · skip
    refine lv_bipush (v := (-2)) hx hb dX11_lonely_8 (by decide) ?_
    exact x_reti S hr hlk hQ hS ((fun i => ([(u_2.1 0), (u_2.1 1), (u_2.1 2), (u_2.1 3), (u_2.1 4), (u_2.1 5)] : List (Int32)).getD i 0), (fun i => ([u_2.2.1 0] : List (Nat)).getD i 0), (fun i => ([(u_2.2.2.1 0), (u_2.2.2.1 1), (u_2.2.2.1 2), (u_2.2.2.1 3), (u_2.2.2.1 4), (u_2.2.2.1 5), (u_2.2.2.1 6)] : List (Nat → Int32)).getD i (fun _ => 0)), (fun i => ([] : List (Nat → Int64)).getD i (fun _ => 0)), (fun i => ([] : List (Int64)).getD i 0)) (show u_2.2.1 0 ≤ 14 by omega) (x_B hP hD) dX11_lonely_10

set_option maxHeartbeats 4000000 in
set_option maxRecDepth 100000 in
theorem ctX11_quarrels (l : Launch) (D : va_G) (k : Nat → ClassId) (z : Nat → Nat) (n : Nat → Nat) (mthrown : Int32) (mtaped : Nat) (msize : Nat) (mat : Nat) (mfrom : Nat) (mtoken : Int32) (mvalue : Int32) (mfaultKind : Int32) (mfaultPlace : Int32) (mmoreMany : Nat) (mlawNow : Int32) (mwetSet : Int32) (moverAll : Int32) (mones : Int32) (mtwos : Int32) (mgone : Int32) (mroundNow : Int32) (msampleFor : Int64) (msampleAll : Int64) (maskWorst : Int32) (moftenAll : Int64) (moftenView : Int64) (moftenOnes : Int64) (fworld : Nat → Int32) (frowOf : Nat → Int32) (fplaceOf : Nat → Int32) (ffirstOf : Nat → Int32) (fhardNow : Nat → Int32) (fmoreHead : Nat → Int32) (fmoreView : Nat → Int32) (fonesAt : Nat → Int32) (ftwosAt : Nat → Int32) (fgoneAt : Nat → Int32) (p0 : Int32) (hmtaped : mtaped ≤ 600) (hmsize : msize ≤ 600) (hmat : mat ≤ 600) (hmfrom : mfrom ≤ 600) (hmmoreMany : mmoreMany ≤ 14) (hkworld : okW fworld) : MU l yX11_quarrels cX11_quarrels 4 (some .int) 9 D k z [.ref (n 0), .int p0] [((n 0), .inr (11, [.int mthrown, .ref (n 1), .ref (n 2), .ref (n 3), .ref (n 4), .int (nI mtaped), .ref (n 5), .int (nI msize), .int (nI mat), .int (nI mfrom), .int mtoken, .int mvalue, .int mfaultKind, .int mfaultPlace, .ref (n 6), .ref (n 7), .ref (n 8), .ref (n 9), .ref (n 10), .ref (n 11), .ref (n 12), .int (nI mmoreMany), .int mlawNow, .int mwetSet, .int moverAll, .ref (n 13), .ref (n 14), .ref (n 15), .int mones, .int mtwos, .int mgone, .ref (n 16), .ref (n 17), .int mroundNow, .ref (n 18), .long msampleFor, .long msampleAll, .ref (n 19), .int maskWorst, .long moftenAll, .long moftenView, .long moftenOnes, .ref (n 20), .ref (n 21), .ref (n 22), .ref (n 23)])), ((n 1), .inl (k 0, 99, .inl fworld)), ((n 7), .inl (k 0, 12, .inl frowOf)), ((n 8), .inl (k 0, 12, .inl fplaceOf)), ((n 9), .inl (k 0, 4, .inl ffirstOf)), ((n 10), .inl (k 0, 12, .inl fhardNow)), ((n 11), .inl (k 0, 14, .inl fmoreHead)), ((n 12), .inl (k 0, 14, .inl fmoreView)), ((n 13), .inl (k 0, 17, .inl fonesAt)), ((n 14), .inl (k 0, 17, .inl ftwosAt)), ((n 15), .inl (k 0, 17, .inl fgoneAt))] 0 0 (Ui D (fun (r : Int32) (u : (Nat → Int32) × (Nat → Nat) × (Nat → Nat → Int32) × (Nat → Nat → Int64) × (Nat → Int64)) => (u.2.1 0 ≤ 14)) (fun u : (Nat → Int32) × (Nat → Nat) × (Nat → Nat → Int32) × (Nat → Nat → Int64) × (Nat → Int64) => [((n 0), .inr (11, [.int mthrown, .ref (n 1), .ref (n 2), .ref (n 3), .ref (n 4), .int (nI mtaped), .ref (n 5), .int (nI msize), .int (nI mat), .int (nI mfrom), .int mtoken, .int mvalue, .int mfaultKind, .int mfaultPlace, .ref (n 6), .ref (n 7), .ref (n 8), .ref (n 9), .ref (n 10), .ref (n 11), .ref (n 12), .int (nI (u.2.1 0)), .int (u.1 0), .int (u.1 1), .int (u.1 2), .ref (n 13), .ref (n 14), .ref (n 15), .int (u.1 3), .int (u.1 4), .int (u.1 5), .ref (n 16), .ref (n 17), .int mroundNow, .ref (n 18), .long msampleFor, .long msampleAll, .ref (n 19), .int maskWorst, .long moftenAll, .long moftenView, .long moftenOnes, .ref (n 20), .ref (n 21), .ref (n 22), .ref (n 23)])), ((n 1), .inl (k 0, 99, .inl fworld)), ((n 7), .inl (k 0, 12, .inl (u.2.2.1 4))), ((n 8), .inl (k 0, 12, .inl (u.2.2.1 5))), ((n 9), .inl (k 0, 4, .inl (u.2.2.1 6))), ((n 10), .inl (k 0, 12, .inl (u.2.2.1 0))), ((n 11), .inl (k 0, 14, .inl fmoreHead)), ((n 12), .inl (k 0, 14, .inl fmoreView)), ((n 13), .inl (k 0, 17, .inl (u.2.2.1 1))), ((n 14), .inl (k 0, 17, .inl (u.2.2.1 2))), ((n 15), .inl (k 0, 17, .inl (u.2.2.1 3)))])) := by
  refine MU.of (by decide) (Nat.le_of_ble_eq_true rfl) ?_
  intro p e s m below meth c ls A args Q S hr hlk hnm hQ hK hP hD hZ hA hS hl
  have hx := S.1
  have hb := S.2.1
  have hl : lv_has ls 4 [(0, .ref (n 0)), (1, .int p0)] := hl
  have hbfworld := okW_bd hkworld
  refine lv_aload_n hx hb dX11_quarrels_0 rfl (lv_at hl 0 rfl) ?_
  refine lv_iload_n hx hb dX11_quarrels_1 rfl (lv_at hl 1 rfl) ?_
  refine x_muVi (wr := []) (As := [.int p0]) S hK hP hD hZ hS hA hl mwX11_asksHour lkX11_330 (ctX11_asksHour l D k z n mthrown mtaped msize mat mfrom mtoken mvalue mfaultKind mfaultPlace mmoreMany mlawNow mwetSet moverAll mones mtwos mgone mroundNow msampleFor msampleAll maskWorst moftenAll moftenView moftenOnes fworld frowOf fplaceOf ffirstOf fhardNow fmoreHead fmoreView fonesAt ftwosAt fgoneAt p0 (by omega) (by omega) (by omega) (by omega) (by omega) (hkworld)) [0, 1, 2, 3, 4, 5, 6, 7, 8, 9, 10] [] rfl rfl (by decide) (by decide) (by decide) rfl rfl rfl rfl rfl ⟨Nat.le_of_ble_eq_true rfl, Nat.le_of_ble_eq_true rfl, Nat.le_of_ble_eq_true rfl⟩ dX11_quarrels_2 ⟨Nat.le_of_ble_eq_true rfl, Nat.le_of_ble_eq_true rfl⟩ (fun r_1 u_2 H locs hr_1 hP hD hS => ?_)
  have hP : va_P D vwCl [((n 0), .inr (11, [.int mthrown, .ref (n 1), .ref (n 2), .ref (n 3), .ref (n 4), .int (nI mtaped), .ref (n 5), .int (nI msize), .int (nI mat), .int (nI mfrom), .int mtoken, .int mvalue, .int mfaultKind, .int mfaultPlace, .ref (n 6), .ref (n 7), .ref (n 8), .ref (n 9), .ref (n 10), .ref (n 11), .ref (n 12), .int (nI (u_2.2.1 0)), .int (u_2.1 0), .int (u_2.1 1), .int (u_2.1 2), .ref (n 13), .ref (n 14), .ref (n 15), .int (u_2.1 3), .int (u_2.1 4), .int (u_2.1 5), .ref (n 16), .ref (n 17), .int mroundNow, .ref (n 18), .long msampleFor, .long msampleAll, .ref (n 19), .int maskWorst, .long moftenAll, .long moftenView, .long moftenOnes, .ref (n 20), .ref (n 21), .ref (n 22), .ref (n 23)])), ((n 1), .inl (k 0, 99, .inl fworld)), ((n 7), .inl (k 0, 12, .inl (u_2.2.2.1 4))), ((n 8), .inl (k 0, 12, .inl (u_2.2.2.1 5))), ((n 9), .inl (k 0, 4, .inl (u_2.2.2.1 6))), ((n 10), .inl (k 0, 12, .inl (u_2.2.2.1 0))), ((n 11), .inl (k 0, 14, .inl fmoreHead)), ((n 12), .inl (k 0, 14, .inl fmoreView)), ((n 13), .inl (k 0, 17, .inl (u_2.2.2.1 1))), ((n 14), .inl (k 0, 17, .inl (u_2.2.2.1 2))), ((n 15), .inl (k 0, 17, .inl (u_2.2.2.1 3)))] H := hP.sub [0, 1, 2, 3, 4, 5, 6, 7, 8, 9, 10] rfl
  have hD : va_D A [((n 0), .inr (11, [.int mthrown, .ref (n 1), .ref (n 2), .ref (n 3), .ref (n 4), .int (nI mtaped), .ref (n 5), .int (nI msize), .int (nI mat), .int (nI mfrom), .int mtoken, .int mvalue, .int mfaultKind, .int mfaultPlace, .ref (n 6), .ref (n 7), .ref (n 8), .ref (n 9), .ref (n 10), .ref (n 11), .ref (n 12), .int (nI (u_2.2.1 0)), .int (u_2.1 0), .int (u_2.1 1), .int (u_2.1 2), .ref (n 13), .ref (n 14), .ref (n 15), .int (u_2.1 3), .int (u_2.1 4), .int (u_2.1 5), .ref (n 16), .ref (n 17), .int mroundNow, .ref (n 18), .long msampleFor, .long msampleAll, .ref (n 19), .int maskWorst, .long moftenAll, .long moftenView, .long moftenOnes, .ref (n 20), .ref (n 21), .ref (n 22), .ref (n 23)])), ((n 1), .inl (k 0, 99, .inl fworld)), ((n 7), .inl (k 0, 12, .inl (u_2.2.2.1 4))), ((n 8), .inl (k 0, 12, .inl (u_2.2.2.1 5))), ((n 9), .inl (k 0, 4, .inl (u_2.2.2.1 6))), ((n 10), .inl (k 0, 12, .inl (u_2.2.2.1 0))), ((n 11), .inl (k 0, 14, .inl fmoreHead)), ((n 12), .inl (k 0, 14, .inl fmoreView)), ((n 13), .inl (k 0, 17, .inl (u_2.2.2.1 1))), ((n 14), .inl (k 0, 17, .inl (u_2.2.2.1 2))), ((n 15), .inl (k 0, 17, .inl (u_2.2.2.1 3)))] := hD.sub [0, 1, 2, 3, 4, 5, 6, 7, 8, 9, 10] (by decide) rfl
  obtain ⟨hp_3, hz_4, hg_5⟩ := hr_1
  refine lv_if_ne (tgt := 11) hx hb dX11_quarrels_5 (by decide) (fun c_6 => ?_) (fun c_6 => ?_)
  · skip
    obtain ⟨n_7, rfl, hn_7⟩ := hp_3.resolve_left c_6
    refine lv_iconst (v := 0) hx hb dX11_quarrels_11 (by decide) ?_
    refine lv_istore_n (lv' := [(2, .int 0), (0, .ref (n 0)), (1, .int (nI n_7))]) hx hb dX11_quarrels_12 rfl hl (by decide) rfl (fun ls hl => ?_)
    refine lv_iconst (v := 0) hx hb dX11_quarrels_13 (by decide) ?_
    refine lv_istore_n (lv' := [(3, .int 0), (2, .int 0), (0, .ref (n 0)), (1, .int (nI n_7))]) hx hb dX11_quarrels_14 rfl hl (by decide) rfl (fun ls hl => ?_)
    have lp_49 : ∀ (nn j_47 : Nat) (x_48 : Int32) (H : Heap) (locs : List Loc) (ls : Array Slot), j_47 ≤ wn fworld 4 → wn fworld 4 - j_47 < nn → va_P D vwCl [((n 0), .inr (11, [.int mthrown, .ref (n 1), .ref (n 2), .ref (n 3), .ref (n 4), .int (nI mtaped), .ref (n 5), .int (nI msize), .int (nI mat), .int (nI mfrom), .int mtoken, .int mvalue, .int mfaultKind, .int mfaultPlace, .ref (n 6), .ref (n 7), .ref (n 8), .ref (n 9), .ref (n 10), .ref (n 11), .ref (n 12), .int (nI (u_2.2.1 0)), .int (u_2.1 0), .int (u_2.1 1), .int (u_2.1 2), .ref (n 13), .ref (n 14), .ref (n 15), .int (u_2.1 3), .int (u_2.1 4), .int (u_2.1 5), .ref (n 16), .ref (n 17), .int mroundNow, .ref (n 18), .long msampleFor, .long msampleAll, .ref (n 19), .int maskWorst, .long moftenAll, .long moftenView, .long moftenOnes, .ref (n 20), .ref (n 21), .ref (n 22), .ref (n 23)])), ((n 1), .inl (k 0, 99, .inl fworld)), ((n 7), .inl (k 0, 12, .inl (u_2.2.2.1 4))), ((n 8), .inl (k 0, 12, .inl (u_2.2.2.1 5))), ((n 9), .inl (k 0, 4, .inl (u_2.2.2.1 6))), ((n 10), .inl (k 0, 12, .inl (u_2.2.2.1 0))), ((n 11), .inl (k 0, 14, .inl fmoreHead)), ((n 12), .inl (k 0, 14, .inl fmoreView)), ((n 13), .inl (k 0, 17, .inl (u_2.2.2.1 1))), ((n 14), .inl (k 0, 17, .inl (u_2.2.2.1 2))), ((n 15), .inl (k 0, 17, .inl (u_2.2.2.1 3)))] H → va_D A [((n 0), .inr (11, [.int mthrown, .ref (n 1), .ref (n 2), .ref (n 3), .ref (n 4), .int (nI mtaped), .ref (n 5), .int (nI msize), .int (nI mat), .int (nI mfrom), .int mtoken, .int mvalue, .int mfaultKind, .int mfaultPlace, .ref (n 6), .ref (n 7), .ref (n 8), .ref (n 9), .ref (n 10), .ref (n 11), .ref (n 12), .int (nI (u_2.2.1 0)), .int (u_2.1 0), .int (u_2.1 1), .int (u_2.1 2), .ref (n 13), .ref (n 14), .ref (n 15), .int (u_2.1 3), .int (u_2.1 4), .int (u_2.1 5), .ref (n 16), .ref (n 17), .int mroundNow, .ref (n 18), .long msampleFor, .long msampleAll, .ref (n 19), .int maskWorst, .long moftenAll, .long moftenView, .long moftenOnes, .ref (n 20), .ref (n 21), .ref (n 22), .ref (n 23)])), ((n 1), .inl (k 0, 99, .inl fworld)), ((n 7), .inl (k 0, 12, .inl (u_2.2.2.1 4))), ((n 8), .inl (k 0, 12, .inl (u_2.2.2.1 5))), ((n 9), .inl (k 0, 4, .inl (u_2.2.2.1 6))), ((n 10), .inl (k 0, 12, .inl (u_2.2.2.1 0))), ((n 11), .inl (k 0, 14, .inl fmoreHead)), ((n 12), .inl (k 0, 14, .inl fmoreView)), ((n 13), .inl (k 0, 17, .inl (u_2.2.2.1 1))), ((n 14), .inl (k 0, 17, .inl (u_2.2.2.1 2))), ((n 15), .inl (k 0, 17, .inl (u_2.2.2.1 3)))] → va_S A s.heap H locs → lv_has ls 4 [(3, .int (nI j_47)), (2, .int x_48), (0, .ref (n 0)), (1, .int (nI n_7))] → W p l e (Rm 9 0 0) s m args below meth c H locs 0 0 Q (F0 m 15 ls []) := by
      intro nn
      induction nn with
      | zero => intro j_47 x_48 H locs ls hjj_47 hnj_47; exact absurd hnj_47 (by omega)
      | succ nn ihj_47 =>
        intro j_47 x_48 H locs ls hjj_47 hnj_47 hP hD hS hl
        refine lv_iload_n hx hb dX11_quarrels_15 rfl (lv_at hl 0 rfl) ?_
        refine lv_aload_n hx hb dX11_quarrels_16 rfl (lv_at hl 2 rfl) ?_
        refine x_roVi (As := []) S hK hP hD hZ (fun _ h => h) hA hS hA hl mwX11_headMany lkX11_95 (ctX11_headMany l D k z n mthrown mtaped msize mat mfrom mtoken mvalue mfaultKind mfaultPlace (u_2.2.1 0) (u_2.1 0) (u_2.1 1) (u_2.1 2) (u_2.1 3) (u_2.1 4) (u_2.1 5) mroundNow msampleFor msampleAll maskWorst moftenAll moftenView moftenOnes fworld (by omega) (by omega) (by omega) (by omega) (by omega) (hkworld)) [0, 1] rfl (by decide) rfl rfl rfl rfl rfl ⟨Nat.le_of_ble_eq_true rfl, Nat.le_of_ble_eq_true rfl, Nat.le_of_ble_eq_true rfl⟩ dX11_quarrels_17 ⟨Nat.le_of_ble_eq_true rfl, Nat.le_of_ble_eq_true rfl⟩ (fun r_50 H locs hr_50 hP hS => ?_)
        obtain rfl := hr_50
        refine lv_icmp_ge (tgt := 63) hx hb dX11_quarrels_20 (by decide) (fun c_52 => ?_) (fun c_52 => ?_)
        · skip
          have c_52 : wn fworld 4 ≤ j_47 := (ni_le rfl rfl (by omega) (by omega)).mp c_52
          refine lv_iload_n hx hb dX11_quarrels_63 rfl (lv_at hl 1 rfl) ?_
          exact x_reti S hr hlk hQ hS ((fun i => ([(u_2.1 0), (u_2.1 1), (u_2.1 2), (u_2.1 3), (u_2.1 4), (u_2.1 5)] : List (Int32)).getD i 0), (fun i => ([u_2.2.1 0] : List (Nat)).getD i 0), (fun i => ([(u_2.2.2.1 0), (u_2.2.2.1 1), (u_2.2.2.1 2), (u_2.2.2.1 3), (u_2.2.2.1 4), (u_2.2.2.1 5), (u_2.2.2.1 6)] : List (Nat → Int32)).getD i (fun _ => 0)), (fun i => ([] : List (Nat → Int64)).getD i (fun _ => 0)), (fun i => ([] : List (Int64)).getD i 0)) (show u_2.2.1 0 ≤ 14 by omega) (x_B hP hD) dX11_quarrels_64
        · skip
          have c_52 : ¬ wn fworld 4 ≤ j_47 := fun q => c_52 ((ni_le rfl rfl (by omega) (by omega)).mpr q)
          refine lv_aload_n hx hb dX11_quarrels_23 rfl (lv_at hl 2 rfl) ?_
          refine lv_iload_n hx hb dX11_quarrels_24 rfl (lv_at hl 0 rfl) ?_
          refine lv_iload_n hx hb dX11_quarrels_25 rfl (lv_at hl 3 rfl) ?_
          refine x_roVi (As := [.int (nI j_47), .int (nI n_7)]) S hK hP hD hZ (fun _ h => h) hA hS hA hl mwX11_viewOf lkX11_333 (ctX11_viewOf l D k z n mthrown mtaped msize mat mfrom mtoken mvalue mfaultKind mfaultPlace (u_2.2.1 0) (u_2.1 0) (u_2.1 1) (u_2.1 2) (u_2.1 3) (u_2.1 4) (u_2.1 5) mroundNow msampleFor msampleAll maskWorst moftenAll moftenView moftenOnes (u_2.2.2.1 1) (u_2.2.2.1 2) (nI j_47) n_7 (by omega) (by omega) (by omega) (by omega) (by omega) (by omega)) [0, 8, 9] rfl (by decide) rfl rfl rfl rfl rfl ⟨Nat.le_of_ble_eq_true rfl, Nat.le_of_ble_eq_true rfl, Nat.le_of_ble_eq_true rfl⟩ dX11_quarrels_26 ⟨Nat.le_of_ble_eq_true rfl, Nat.le_of_ble_eq_true rfl⟩ (fun r_53 H locs hr_53 hP hS => ?_)
          refine lv_iconst (v := 1) hx hb dX11_quarrels_29 (by decide) ?_
          refine lv_icmp_ne (tgt := 57) hx hb dX11_quarrels_30 (by decide) (fun c_55 => ?_) (fun c_55 => ?_)
          · skip
            refine lv_iinc (v := (nI (j_47 + 1))) (lv' := [(3, .int (nI (j_47 + 1))), (2, .int x_48), (0, .ref (n 0)), (1, .int (nI n_7))]) hx hb dX11_quarrels_57 hl (k := 0) rfl (ni_inc _) (by decide) rfl (fun ls hl => ?_)
            refine lv_goto (tgt := 15) hx hb dX11_quarrels_60 (by decide) ?_
            exact ihj_47 (j_47 + 1) x_48 _ _ _ (by omega) (by omega) hP hD hS (lv_sub hl [0, 1, 2, 3] rfl)
          · skip
            refine lv_iload_n hx hb dX11_quarrels_33 rfl (lv_at hl 1 rfl) ?_
            refine lv_aload_n hx hb dX11_quarrels_34 rfl (lv_at hl 2 rfl) ?_
            refine x_get S hK hP 0 rfl cfX11 26 lkX11_55 (by decide) rfl dX11_quarrels_35 ?_
            refine lv_iload_n hx hb dX11_quarrels_38 rfl (lv_at hl 3 rfl) ?_
            refine x_iald S hK hP 9 rfl (vp_in_nI (by omega) (by decide)) dX11_quarrels_39 ?_
            refine lv_topi (fun v_56 ev_56 => ?_)
            refine lv_aload_n hx hb dX11_quarrels_40 rfl (lv_at hl 2 rfl) ?_
            refine lv_iload_n hx hb dX11_quarrels_41 rfl (lv_at hl 0 rfl) ?_
            refine x_roVi (As := [.int (nI j_47)]) S hK hP hD hZ (fun _ h => h) hA hS hA hl mwX11_besides lkX11_252 (ctX11_besides l D k z n mthrown mtaped msize mat mfrom mtoken mvalue mfaultKind mfaultPlace (u_2.2.1 0) (u_2.1 0) (u_2.1 1) (u_2.1 2) (u_2.1 3) (u_2.1 4) (u_2.1 5) mroundNow msampleFor msampleAll maskWorst moftenAll moftenView moftenOnes fworld (u_2.2.2.1 4) (u_2.2.2.1 5) (u_2.2.2.1 6) j_47 (by omega) (by omega) (by omega) (by omega) (by omega) (hkworld) (by omega)) [0, 1, 2, 3, 4] rfl (by decide) rfl rfl rfl rfl rfl ⟨Nat.le_of_ble_eq_true rfl, Nat.le_of_ble_eq_true rfl, Nat.le_of_ble_eq_true rfl⟩ dX11_quarrels_42 ⟨Nat.le_of_ble_eq_true rfl, Nat.le_of_ble_eq_true rfl⟩ (fun r_57 H locs hr_57 hP hS => ?_)
            refine lv_aload_n hx hb dX11_quarrels_45 rfl (lv_at hl 2 rfl) ?_
            refine lv_iload_n hx hb dX11_quarrels_46 rfl (lv_at hl 0 rfl) ?_
            refine x_roVi (As := [.int (nI j_47)]) S hK hP hD hZ (fun _ h => h) hA hS hA hl mwX11_across lkX11_255 (ctX11_across l D k z n mthrown mtaped msize mat mfrom mtoken mvalue mfaultKind mfaultPlace (u_2.2.1 0) (u_2.1 0) (u_2.1 1) (u_2.1 2) (u_2.1 3) (u_2.1 4) (u_2.1 5) mroundNow msampleFor msampleAll maskWorst moftenAll moftenView moftenOnes fworld (u_2.2.2.1 4) (u_2.2.2.1 5) (u_2.2.2.1 6) j_47 (by omega) (by omega) (by omega) (by omega) (by omega) (hkworld) (by omega)) [0, 1, 2, 3, 4] rfl (by decide) rfl rfl rfl rfl rfl ⟨Nat.le_of_ble_eq_true rfl, Nat.le_of_ble_eq_true rfl, Nat.le_of_ble_eq_true rfl⟩ dX11_quarrels_47 ⟨Nat.le_of_ble_eq_true rfl, Nat.le_of_ble_eq_true rfl⟩ (fun r_59 H locs hr_59 hP hS => ?_)
            refine lv_ior hx hb dX11_quarrels_50 ?_
            refine lv_topi (fun v_61 ev_61 => ?_)
            refine lv_iand hx hb dX11_quarrels_51 ?_
            refine lv_topi (fun v_62 ev_62 => ?_)
            refine x_roSi (As := [.int v_62]) S hK hP hD hZ (fun _ h => h) hA hS hA hl mwX11_bits lkX11_296 (ctX11_bits l D k z v_62 ) [] rfl (by decide) rfl rfl ⟨Nat.le_of_ble_eq_true rfl, Nat.le_of_ble_eq_true rfl, Nat.le_of_ble_eq_true rfl⟩ dX11_quarrels_52 ⟨Nat.le_of_ble_eq_true rfl, Nat.le_of_ble_eq_true rfl⟩ (fun r_63 H locs hr_63 hP hS => ?_)
            obtain ⟨rfl, hg_65⟩ := hr_63
            refine lv_iadd hx hb dX11_quarrels_55 ?_
            refine lv_topi (fun v_66 ev_66 => ?_)
            refine lv_istore_n (lv' := [(2, .int v_66), (3, .int (nI j_47)), (0, .ref (n 0)), (1, .int (nI n_7))]) hx hb dX11_quarrels_56 rfl hl (by decide) rfl (fun ls hl => ?_)
            refine lv_iinc (v := (nI (j_47 + 1))) (lv' := [(3, .int (nI (j_47 + 1))), (2, .int v_66), (0, .ref (n 0)), (1, .int (nI n_7))]) hx hb dX11_quarrels_57 hl (k := 1) rfl (ni_inc _) (by decide) rfl (fun ls hl => ?_)
            refine lv_goto (tgt := 15) hx hb dX11_quarrels_60 (by decide) ?_
            exact ihj_47 (j_47 + 1) v_66 _ _ _ (by omega) (by omega) hP hD hS (lv_sub hl [0, 1, 2, 3] rfl)
    exact lp_49 (wn fworld 4 + 1) 0 0 _ _ _ (by omega) (by omega) hP hD hS (lv_sub hl [0, 1, 2, 3] rfl)
  · skip
    refine lv_bipush (v := (-2)) hx hb dX11_quarrels_8 (by decide) ?_
    exact x_reti S hr hlk hQ hS ((fun i => ([(u_2.1 0), (u_2.1 1), (u_2.1 2), (u_2.1 3), (u_2.1 4), (u_2.1 5)] : List (Int32)).getD i 0), (fun i => ([u_2.2.1 0] : List (Nat)).getD i 0), (fun i => ([(u_2.2.2.1 0), (u_2.2.2.1 1), (u_2.2.2.1 2), (u_2.2.2.1 3), (u_2.2.2.1 4), (u_2.2.2.1 5), (u_2.2.2.1 6)] : List (Nat → Int32)).getD i (fun _ => 0)), (fun i => ([] : List (Nat → Int64)).getD i (fun _ => 0)), (fun i => ([] : List (Int64)).getD i 0)) (show u_2.2.1 0 ≤ 14 by omega) (x_B hP hD) dX11_quarrels_10

set_option maxHeartbeats 4000000 in
set_option maxRecDepth 100000 in
theorem ctX11_never (l : Launch) (D : va_G) (k : Nat → ClassId) (z : Nat → Nat) (n : Nat → Nat) (mthrown : Int32) (mtaped : Nat) (msize : Nat) (mat : Nat) (mfrom : Nat) (mtoken : Int32) (mvalue : Int32) (mfaultKind : Int32) (mfaultPlace : Int32) (mmoreMany : Nat) (mlawNow : Int32) (mwetSet : Int32) (moverAll : Int32) (mones : Int32) (mtwos : Int32) (mgone : Int32) (mroundNow : Int32) (msampleFor : Int64) (msampleAll : Int64) (maskWorst : Int32) (moftenAll : Int64) (moftenView : Int64) (moftenOnes : Int64) (fworld : Nat → Int32) (frowOf : Nat → Int32) (fplaceOf : Nat → Int32) (ffirstOf : Nat → Int32) (fhardNow : Nat → Int32) (fmoreHead : Nat → Int32) (fmoreView : Nat → Int32) (fonesAt : Nat → Int32) (ftwosAt : Nat → Int32) (fgoneAt : Nat → Int32) (p0 : Int32) (hmtaped : mtaped ≤ 600) (hmsize : msize ≤ 600) (hmat : mat ≤ 600) (hmfrom : mfrom ≤ 600) (hmmoreMany : mmoreMany ≤ 14) (hkworld : okW fworld) : MU l yX11_never cX11_never 4 (some .int) 8 D k z [.ref (n 0), .int p0] [((n 0), .inr (11, [.int mthrown, .ref (n 1), .ref (n 2), .ref (n 3), .ref (n 4), .int (nI mtaped), .ref (n 5), .int (nI msize), .int (nI mat), .int (nI mfrom), .int mtoken, .int mvalue, .int mfaultKind, .int mfaultPlace, .ref (n 6), .ref (n 7), .ref (n 8), .ref (n 9), .ref (n 10), .ref (n 11), .ref (n 12), .int (nI mmoreMany), .int mlawNow, .int mwetSet, .int moverAll, .ref (n 13), .ref (n 14), .ref (n 15), .int mones, .int mtwos, .int mgone, .ref (n 16), .ref (n 17), .int mroundNow, .ref (n 18), .long msampleFor, .long msampleAll, .ref (n 19), .int maskWorst, .long moftenAll, .long moftenView, .long moftenOnes, .ref (n 20), .ref (n 21), .ref (n 22), .ref (n 23)])), ((n 1), .inl (k 0, 99, .inl fworld)), ((n 7), .inl (k 0, 12, .inl frowOf)), ((n 8), .inl (k 0, 12, .inl fplaceOf)), ((n 9), .inl (k 0, 4, .inl ffirstOf)), ((n 10), .inl (k 0, 12, .inl fhardNow)), ((n 11), .inl (k 0, 14, .inl fmoreHead)), ((n 12), .inl (k 0, 14, .inl fmoreView)), ((n 13), .inl (k 0, 17, .inl fonesAt)), ((n 14), .inl (k 0, 17, .inl ftwosAt)), ((n 15), .inl (k 0, 17, .inl fgoneAt))] 0 0 (Ui D (fun (r : Int32) (u : (Nat → Int32) × (Nat → Nat) × (Nat → Nat → Int32) × (Nat → Nat → Int64) × (Nat → Int64)) => (u.2.1 0 ≤ 14)) (fun u : (Nat → Int32) × (Nat → Nat) × (Nat → Nat → Int32) × (Nat → Nat → Int64) × (Nat → Int64) => [((n 0), .inr (11, [.int mthrown, .ref (n 1), .ref (n 2), .ref (n 3), .ref (n 4), .int (nI mtaped), .ref (n 5), .int (nI msize), .int (nI mat), .int (nI mfrom), .int mtoken, .int mvalue, .int mfaultKind, .int mfaultPlace, .ref (n 6), .ref (n 7), .ref (n 8), .ref (n 9), .ref (n 10), .ref (n 11), .ref (n 12), .int (nI (u.2.1 0)), .int (u.1 0), .int (u.1 1), .int (u.1 2), .ref (n 13), .ref (n 14), .ref (n 15), .int (u.1 3), .int (u.1 4), .int (u.1 5), .ref (n 16), .ref (n 17), .int mroundNow, .ref (n 18), .long msampleFor, .long msampleAll, .ref (n 19), .int maskWorst, .long moftenAll, .long moftenView, .long moftenOnes, .ref (n 20), .ref (n 21), .ref (n 22), .ref (n 23)])), ((n 1), .inl (k 0, 99, .inl fworld)), ((n 7), .inl (k 0, 12, .inl (u.2.2.1 4))), ((n 8), .inl (k 0, 12, .inl (u.2.2.1 5))), ((n 9), .inl (k 0, 4, .inl (u.2.2.1 6))), ((n 10), .inl (k 0, 12, .inl (u.2.2.1 0))), ((n 11), .inl (k 0, 14, .inl fmoreHead)), ((n 12), .inl (k 0, 14, .inl fmoreView)), ((n 13), .inl (k 0, 17, .inl (u.2.2.1 1))), ((n 14), .inl (k 0, 17, .inl (u.2.2.1 2))), ((n 15), .inl (k 0, 17, .inl (u.2.2.1 3)))])) := by
  refine MU.of (by decide) (Nat.le_of_ble_eq_true rfl) ?_
  intro p e s m below meth c ls A args Q S hr hlk hnm hQ hK hP hD hZ hA hS hl
  have hx := S.1
  have hb := S.2.1
  have hl : lv_has ls 4 [(0, .ref (n 0)), (1, .int p0)] := hl
  have hbfworld := okW_bd hkworld
  refine lv_aload_n hx hb dX11_never_0 rfl (lv_at hl 0 rfl) ?_
  refine x_muVi (wr := []) (As := []) S hK hP hD hZ hS hA hl mwX11_asksGarden lkX11_315 (ctX11_asksGarden l D k z n mthrown mtaped msize mat mfrom mtoken mvalue mfaultKind mfaultPlace mmoreMany mlawNow mwetSet moverAll mones mtwos mgone mroundNow msampleFor msampleAll maskWorst moftenAll moftenView moftenOnes fworld frowOf fplaceOf ffirstOf fhardNow fmoreHead fmoreView fonesAt ftwosAt fgoneAt (by omega) (by omega) (by omega) (by omega) (by omega) (hkworld)) [0, 1, 2, 3, 4, 5, 6, 7, 8, 9, 10] [] rfl rfl (by decide) (by decide) (by decide) rfl rfl rfl rfl rfl ⟨Nat.le_of_ble_eq_true rfl, Nat.le_of_ble_eq_true rfl, Nat.le_of_ble_eq_true rfl⟩ dX11_never_1 ⟨Nat.le_of_ble_eq_true rfl, Nat.le_of_ble_eq_true rfl⟩ (fun r_1 u_2 H locs hr_1 hP hD hS => ?_)
  have hP : va_P D vwCl [((n 0), .inr (11, [.int mthrown, .ref (n 1), .ref (n 2), .ref (n 3), .ref (n 4), .int (nI mtaped), .ref (n 5), .int (nI msize), .int (nI mat), .int (nI mfrom), .int mtoken, .int mvalue, .int mfaultKind, .int mfaultPlace, .ref (n 6), .ref (n 7), .ref (n 8), .ref (n 9), .ref (n 10), .ref (n 11), .ref (n 12), .int (nI (u_2.2.1 0)), .int (u_2.1 0), .int (u_2.1 1), .int (u_2.1 2), .ref (n 13), .ref (n 14), .ref (n 15), .int (u_2.1 3), .int (u_2.1 4), .int (u_2.1 5), .ref (n 16), .ref (n 17), .int mroundNow, .ref (n 18), .long msampleFor, .long msampleAll, .ref (n 19), .int maskWorst, .long moftenAll, .long moftenView, .long moftenOnes, .ref (n 20), .ref (n 21), .ref (n 22), .ref (n 23)])), ((n 1), .inl (k 0, 99, .inl fworld)), ((n 7), .inl (k 0, 12, .inl (u_2.2.2.1 4))), ((n 8), .inl (k 0, 12, .inl (u_2.2.2.1 5))), ((n 9), .inl (k 0, 4, .inl (u_2.2.2.1 6))), ((n 10), .inl (k 0, 12, .inl (u_2.2.2.1 0))), ((n 11), .inl (k 0, 14, .inl fmoreHead)), ((n 12), .inl (k 0, 14, .inl fmoreView)), ((n 13), .inl (k 0, 17, .inl (u_2.2.2.1 1))), ((n 14), .inl (k 0, 17, .inl (u_2.2.2.1 2))), ((n 15), .inl (k 0, 17, .inl (u_2.2.2.1 3)))] H := hP.sub [0, 1, 2, 3, 4, 5, 6, 7, 8, 9, 10] rfl
  have hD : va_D A [((n 0), .inr (11, [.int mthrown, .ref (n 1), .ref (n 2), .ref (n 3), .ref (n 4), .int (nI mtaped), .ref (n 5), .int (nI msize), .int (nI mat), .int (nI mfrom), .int mtoken, .int mvalue, .int mfaultKind, .int mfaultPlace, .ref (n 6), .ref (n 7), .ref (n 8), .ref (n 9), .ref (n 10), .ref (n 11), .ref (n 12), .int (nI (u_2.2.1 0)), .int (u_2.1 0), .int (u_2.1 1), .int (u_2.1 2), .ref (n 13), .ref (n 14), .ref (n 15), .int (u_2.1 3), .int (u_2.1 4), .int (u_2.1 5), .ref (n 16), .ref (n 17), .int mroundNow, .ref (n 18), .long msampleFor, .long msampleAll, .ref (n 19), .int maskWorst, .long moftenAll, .long moftenView, .long moftenOnes, .ref (n 20), .ref (n 21), .ref (n 22), .ref (n 23)])), ((n 1), .inl (k 0, 99, .inl fworld)), ((n 7), .inl (k 0, 12, .inl (u_2.2.2.1 4))), ((n 8), .inl (k 0, 12, .inl (u_2.2.2.1 5))), ((n 9), .inl (k 0, 4, .inl (u_2.2.2.1 6))), ((n 10), .inl (k 0, 12, .inl (u_2.2.2.1 0))), ((n 11), .inl (k 0, 14, .inl fmoreHead)), ((n 12), .inl (k 0, 14, .inl fmoreView)), ((n 13), .inl (k 0, 17, .inl (u_2.2.2.1 1))), ((n 14), .inl (k 0, 17, .inl (u_2.2.2.1 2))), ((n 15), .inl (k 0, 17, .inl (u_2.2.2.1 3)))] := hD.sub [0, 1, 2, 3, 4, 5, 6, 7, 8, 9, 10] (by decide) rfl
  obtain ⟨hz_3, hg_4⟩ := hr_1
  refine lv_if_eq (tgt := 15) hx hb dX11_never_4 (by decide) (fun c_5 => ?_) (fun c_5 => ?_)
  · skip
    refine lv_bipush (v := (-2)) hx hb dX11_never_15 (by decide) ?_
    exact x_reti S hr hlk hQ hS ((fun i => ([(u_2.1 0), (u_2.1 1), (u_2.1 2), (u_2.1 3), (u_2.1 4), (u_2.1 5)] : List (Int32)).getD i 0), (fun i => ([u_2.2.1 0] : List (Nat)).getD i 0), (fun i => ([(u_2.2.2.1 0), (u_2.2.2.1 1), (u_2.2.2.1 2), (u_2.2.2.1 3), (u_2.2.2.1 4), (u_2.2.2.1 5), (u_2.2.2.1 6)] : List (Nat → Int32)).getD i (fun _ => 0)), (fun i => ([] : List (Nat → Int64)).getD i (fun _ => 0)), (fun i => ([] : List (Int64)).getD i 0)) (show u_2.2.1 0 ≤ 14 by omega) (x_B hP hD) dX11_never_17
  · skip
    refine lv_iload_n hx hb dX11_never_7 rfl (lv_at hl 1 rfl) ?_
    refine lv_i2l (v := p0.toInt64) hx hb dX11_never_8 rfl ?_
    refine x_roSi (As := [.long p0.toInt64]) S hK hP hD hZ (fun _ h => h) hA hS hA hl mwX11_isView lkX11_348 (ctX11_isView l D k z p0.toInt64 ) [] rfl (by decide) rfl rfl ⟨Nat.le_of_ble_eq_true rfl, Nat.le_of_ble_eq_true rfl, Nat.le_of_ble_eq_true rfl⟩ dX11_never_9 ⟨Nat.le_of_ble_eq_true rfl, Nat.le_of_ble_eq_true rfl⟩ (fun r_6 H locs hr_6 hP hS => ?_)
    obtain rfl := hr_6
    refine lv_if_ne (tgt := 18) hx hb dX11_never_12 (by decide) (fun c_8 => ?_) (fun c_8 => ?_)
    · skip
      have c_8 : 1 ≤ p0.toInt64 ∧ p0.toInt64 ≤ 2 := bo_1.mp c_8
      refine lv_iconst (v := 0) hx hb dX11_never_18 (by decide) ?_
      refine lv_istore_n (lv' := [(2, .int 0), (0, .ref (n 0)), (1, .int p0)]) hx hb dX11_never_19 rfl hl (by decide) rfl (fun ls hl => ?_)
      refine lv_iconst (v := 0) hx hb dX11_never_20 (by decide) ?_
      refine lv_istore_n (lv' := [(3, .int 0), (2, .int 0), (0, .ref (n 0)), (1, .int p0)]) hx hb dX11_never_21 rfl hl (by decide) rfl (fun ls hl => ?_)
      have lp_29 : ∀ (nn j_27 : Nat) (x_28 : Int32) (H : Heap) (locs : List Loc) (ls : Array Slot), j_27 ≤ wn fworld 0 + 1 → wn fworld 0 + 1 - j_27 < nn → va_P D vwCl [((n 0), .inr (11, [.int mthrown, .ref (n 1), .ref (n 2), .ref (n 3), .ref (n 4), .int (nI mtaped), .ref (n 5), .int (nI msize), .int (nI mat), .int (nI mfrom), .int mtoken, .int mvalue, .int mfaultKind, .int mfaultPlace, .ref (n 6), .ref (n 7), .ref (n 8), .ref (n 9), .ref (n 10), .ref (n 11), .ref (n 12), .int (nI (u_2.2.1 0)), .int (u_2.1 0), .int (u_2.1 1), .int (u_2.1 2), .ref (n 13), .ref (n 14), .ref (n 15), .int (u_2.1 3), .int (u_2.1 4), .int (u_2.1 5), .ref (n 16), .ref (n 17), .int mroundNow, .ref (n 18), .long msampleFor, .long msampleAll, .ref (n 19), .int maskWorst, .long moftenAll, .long moftenView, .long moftenOnes, .ref (n 20), .ref (n 21), .ref (n 22), .ref (n 23)])), ((n 1), .inl (k 0, 99, .inl fworld)), ((n 7), .inl (k 0, 12, .inl (u_2.2.2.1 4))), ((n 8), .inl (k 0, 12, .inl (u_2.2.2.1 5))), ((n 9), .inl (k 0, 4, .inl (u_2.2.2.1 6))), ((n 10), .inl (k 0, 12, .inl (u_2.2.2.1 0))), ((n 11), .inl (k 0, 14, .inl fmoreHead)), ((n 12), .inl (k 0, 14, .inl fmoreView)), ((n 13), .inl (k 0, 17, .inl (u_2.2.2.1 1))), ((n 14), .inl (k 0, 17, .inl (u_2.2.2.1 2))), ((n 15), .inl (k 0, 17, .inl (u_2.2.2.1 3)))] H → va_D A [((n 0), .inr (11, [.int mthrown, .ref (n 1), .ref (n 2), .ref (n 3), .ref (n 4), .int (nI mtaped), .ref (n 5), .int (nI msize), .int (nI mat), .int (nI mfrom), .int mtoken, .int mvalue, .int mfaultKind, .int mfaultPlace, .ref (n 6), .ref (n 7), .ref (n 8), .ref (n 9), .ref (n 10), .ref (n 11), .ref (n 12), .int (nI (u_2.2.1 0)), .int (u_2.1 0), .int (u_2.1 1), .int (u_2.1 2), .ref (n 13), .ref (n 14), .ref (n 15), .int (u_2.1 3), .int (u_2.1 4), .int (u_2.1 5), .ref (n 16), .ref (n 17), .int mroundNow, .ref (n 18), .long msampleFor, .long msampleAll, .ref (n 19), .int maskWorst, .long moftenAll, .long moftenView, .long moftenOnes, .ref (n 20), .ref (n 21), .ref (n 22), .ref (n 23)])), ((n 1), .inl (k 0, 99, .inl fworld)), ((n 7), .inl (k 0, 12, .inl (u_2.2.2.1 4))), ((n 8), .inl (k 0, 12, .inl (u_2.2.2.1 5))), ((n 9), .inl (k 0, 4, .inl (u_2.2.2.1 6))), ((n 10), .inl (k 0, 12, .inl (u_2.2.2.1 0))), ((n 11), .inl (k 0, 14, .inl fmoreHead)), ((n 12), .inl (k 0, 14, .inl fmoreView)), ((n 13), .inl (k 0, 17, .inl (u_2.2.2.1 1))), ((n 14), .inl (k 0, 17, .inl (u_2.2.2.1 2))), ((n 15), .inl (k 0, 17, .inl (u_2.2.2.1 3)))] → va_S A s.heap H locs → lv_has ls 4 [(3, .int (nI j_27)), (2, .int x_28), (0, .ref (n 0)), (1, .int p0)] → W p l e (Rm 8 0 0) s m args below meth c H locs 0 0 Q (F0 m 22 ls []) := by
        intro nn
        induction nn with
        | zero => intro j_27 x_28 H locs ls hjj_27 hnj_27; exact absurd hnj_27 (by omega)
        | succ nn ihj_27 =>
          intro j_27 x_28 H locs ls hjj_27 hnj_27 hP hD hS hl
          refine lv_iload_n hx hb dX11_never_22 rfl (lv_at hl 0 rfl) ?_
          refine lv_aload_n hx hb dX11_never_23 rfl (lv_at hl 2 rfl) ?_
          refine x_roVi (As := []) S hK hP hD hZ (fun _ h => h) hA hS hA hl mwX11_hours lkX11_103 (ctX11_hours l D k z n mthrown mtaped msize mat mfrom mtoken mvalue mfaultKind mfaultPlace (u_2.2.1 0) (u_2.1 0) (u_2.1 1) (u_2.1 2) (u_2.1 3) (u_2.1 4) (u_2.1 5) mroundNow msampleFor msampleAll maskWorst moftenAll moftenView moftenOnes fworld (by omega) (by omega) (by omega) (by omega) (by omega) (hkworld)) [0, 1] rfl (by decide) rfl rfl rfl rfl rfl ⟨Nat.le_of_ble_eq_true rfl, Nat.le_of_ble_eq_true rfl, Nat.le_of_ble_eq_true rfl⟩ dX11_never_24 ⟨Nat.le_of_ble_eq_true rfl, Nat.le_of_ble_eq_true rfl⟩ (fun r_30 H locs hr_30 hP hS => ?_)
          obtain rfl := hr_30
          refine lv_icmp_gt (tgt := 45) hx hb dX11_never_27 (by decide) (fun c_32 => ?_) (fun c_32 => ?_)
          · skip
            have c_32 : wn fworld 0 < j_27 := (ni_lt rfl rfl (by omega) (by omega)).mp c_32
            refine lv_aload_n hx hb dX11_never_45 rfl (lv_at hl 2 rfl) ?_
            refine x_roVi (As := []) S hK hP hD hZ (fun _ h => h) hA hS hA hl mwX11_allHeads lkX11_321 (ctX11_allHeads l D k z n mthrown mtaped msize mat mfrom mtoken mvalue mfaultKind mfaultPlace (u_2.2.1 0) (u_2.1 0) (u_2.1 1) (u_2.1 2) (u_2.1 3) (u_2.1 4) (u_2.1 5) mroundNow msampleFor msampleAll maskWorst moftenAll moftenView moftenOnes fworld (by omega) (by omega) (by omega) (by omega) (by omega) (hkworld)) [0, 1] rfl (by decide) rfl rfl rfl rfl rfl ⟨Nat.le_of_ble_eq_true rfl, Nat.le_of_ble_eq_true rfl, Nat.le_of_ble_eq_true rfl⟩ dX11_never_46 ⟨Nat.le_of_ble_eq_true rfl, Nat.le_of_ble_eq_true rfl⟩ (fun r_33 H locs hr_33 hP hS => ?_)
            obtain ⟨rfl, hg_35⟩ := hr_33
            refine lv_iload_n hx hb dX11_never_49 rfl (lv_at hl 1 rfl) ?_
            refine lv_iconst (v := (-1)) hx hb dX11_never_50 (by decide) ?_
            refine lv_ixor hx hb dX11_never_51 ?_
            refine lv_topi (fun v_36 ev_36 => ?_)
            refine lv_iand hx hb dX11_never_52 ?_
            refine lv_topi (fun v_37 ev_37 => ?_)
            exact x_reti S hr hlk hQ hS ((fun i => ([(u_2.1 0), (u_2.1 1), (u_2.1 2), (u_2.1 3), (u_2.1 4), (u_2.1 5)] : List (Int32)).getD i 0), (fun i => ([u_2.2.1 0] : List (Nat)).getD i 0), (fun i => ([(u_2.2.2.1 0), (u_2.2.2.1 1), (u_2.2.2.1 2), (u_2.2.2.1 3), (u_2.2.2.1 4), (u_2.2.2.1 5), (u_2.2.2.1 6)] : List (Nat → Int32)).getD i (fun _ => 0)), (fun i => ([] : List (Nat → Int64)).getD i (fun _ => 0)), (fun i => ([] : List (Int64)).getD i 0)) (show u_2.2.1 0 ≤ 14 by omega) (x_B hP hD) dX11_never_53
          · skip
            have c_32 : ¬ wn fworld 0 < j_27 := fun q => c_32 ((ni_lt rfl rfl (by omega) (by omega)).mpr q)
            refine lv_iload_n hx hb dX11_never_30 rfl (lv_at hl 1 rfl) ?_
            refine lv_aload_n hx hb dX11_never_31 rfl (lv_at hl 2 rfl) ?_
            refine lv_iload_n hx hb dX11_never_32 rfl (lv_at hl 3 rfl) ?_
            refine lv_iload_n hx hb dX11_never_33 rfl (lv_at hl 0 rfl) ?_
            refine x_roVi (As := [.int p0, .int (nI j_27)]) S hK hP hD hZ (fun _ h => h) hA hS hA hl mwX11_holdingOf lkX11_327 (ctX11_holdingOf l D k z n mthrown mtaped msize mat mfrom mtoken mvalue mfaultKind mfaultPlace (u_2.2.1 0) (u_2.1 0) (u_2.1 1) (u_2.1 2) (u_2.1 3) (u_2.1 4) (u_2.1 5) mroundNow msampleFor msampleAll maskWorst moftenAll moftenView moftenOnes fworld (u_2.2.2.1 1) (u_2.2.2.1 2) (u_2.2.2.1 3) p0 j_27 (by omega) (by omega) (by omega) (by omega) (by omega) (hkworld) (by omega)) [0, 1, 8, 9, 10] rfl (by decide) rfl rfl rfl rfl rfl ⟨Nat.le_of_ble_eq_true rfl, Nat.le_of_ble_eq_true rfl, Nat.le_of_ble_eq_true rfl⟩ dX11_never_34 ⟨Nat.le_of_ble_eq_true rfl, Nat.le_of_ble_eq_true rfl⟩ (fun r_38 H locs hr_38 hP hS => ?_)
            refine lv_ior hx hb dX11_never_37 ?_
            refine lv_topi (fun v_40 ev_40 => ?_)
            refine lv_istore_n (lv' := [(2, .int v_40), (3, .int (nI j_27)), (0, .ref (n 0)), (1, .int p0)]) hx hb dX11_never_38 rfl hl (by decide) rfl (fun ls hl => ?_)
            refine lv_iinc (v := (nI (j_27 + 1))) (lv' := [(3, .int (nI (j_27 + 1))), (2, .int v_40), (0, .ref (n 0)), (1, .int p0)]) hx hb dX11_never_39 hl (k := 1) rfl (ni_inc _) (by decide) rfl (fun ls hl => ?_)
            refine lv_goto (tgt := 22) hx hb dX11_never_42 (by decide) ?_
            exact ihj_27 (j_27 + 1) v_40 _ _ _ (by omega) (by omega) hP hD hS (lv_sub hl [0, 1, 2, 3] rfl)
      exact lp_29 (wn fworld 0 + 1 + 1) 0 0 _ _ _ (by omega) (by omega) hP hD hS (lv_sub hl [0, 1, 2, 3] rfl)
    · skip
      have c_8 : ¬ (1 ≤ p0.toInt64 ∧ p0.toInt64 ≤ 2) := bo_0.mp c_8
      refine lv_bipush (v := (-2)) hx hb dX11_never_15 (by decide) ?_
      exact x_reti S hr hlk hQ hS ((fun i => ([(u_2.1 0), (u_2.1 1), (u_2.1 2), (u_2.1 3), (u_2.1 4), (u_2.1 5)] : List (Int32)).getD i 0), (fun i => ([u_2.2.1 0] : List (Nat)).getD i 0), (fun i => ([(u_2.2.2.1 0), (u_2.2.2.1 1), (u_2.2.2.1 2), (u_2.2.2.1 3), (u_2.2.2.1 4), (u_2.2.2.1 5), (u_2.2.2.1 6)] : List (Nat → Int32)).getD i (fun _ => 0)), (fun i => ([] : List (Nat → Int64)).getD i (fun _ => 0)), (fun i => ([] : List (Int64)).getD i 0)) (show u_2.2.1 0 ≤ 14 by omega) (x_B hP hD) dX11_never_17

set_option maxHeartbeats 4000000 in
set_option maxRecDepth 100000 in
theorem ctX11_most (l : Launch) (D : va_G) (k : Nat → ClassId) (z : Nat → Nat) (n : Nat → Nat) (mthrown : Int32) (mtaped : Nat) (msize : Nat) (mat : Nat) (mfrom : Nat) (mtoken : Int32) (mvalue : Int32) (mfaultKind : Int32) (mfaultPlace : Int32) (mmoreMany : Nat) (mlawNow : Int32) (mwetSet : Int32) (moverAll : Int32) (mones : Int32) (mtwos : Int32) (mgone : Int32) (mroundNow : Int32) (msampleFor : Int64) (msampleAll : Int64) (maskWorst : Int32) (moftenAll : Int64) (moftenView : Int64) (moftenOnes : Int64) (fworld : Nat → Int32) (frowOf : Nat → Int32) (fplaceOf : Nat → Int32) (ffirstOf : Nat → Int32) (fhardNow : Nat → Int32) (fmoreHead : Nat → Int32) (fmoreView : Nat → Int32) (fonesAt : Nat → Int32) (ftwosAt : Nat → Int32) (fgoneAt : Nat → Int32) (p0 : Int32) (hmtaped : mtaped ≤ 600) (hmsize : msize ≤ 600) (hmat : mat ≤ 600) (hmfrom : mfrom ≤ 600) (hmmoreMany : mmoreMany ≤ 14) (hkworld : okW fworld) : MU l yX11_most cX11_most 4 (some .int) 8 D k z [.ref (n 0), .int p0] [((n 0), .inr (11, [.int mthrown, .ref (n 1), .ref (n 2), .ref (n 3), .ref (n 4), .int (nI mtaped), .ref (n 5), .int (nI msize), .int (nI mat), .int (nI mfrom), .int mtoken, .int mvalue, .int mfaultKind, .int mfaultPlace, .ref (n 6), .ref (n 7), .ref (n 8), .ref (n 9), .ref (n 10), .ref (n 11), .ref (n 12), .int (nI mmoreMany), .int mlawNow, .int mwetSet, .int moverAll, .ref (n 13), .ref (n 14), .ref (n 15), .int mones, .int mtwos, .int mgone, .ref (n 16), .ref (n 17), .int mroundNow, .ref (n 18), .long msampleFor, .long msampleAll, .ref (n 19), .int maskWorst, .long moftenAll, .long moftenView, .long moftenOnes, .ref (n 20), .ref (n 21), .ref (n 22), .ref (n 23)])), ((n 1), .inl (k 0, 99, .inl fworld)), ((n 7), .inl (k 0, 12, .inl frowOf)), ((n 8), .inl (k 0, 12, .inl fplaceOf)), ((n 9), .inl (k 0, 4, .inl ffirstOf)), ((n 10), .inl (k 0, 12, .inl fhardNow)), ((n 11), .inl (k 0, 14, .inl fmoreHead)), ((n 12), .inl (k 0, 14, .inl fmoreView)), ((n 13), .inl (k 0, 17, .inl fonesAt)), ((n 14), .inl (k 0, 17, .inl ftwosAt)), ((n 15), .inl (k 0, 17, .inl fgoneAt))] 0 0 (Ui D (fun (r : Int32) (u : (Nat → Int32) × (Nat → Nat) × (Nat → Nat → Int32) × (Nat → Nat → Int64) × (Nat → Int64)) => (u.2.1 0 ≤ 14)) (fun u : (Nat → Int32) × (Nat → Nat) × (Nat → Nat → Int32) × (Nat → Nat → Int64) × (Nat → Int64) => [((n 0), .inr (11, [.int mthrown, .ref (n 1), .ref (n 2), .ref (n 3), .ref (n 4), .int (nI mtaped), .ref (n 5), .int (nI msize), .int (nI mat), .int (nI mfrom), .int mtoken, .int mvalue, .int mfaultKind, .int mfaultPlace, .ref (n 6), .ref (n 7), .ref (n 8), .ref (n 9), .ref (n 10), .ref (n 11), .ref (n 12), .int (nI (u.2.1 0)), .int (u.1 0), .int (u.1 1), .int (u.1 2), .ref (n 13), .ref (n 14), .ref (n 15), .int (u.1 3), .int (u.1 4), .int (u.1 5), .ref (n 16), .ref (n 17), .int mroundNow, .ref (n 18), .long msampleFor, .long msampleAll, .ref (n 19), .int maskWorst, .long moftenAll, .long moftenView, .long moftenOnes, .ref (n 20), .ref (n 21), .ref (n 22), .ref (n 23)])), ((n 1), .inl (k 0, 99, .inl fworld)), ((n 7), .inl (k 0, 12, .inl (u.2.2.1 4))), ((n 8), .inl (k 0, 12, .inl (u.2.2.1 5))), ((n 9), .inl (k 0, 4, .inl (u.2.2.1 6))), ((n 10), .inl (k 0, 12, .inl (u.2.2.1 0))), ((n 11), .inl (k 0, 14, .inl fmoreHead)), ((n 12), .inl (k 0, 14, .inl fmoreView)), ((n 13), .inl (k 0, 17, .inl (u.2.2.1 1))), ((n 14), .inl (k 0, 17, .inl (u.2.2.1 2))), ((n 15), .inl (k 0, 17, .inl (u.2.2.1 3)))])) := by
  refine MU.of (by decide) (Nat.le_of_ble_eq_true rfl) ?_
  intro p e s m below meth c ls A args Q S hr hlk hnm hQ hK hP hD hZ hA hS hl
  have hx := S.1
  have hb := S.2.1
  have hl : lv_has ls 4 [(0, .ref (n 0)), (1, .int p0)] := hl
  have hbfworld := okW_bd hkworld
  refine lv_aload_n hx hb dX11_most_0 rfl (lv_at hl 0 rfl) ?_
  refine x_muVi (wr := []) (As := []) S hK hP hD hZ hS hA hl mwX11_asksGarden lkX11_315 (ctX11_asksGarden l D k z n mthrown mtaped msize mat mfrom mtoken mvalue mfaultKind mfaultPlace mmoreMany mlawNow mwetSet moverAll mones mtwos mgone mroundNow msampleFor msampleAll maskWorst moftenAll moftenView moftenOnes fworld frowOf fplaceOf ffirstOf fhardNow fmoreHead fmoreView fonesAt ftwosAt fgoneAt (by omega) (by omega) (by omega) (by omega) (by omega) (hkworld)) [0, 1, 2, 3, 4, 5, 6, 7, 8, 9, 10] [] rfl rfl (by decide) (by decide) (by decide) rfl rfl rfl rfl rfl ⟨Nat.le_of_ble_eq_true rfl, Nat.le_of_ble_eq_true rfl, Nat.le_of_ble_eq_true rfl⟩ dX11_most_1 ⟨Nat.le_of_ble_eq_true rfl, Nat.le_of_ble_eq_true rfl⟩ (fun r_1 u_2 H locs hr_1 hP hD hS => ?_)
  have hP : va_P D vwCl [((n 0), .inr (11, [.int mthrown, .ref (n 1), .ref (n 2), .ref (n 3), .ref (n 4), .int (nI mtaped), .ref (n 5), .int (nI msize), .int (nI mat), .int (nI mfrom), .int mtoken, .int mvalue, .int mfaultKind, .int mfaultPlace, .ref (n 6), .ref (n 7), .ref (n 8), .ref (n 9), .ref (n 10), .ref (n 11), .ref (n 12), .int (nI (u_2.2.1 0)), .int (u_2.1 0), .int (u_2.1 1), .int (u_2.1 2), .ref (n 13), .ref (n 14), .ref (n 15), .int (u_2.1 3), .int (u_2.1 4), .int (u_2.1 5), .ref (n 16), .ref (n 17), .int mroundNow, .ref (n 18), .long msampleFor, .long msampleAll, .ref (n 19), .int maskWorst, .long moftenAll, .long moftenView, .long moftenOnes, .ref (n 20), .ref (n 21), .ref (n 22), .ref (n 23)])), ((n 1), .inl (k 0, 99, .inl fworld)), ((n 7), .inl (k 0, 12, .inl (u_2.2.2.1 4))), ((n 8), .inl (k 0, 12, .inl (u_2.2.2.1 5))), ((n 9), .inl (k 0, 4, .inl (u_2.2.2.1 6))), ((n 10), .inl (k 0, 12, .inl (u_2.2.2.1 0))), ((n 11), .inl (k 0, 14, .inl fmoreHead)), ((n 12), .inl (k 0, 14, .inl fmoreView)), ((n 13), .inl (k 0, 17, .inl (u_2.2.2.1 1))), ((n 14), .inl (k 0, 17, .inl (u_2.2.2.1 2))), ((n 15), .inl (k 0, 17, .inl (u_2.2.2.1 3)))] H := hP.sub [0, 1, 2, 3, 4, 5, 6, 7, 8, 9, 10] rfl
  have hD : va_D A [((n 0), .inr (11, [.int mthrown, .ref (n 1), .ref (n 2), .ref (n 3), .ref (n 4), .int (nI mtaped), .ref (n 5), .int (nI msize), .int (nI mat), .int (nI mfrom), .int mtoken, .int mvalue, .int mfaultKind, .int mfaultPlace, .ref (n 6), .ref (n 7), .ref (n 8), .ref (n 9), .ref (n 10), .ref (n 11), .ref (n 12), .int (nI (u_2.2.1 0)), .int (u_2.1 0), .int (u_2.1 1), .int (u_2.1 2), .ref (n 13), .ref (n 14), .ref (n 15), .int (u_2.1 3), .int (u_2.1 4), .int (u_2.1 5), .ref (n 16), .ref (n 17), .int mroundNow, .ref (n 18), .long msampleFor, .long msampleAll, .ref (n 19), .int maskWorst, .long moftenAll, .long moftenView, .long moftenOnes, .ref (n 20), .ref (n 21), .ref (n 22), .ref (n 23)])), ((n 1), .inl (k 0, 99, .inl fworld)), ((n 7), .inl (k 0, 12, .inl (u_2.2.2.1 4))), ((n 8), .inl (k 0, 12, .inl (u_2.2.2.1 5))), ((n 9), .inl (k 0, 4, .inl (u_2.2.2.1 6))), ((n 10), .inl (k 0, 12, .inl (u_2.2.2.1 0))), ((n 11), .inl (k 0, 14, .inl fmoreHead)), ((n 12), .inl (k 0, 14, .inl fmoreView)), ((n 13), .inl (k 0, 17, .inl (u_2.2.2.1 1))), ((n 14), .inl (k 0, 17, .inl (u_2.2.2.1 2))), ((n 15), .inl (k 0, 17, .inl (u_2.2.2.1 3)))] := hD.sub [0, 1, 2, 3, 4, 5, 6, 7, 8, 9, 10] (by decide) rfl
  obtain ⟨hz_3, hg_4⟩ := hr_1
  refine lv_if_eq (tgt := 15) hx hb dX11_most_4 (by decide) (fun c_5 => ?_) (fun c_5 => ?_)
  · skip
    refine lv_bipush (v := (-2)) hx hb dX11_most_15 (by decide) ?_
    exact x_reti S hr hlk hQ hS ((fun i => ([(u_2.1 0), (u_2.1 1), (u_2.1 2), (u_2.1 3), (u_2.1 4), (u_2.1 5)] : List (Int32)).getD i 0), (fun i => ([u_2.2.1 0] : List (Nat)).getD i 0), (fun i => ([(u_2.2.2.1 0), (u_2.2.2.1 1), (u_2.2.2.1 2), (u_2.2.2.1 3), (u_2.2.2.1 4), (u_2.2.2.1 5), (u_2.2.2.1 6)] : List (Nat → Int32)).getD i (fun _ => 0)), (fun i => ([] : List (Nat → Int64)).getD i (fun _ => 0)), (fun i => ([] : List (Int64)).getD i 0)) (show u_2.2.1 0 ≤ 14 by omega) (x_B hP hD) dX11_most_17
  · skip
    refine lv_iload_n hx hb dX11_most_7 rfl (lv_at hl 1 rfl) ?_
    refine lv_i2l (v := p0.toInt64) hx hb dX11_most_8 rfl ?_
    refine x_roSi (As := [.long p0.toInt64]) S hK hP hD hZ (fun _ h => h) hA hS hA hl mwX11_isView lkX11_348 (ctX11_isView l D k z p0.toInt64 ) [] rfl (by decide) rfl rfl ⟨Nat.le_of_ble_eq_true rfl, Nat.le_of_ble_eq_true rfl, Nat.le_of_ble_eq_true rfl⟩ dX11_most_9 ⟨Nat.le_of_ble_eq_true rfl, Nat.le_of_ble_eq_true rfl⟩ (fun r_6 H locs hr_6 hP hS => ?_)
    obtain rfl := hr_6
    refine lv_if_ne (tgt := 18) hx hb dX11_most_12 (by decide) (fun c_8 => ?_) (fun c_8 => ?_)
    · skip
      have c_8 : 1 ≤ p0.toInt64 ∧ p0.toInt64 ≤ 2 := bo_1.mp c_8
      refine lv_iconst (v := 0) hx hb dX11_most_18 (by decide) ?_
      refine lv_istore_n (lv' := [(2, .int 0), (0, .ref (n 0)), (1, .int p0)]) hx hb dX11_most_19 rfl hl (by decide) rfl (fun ls hl => ?_)
      refine lv_iconst (v := 1) hx hb dX11_most_20 (by decide) ?_
      refine lv_istore_n (lv' := [(3, .int 1), (2, .int 0), (0, .ref (n 0)), (1, .int p0)]) hx hb dX11_most_21 rfl hl (by decide) rfl (fun ls hl => ?_)
      have lp_45 : ∀ (nn j_43 : Nat) (m_44 : Nat) (H : Heap) (locs : List Loc) (ls : Array Slot), j_43 ≤ wn fworld 0 + 1 → wn fworld 0 + 1 - j_43 < nn → m_44 ≤ 16 → va_P D vwCl [((n 0), .inr (11, [.int mthrown, .ref (n 1), .ref (n 2), .ref (n 3), .ref (n 4), .int (nI mtaped), .ref (n 5), .int (nI msize), .int (nI mat), .int (nI mfrom), .int mtoken, .int mvalue, .int mfaultKind, .int mfaultPlace, .ref (n 6), .ref (n 7), .ref (n 8), .ref (n 9), .ref (n 10), .ref (n 11), .ref (n 12), .int (nI (u_2.2.1 0)), .int (u_2.1 0), .int (u_2.1 1), .int (u_2.1 2), .ref (n 13), .ref (n 14), .ref (n 15), .int (u_2.1 3), .int (u_2.1 4), .int (u_2.1 5), .ref (n 16), .ref (n 17), .int mroundNow, .ref (n 18), .long msampleFor, .long msampleAll, .ref (n 19), .int maskWorst, .long moftenAll, .long moftenView, .long moftenOnes, .ref (n 20), .ref (n 21), .ref (n 22), .ref (n 23)])), ((n 1), .inl (k 0, 99, .inl fworld)), ((n 7), .inl (k 0, 12, .inl (u_2.2.2.1 4))), ((n 8), .inl (k 0, 12, .inl (u_2.2.2.1 5))), ((n 9), .inl (k 0, 4, .inl (u_2.2.2.1 6))), ((n 10), .inl (k 0, 12, .inl (u_2.2.2.1 0))), ((n 11), .inl (k 0, 14, .inl fmoreHead)), ((n 12), .inl (k 0, 14, .inl fmoreView)), ((n 13), .inl (k 0, 17, .inl (u_2.2.2.1 1))), ((n 14), .inl (k 0, 17, .inl (u_2.2.2.1 2))), ((n 15), .inl (k 0, 17, .inl (u_2.2.2.1 3)))] H → va_D A [((n 0), .inr (11, [.int mthrown, .ref (n 1), .ref (n 2), .ref (n 3), .ref (n 4), .int (nI mtaped), .ref (n 5), .int (nI msize), .int (nI mat), .int (nI mfrom), .int mtoken, .int mvalue, .int mfaultKind, .int mfaultPlace, .ref (n 6), .ref (n 7), .ref (n 8), .ref (n 9), .ref (n 10), .ref (n 11), .ref (n 12), .int (nI (u_2.2.1 0)), .int (u_2.1 0), .int (u_2.1 1), .int (u_2.1 2), .ref (n 13), .ref (n 14), .ref (n 15), .int (u_2.1 3), .int (u_2.1 4), .int (u_2.1 5), .ref (n 16), .ref (n 17), .int mroundNow, .ref (n 18), .long msampleFor, .long msampleAll, .ref (n 19), .int maskWorst, .long moftenAll, .long moftenView, .long moftenOnes, .ref (n 20), .ref (n 21), .ref (n 22), .ref (n 23)])), ((n 1), .inl (k 0, 99, .inl fworld)), ((n 7), .inl (k 0, 12, .inl (u_2.2.2.1 4))), ((n 8), .inl (k 0, 12, .inl (u_2.2.2.1 5))), ((n 9), .inl (k 0, 4, .inl (u_2.2.2.1 6))), ((n 10), .inl (k 0, 12, .inl (u_2.2.2.1 0))), ((n 11), .inl (k 0, 14, .inl fmoreHead)), ((n 12), .inl (k 0, 14, .inl fmoreView)), ((n 13), .inl (k 0, 17, .inl (u_2.2.2.1 1))), ((n 14), .inl (k 0, 17, .inl (u_2.2.2.1 2))), ((n 15), .inl (k 0, 17, .inl (u_2.2.2.1 3)))] → va_S A s.heap H locs → lv_has ls 4 [(3, .int (nI j_43)), (2, .int (nI m_44)), (0, .ref (n 0)), (1, .int p0)] → W p l e (Rm 8 0 0) s m args below meth c H locs 0 0 Q (F0 m 22 ls []) := by
        intro nn
        induction nn with
        | zero => intro j_43 m_44 H locs ls hjj_43 hnj_43 hbm_44; exact absurd hnj_43 (by omega)
        | succ nn ihj_43 =>
          intro j_43 m_44 H locs ls hjj_43 hnj_43 hbm_44 hP hD hS hl
          refine lv_iload_n hx hb dX11_most_22 rfl (lv_at hl 0 rfl) ?_
          refine lv_aload_n hx hb dX11_most_23 rfl (lv_at hl 2 rfl) ?_
          refine x_roVi (As := []) S hK hP hD hZ (fun _ h => h) hA hS hA hl mwX11_hours lkX11_103 (ctX11_hours l D k z n mthrown mtaped msize mat mfrom mtoken mvalue mfaultKind mfaultPlace (u_2.2.1 0) (u_2.1 0) (u_2.1 1) (u_2.1 2) (u_2.1 3) (u_2.1 4) (u_2.1 5) mroundNow msampleFor msampleAll maskWorst moftenAll moftenView moftenOnes fworld (by omega) (by omega) (by omega) (by omega) (by omega) (hkworld)) [0, 1] rfl (by decide) rfl rfl rfl rfl rfl ⟨Nat.le_of_ble_eq_true rfl, Nat.le_of_ble_eq_true rfl, Nat.le_of_ble_eq_true rfl⟩ dX11_most_24 ⟨Nat.le_of_ble_eq_true rfl, Nat.le_of_ble_eq_true rfl⟩ (fun r_46 H locs hr_46 hP hS => ?_)
          obtain rfl := hr_46
          refine lv_icmp_gt (tgt := 63) hx hb dX11_most_27 (by decide) (fun c_48 => ?_) (fun c_48 => ?_)
          · skip
            have c_48 : wn fworld 0 < j_43 := (ni_lt rfl rfl (by omega) (by omega)).mp c_48
            refine lv_iload_n hx hb dX11_most_63 rfl (lv_at hl 1 rfl) ?_
            exact x_reti S hr hlk hQ hS ((fun i => ([(u_2.1 0), (u_2.1 1), (u_2.1 2), (u_2.1 3), (u_2.1 4), (u_2.1 5)] : List (Int32)).getD i 0), (fun i => ([u_2.2.1 0] : List (Nat)).getD i 0), (fun i => ([(u_2.2.2.1 0), (u_2.2.2.1 1), (u_2.2.2.1 2), (u_2.2.2.1 3), (u_2.2.2.1 4), (u_2.2.2.1 5), (u_2.2.2.1 6)] : List (Nat → Int32)).getD i (fun _ => 0)), (fun i => ([] : List (Nat → Int64)).getD i (fun _ => 0)), (fun i => ([] : List (Int64)).getD i 0)) (show u_2.2.1 0 ≤ 14 by omega) (x_B hP hD) dX11_most_64
          · skip
            have c_48 : ¬ wn fworld 0 < j_43 := fun q => c_48 ((ni_lt rfl rfl (by omega) (by omega)).mpr q)
            refine lv_aload_n hx hb dX11_most_30 rfl (lv_at hl 2 rfl) ?_
            refine lv_iload_n hx hb dX11_most_31 rfl (lv_at hl 3 rfl) ?_
            refine lv_iload_n hx hb dX11_most_32 rfl (lv_at hl 0 rfl) ?_
            refine x_roVi (As := [.int p0, .int (nI j_43)]) S hK hP hD hZ (fun _ h => h) hA hS hA hl mwX11_holdingOf lkX11_327 (ctX11_holdingOf l D k z n mthrown mtaped msize mat mfrom mtoken mvalue mfaultKind mfaultPlace (u_2.2.1 0) (u_2.1 0) (u_2.1 1) (u_2.1 2) (u_2.1 3) (u_2.1 4) (u_2.1 5) mroundNow msampleFor msampleAll maskWorst moftenAll moftenView moftenOnes fworld (u_2.2.2.1 1) (u_2.2.2.1 2) (u_2.2.2.1 3) p0 j_43 (by omega) (by omega) (by omega) (by omega) (by omega) (hkworld) (by omega)) [0, 1, 8, 9, 10] rfl (by decide) rfl rfl rfl rfl rfl ⟨Nat.le_of_ble_eq_true rfl, Nat.le_of_ble_eq_true rfl, Nat.le_of_ble_eq_true rfl⟩ dX11_most_33 ⟨Nat.le_of_ble_eq_true rfl, Nat.le_of_ble_eq_true rfl⟩ (fun r_49 H locs hr_49 hP hS => ?_)
            refine x_roSi (As := [.int r_49]) S hK hP hD hZ (fun _ h => h) hA hS hA hl mwX11_bits lkX11_296 (ctX11_bits l D k z r_49 ) [] rfl (by decide) rfl rfl ⟨Nat.le_of_ble_eq_true rfl, Nat.le_of_ble_eq_true rfl, Nat.le_of_ble_eq_true rfl⟩ dX11_most_36 ⟨Nat.le_of_ble_eq_true rfl, Nat.le_of_ble_eq_true rfl⟩ (fun r_51 H locs hr_51 hP hS => ?_)
            obtain ⟨rfl, hg_53⟩ := hr_51
            refine lv_aload_n hx hb dX11_most_39 rfl (lv_at hl 2 rfl) ?_
            refine lv_iload_n hx hb dX11_most_40 rfl (lv_at hl 3 rfl) ?_
            refine lv_iload_n hx hb dX11_most_41 rfl (lv_at hl 1 rfl) ?_
            refine x_roVi (As := [.int p0, .int (nI m_44)]) S hK hP hD hZ (fun _ h => h) hA hS hA hl mwX11_holdingOf lkX11_327 (ctX11_holdingOf l D k z n mthrown mtaped msize mat mfrom mtoken mvalue mfaultKind mfaultPlace (u_2.2.1 0) (u_2.1 0) (u_2.1 1) (u_2.1 2) (u_2.1 3) (u_2.1 4) (u_2.1 5) mroundNow msampleFor msampleAll maskWorst moftenAll moftenView moftenOnes fworld (u_2.2.2.1 1) (u_2.2.2.1 2) (u_2.2.2.1 3) p0 m_44 (by omega) (by omega) (by omega) (by omega) (by omega) (hkworld) (by omega)) [0, 1, 8, 9, 10] rfl (by decide) rfl rfl rfl rfl rfl ⟨Nat.le_of_ble_eq_true rfl, Nat.le_of_ble_eq_true rfl, Nat.le_of_ble_eq_true rfl⟩ dX11_most_42 ⟨Nat.le_of_ble_eq_true rfl, Nat.le_of_ble_eq_true rfl⟩ (fun r_54 H locs hr_54 hP hS => ?_)
            refine x_roSi (As := [.int r_54]) S hK hP hD hZ (fun _ h => h) hA hS hA hl mwX11_bits lkX11_296 (ctX11_bits l D k z r_54 ) [] rfl (by decide) rfl rfl ⟨Nat.le_of_ble_eq_true rfl, Nat.le_of_ble_eq_true rfl, Nat.le_of_ble_eq_true rfl⟩ dX11_most_45 ⟨Nat.le_of_ble_eq_true rfl, Nat.le_of_ble_eq_true rfl⟩ (fun r_56 H locs hr_56 hP hS => ?_)
            obtain ⟨rfl, hg_58⟩ := hr_56
            refine lv_icmp_le (tgt := 55) hx hb dX11_most_48 (by decide) (fun c_59 => ?_) (fun c_59 => ?_)
            · skip
              have c_59 : pcn r_49 16 ≤ pcn r_54 16 := (ni_le rfl rfl (by omega) (by omega)).mp c_59
              refine lv_iload_n hx hb dX11_most_55 rfl (lv_at hl 1 rfl) ?_
              refine lv_istore_n (lv' := [(2, .int (nI m_44)), (3, .int (nI j_43)), (0, .ref (n 0)), (1, .int p0)]) hx hb dX11_most_56 rfl hl (by decide) rfl (fun ls hl => ?_)
              refine lv_iinc (v := (nI (j_43 + 1))) (lv' := [(3, .int (nI (j_43 + 1))), (2, .int (nI m_44)), (0, .ref (n 0)), (1, .int p0)]) hx hb dX11_most_57 hl (k := 1) rfl (ni_inc _) (by decide) rfl (fun ls hl => ?_)
              refine lv_goto (tgt := 22) hx hb dX11_most_60 (by decide) ?_
              exact ihj_43 (j_43 + 1) m_44 _ _ _ (by omega) (by omega) (by omega) hP hD hS (lv_sub hl [0, 1, 2, 3] rfl)
            · skip
              have c_59 : ¬ pcn r_49 16 ≤ pcn r_54 16 := fun q => c_59 ((ni_le rfl rfl (by omega) (by omega)).mpr q)
              refine lv_iload_n hx hb dX11_most_51 rfl (lv_at hl 0 rfl) ?_
              refine lv_goto (tgt := 56) hx hb dX11_most_52 (by decide) ?_
              refine lv_istore_n (lv' := [(2, .int (nI j_43)), (3, .int (nI j_43)), (0, .ref (n 0)), (1, .int p0)]) hx hb dX11_most_56 rfl hl (by decide) rfl (fun ls hl => ?_)
              refine lv_iinc (v := (nI (j_43 + 1))) (lv' := [(3, .int (nI (j_43 + 1))), (2, .int (nI j_43)), (0, .ref (n 0)), (1, .int p0)]) hx hb dX11_most_57 hl (k := 1) rfl (ni_inc _) (by decide) rfl (fun ls hl => ?_)
              refine lv_goto (tgt := 22) hx hb dX11_most_60 (by decide) ?_
              exact ihj_43 (j_43 + 1) j_43 _ _ _ (by omega) (by omega) (by omega) hP hD hS (lv_sub hl [0, 1, 2, 3] rfl)
      exact lp_45 (wn fworld 0 + 1 + 1) 1 0 _ _ _ (by omega) (by omega) (by omega) hP hD hS (lv_sub hl [0, 1, 2, 3] rfl)
    · skip
      have c_8 : ¬ (1 ≤ p0.toInt64 ∧ p0.toInt64 ≤ 2) := bo_0.mp c_8
      refine lv_bipush (v := (-2)) hx hb dX11_most_15 (by decide) ?_
      exact x_reti S hr hlk hQ hS ((fun i => ([(u_2.1 0), (u_2.1 1), (u_2.1 2), (u_2.1 3), (u_2.1 4), (u_2.1 5)] : List (Int32)).getD i 0), (fun i => ([u_2.2.1 0] : List (Nat)).getD i 0), (fun i => ([(u_2.2.2.1 0), (u_2.2.2.1 1), (u_2.2.2.1 2), (u_2.2.2.1 3), (u_2.2.2.1 4), (u_2.2.2.1 5), (u_2.2.2.1 6)] : List (Nat → Int32)).getD i (fun _ => 0)), (fun i => ([] : List (Nat → Int64)).getD i (fun _ => 0)), (fun i => ([] : List (Int64)).getD i 0)) (show u_2.2.1 0 ≤ 14 by omega) (x_B hP hD) dX11_most_17

