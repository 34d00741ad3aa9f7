theorem dX10_feed_0 : decode cX10_feed 0 = .ok (.aload_n 0, 1) := by decide +kernel
theorem dX10_feed_1 : decode cX10_feed 1 = .ok (.getfield 10, 3) := by decide +kernel
theorem dX10_feed_4 : decode cX10_feed 4 = .ok (.invokevirtual 106, 3) := by decide +kernel
theorem dX10_feed_7 : decode cX10_feed 7 = .ok (.ifCond .ne 5, 3) := by decide +kernel
theorem dX10_feed_10 : decode cX10_feed 10 = .ok (.iconst (-1), 1) := by decide +kernel
theorem dX10_feed_11 : decode cX10_feed 11 = .ok (.ireturn, 1) := by decide +kernel
theorem dX10_feed_12 : decode cX10_feed 12 = .ok (.aload_n 0, 1) := by decide +kernel
theorem dX10_feed_13 : decode cX10_feed 13 = .ok (.getfield 10, 3) := by decide +kernel
theorem dX10_feed_16 : decode cX10_feed 16 = .ok (.iload_n 1, 1) := by decide +kernel
theorem dX10_feed_17 : decode cX10_feed 17 = .ok (.invokevirtual 110, 3) := by decide +kernel
theorem dX10_feed_20 : decode cX10_feed 20 = .ok (.aload_n 0, 1) := by decide +kernel
theorem dX10_feed_21 : decode cX10_feed 21 = .ok (.getfield 10, 3) := by decide +kernel
theorem dX10_feed_24 : decode cX10_feed 24 = .ok (.iload_n 2, 1) := by decide +kernel
theorem dX10_feed_25 : decode cX10_feed 25 = .ok (.invokevirtual 110, 3) := by decide +kernel
theorem dX10_feed_28 : decode cX10_feed 28 = .ok (.aload_n 0, 1) := by decide +kernel
theorem dX10_feed_29 : decode cX10_feed 29 = .ok (.getfield 10, 3) := by decide +kernel
theorem dX10_feed_32 : decode cX10_feed 32 = .ok (.iload_n 3, 1) := by decide +kernel
theorem dX10_feed_33 : decode cX10_feed 33 = .ok (.invokevirtual 110, 3) := by decide +kernel
theorem dX10_feed_36 : decode cX10_feed 36 = .ok (.aload_n 0, 1) := by decide +kernel
theorem dX10_feed_37 : decode cX10_feed 37 = .ok (.getfield 10, 3) := by decide +kernel
theorem dX10_feed_40 : decode cX10_feed 40 = .ok (.iload 4, 2) := by decide +kernel
theorem dX10_feed_42 : decode cX10_feed 42 = .ok (.invokevirtual 110, 3) := by decide +kernel
theorem dX10_feed_45 : decode cX10_feed 45 = .ok (.aload_n 0, 1) := by decide +kernel
theorem dX10_feed_46 : decode cX10_feed 46 = .ok (.getfield 10, 3) := by decide +kernel
theorem dX10_feed_49 : decode cX10_feed 49 = .ok (.iload 5, 2) := by decide +kernel
theorem dX10_feed_51 : decode cX10_feed 51 = .ok (.invokevirtual 110, 3) := by decide +kernel
theorem dX10_feed_54 : decode cX10_feed 54 = .ok (.aload_n 0, 1) := by decide +kernel
theorem dX10_feed_55 : decode cX10_feed 55 = .ok (.getfield 10, 3) := by decide +kernel
theorem dX10_feed_58 : decode cX10_feed 58 = .ok (.getfield 114, 3) := by decide +kernel
theorem dX10_feed_61 : decode cX10_feed 61 = .ok (.ireturn, 1) := by decide +kernel
theorem dX10_end_0 : decode cX10_end 0 = .ok (.iload_n 1, 1) := by decide +kernel
theorem dX10_end_1 : decode cX10_end 1 = .ok (.ifCond .lt 14, 3) := by decide +kernel
theorem dX10_end_4 : decode cX10_end 4 = .ok (.iload_n 1, 1) := by decide +kernel
theorem dX10_end_5 : decode cX10_end 5 = .ok (.aload_n 0, 1) := by decide +kernel
theorem dX10_end_6 : decode cX10_end 6 = .ok (.getfield 10, 3) := by decide +kernel
theorem dX10_end_9 : decode cX10_end 9 = .ok (.getfield 114, 3) := by decide +kernel
theorem dX10_end_12 : decode cX10_end 12 = .ok (.if_icmp .le 5, 3) := by decide +kernel
theorem dX10_end_15 : decode cX10_end 15 = .ok (.iconst (-1), 1) := by decide +kernel
theorem dX10_end_16 : decode cX10_end 16 = .ok (.ireturn, 1) := by decide +kernel
theorem dX10_end_17 : decode cX10_end 17 = .ok (.aload_n 0, 1) := by decide +kernel
theorem dX10_end_18 : decode cX10_end 18 = .ok (.getfield 10, 3) := by decide +kernel
theorem dX10_end_21 : decode cX10_end 21 = .ok (.iload_n 1, 1) := by decide +kernel
theorem dX10_end_22 : decode cX10_end 22 = .ok (.putfield 114, 3) := by decide +kernel
theorem dX10_end_25 : decode cX10_end 25 = .ok (.iload_n 1, 1) := by decide +kernel
theorem dX10_end_26 : decode cX10_end 26 = .ok (.ireturn, 1) := by decide +kernel
theorem dX10_garden_0 : decode cX10_garden 0 = .ok (.aload_n 0, 1) := by decide +kernel
theorem dX10_garden_1 : decode cX10_garden 1 = .ok (.getfield 10, 3) := by decide +kernel
theorem dX10_garden_4 : decode cX10_garden 4 = .ok (.aload_n 0, 1) := by decide +kernel
theorem dX10_garden_5 : decode cX10_garden 5 = .ok (.getfield 19, 3) := by decide +kernel
theorem dX10_garden_8 : decode cX10_garden 8 = .ok (.invokevirtual 118, 3) := by decide +kernel
theorem dX10_garden_11 : decode cX10_garden 11 = .ok (.ifCond .ne 6, 3) := by decide +kernel
theorem dX10_garden_14 : decode cX10_garden 14 = .ok (.bipush (-4), 2) := by decide +kernel
theorem dX10_garden_16 : decode cX10_garden 16 = .ok (.ireturn, 1) := by decide +kernel
theorem dX10_garden_17 : decode cX10_garden 17 = .ok (.aload_n 0, 1) := by decide +kernel
theorem dX10_garden_18 : decode cX10_garden 18 = .ok (.getfield 10, 3) := by decide +kernel
theorem dX10_garden_21 : decode cX10_garden 21 = .ok (.iconst 0, 1) := by decide +kernel
theorem dX10_garden_22 : decode cX10_garden 22 = .ok (.putfield 114, 3) := by decide +kernel
theorem dX10_garden_25 : decode cX10_garden 25 = .ok (.aload_n 0, 1) := by decide +kernel
theorem dX10_garden_26 : decode cX10_garden 26 = .ok (.getfield 23, 3) := by decide +kernel
theorem dX10_garden_29 : decode cX10_garden 29 = .ok (.aload_n 0, 1) := by decide +kernel
theorem dX10_garden_30 : decode cX10_garden 30 = .ok (.getfield 19, 3) := by decide +kernel
theorem dX10_garden_33 : decode cX10_garden 33 = .ok (.invokevirtual 122, 3) := by decide +kernel
theorem dX10_garden_36 : decode cX10_garden 36 = .ok (.aload_n 0, 1) := by decide +kernel
theorem dX10_garden_37 : decode cX10_garden 37 = .ok (.invokevirtual 103, 3) := by decide +kernel
theorem dX10_garden_40 : decode cX10_garden 40 = .ok (.aload_n 0, 1) := by decide +kernel
theorem dX10_garden_41 : decode cX10_garden 41 = .ok (.getfield 23, 3) := by decide +kernel
theorem dX10_garden_44 : decode cX10_garden 44 = .ok (.getfield 126, 3) := by decide +kernel
theorem dX10_garden_47 : decode cX10_garden 47 = .ok (.ireturn, 1) := by decide +kernel
theorem dX10_fault_0 : decode cX10_fault 0 = .ok (.iload_n 1, 1) := by decide +kernel
theorem dX10_fault_1 : decode cX10_fault 1 = .ok (.ifCond .ne 11, 3) := by decide +kernel
theorem dX10_fault_4 : decode cX10_fault 4 = .ok (.aload_n 0, 1) := by decide +kernel
theorem dX10_fault_5 : decode cX10_fault 5 = .ok (.getfield 10, 3) := by decide +kernel
theorem dX10_fault_8 : decode cX10_fault 8 = .ok (.getfield 129, 3) := by decide +kernel
theorem dX10_fault_11 : decode cX10_fault 11 = .ok (.ireturn, 1) := by decide +kernel
theorem dX10_fault_12 : decode cX10_fault 12 = .ok (.iload_n 1, 1) := by decide +kernel
theorem dX10_fault_13 : decode cX10_fault 13 = .ok (.iconst 1, 1) := by decide +kernel
theorem dX10_fault_14 : decode cX10_fault 14 = .ok (.if_icmp .ne 13, 3) := by decide +kernel
theorem dX10_fault_17 : decode cX10_fault 17 = .ok (.aload_n 0, 1) := by decide +kernel
theorem dX10_fault_18 : decode cX10_fault 18 = .ok (.getfield 10, 3) := by decide +kernel
theorem dX10_fault_21 : decode cX10_fault 21 = .ok (.getfield 132, 3) := by decide +kernel
theorem dX10_fault_24 : decode cX10_fault 24 = .ok (.goto 4, 3) := by decide +kernel
theorem dX10_fault_27 : decode cX10_fault 27 = .ok (.iconst (-1), 1) := by decide +kernel
theorem dX10_fault_28 : decode cX10_fault 28 = .ok (.ireturn, 1) := by decide +kernel
theorem dX10_head_0 : decode cX10_head 0 = .ok (.aload_n 0, 1) := by decide +kernel
theorem dX10_head_1 : decode cX10_head 1 = .ok (.iload_n 1, 1) := by decide +kernel
theorem dX10_head_2 : decode cX10_head 2 = .ok (.invokevirtual 135, 3) := by decide +kernel
theorem dX10_head_5 : decode cX10_head 5 = .ok (.ifCond .ne 6, 3) := by decide +kernel
theorem dX10_head_8 : decode cX10_head 8 = .ok (.bipush (-2), 2) := by decide +kernel
theorem dX10_head_10 : decode cX10_head 10 = .ok (.ireturn, 1) := by decide +kernel
theorem dX10_head_11 : decode cX10_head 11 = .ok (.iload_n 2, 1) := by decide +kernel
theorem dX10_head_12 : decode cX10_head 12 = .ok (.tableswitch 72 0 3 #[32, 42, 52, 62], 32) := by decide +kernel
theorem dX10_head_44 : decode cX10_head 44 = .ok (.aload_n 0, 1) := by decide +kernel
theorem dX10_head_45 : decode cX10_head 45 = .ok (.getfield 23, 3) := by decide +kernel
theorem dX10_head_48 : decode cX10_head 48 = .ok (.getfield 139, 3) := by decide +kernel
theorem dX10_head_51 : decode cX10_head 51 = .ok (.iload_n 1, 1) := by decide +kernel
theorem dX10_head_52 : decode cX10_head 52 = .ok (.iaload, 1) := by decide +kernel
theorem dX10_head_53 : decode cX10_head 53 = .ok (.ireturn, 1) := by decide +kernel
theorem dX10_head_54 : decode cX10_head 54 = .ok (.aload_n 0, 1) := by decide +kernel
theorem dX10_head_55 : decode cX10_head 55 = .ok (.getfield 23, 3) := by decide +kernel
theorem dX10_head_58 : decode cX10_head 58 = .ok (.getfield 143, 3) := by decide +kernel
theorem dX10_head_61 : decode cX10_head 61 = .ok (.iload_n 1, 1) := by decide +kernel
theorem dX10_head_62 : decode cX10_head 62 = .ok (.iaload, 1) := by decide +kernel
theorem dX10_head_63 : decode cX10_head 63 = .ok (.ireturn, 1) := by decide +kernel
theorem dX10_head_64 : decode cX10_head 64 = .ok (.aload_n 0, 1) := by decide +kernel
theorem dX10_head_65 : decode cX10_head 65 = .ok (.getfield 23, 3) := by decide +kernel
theorem dX10_head_68 : decode cX10_head 68 = .ok (.getfield 146, 3) := by decide +kernel
theorem dX10_head_71 : decode cX10_head 71 = .ok (.iload_n 1, 1) := by decide +kernel
theorem dX10_head_72 : decode cX10_head 72 = .ok (.iaload, 1) := by decide +kernel
theorem dX10_head_73 : decode cX10_head 73 = .ok (.ireturn, 1) := by decide +kernel
theorem dX10_head_74 : decode cX10_head 74 = .ok (.aload_n 0, 1) := by decide +kernel
theorem dX10_head_75 : decode cX10_head 75 = .ok (.getfield 23, 3) := by decide +kernel
theorem dX10_head_78 : decode cX10_head 78 = .ok (.getfield 149, 3) := by decide +kernel
theorem dX10_head_81 : decode cX10_head 81 = .ok (.iload_n 1, 1) := by decide +kernel
theorem dX10_head_82 : decode cX10_head 82 = .ok (.iaload, 1) := by decide +kernel
theorem dX10_head_83 : decode cX10_head 83 = .ok (.ireturn, 1) := by decide +kernel
theorem dX10_head_84 : decode cX10_head 84 = .ok (.bipush (-2), 2) := by decide +kernel
theorem dX10_head_86 : decode cX10_head 86 = .ok (.ireturn, 1) := by decide +kernel
theorem dX10_near_0 : decode cX10_near 0 = .ok (.aload_n 0, 1) := by decide +kernel
theorem dX10_near_1 : decode cX10_near 1 = .ok (.iload_n 1, 1) := by decide +kernel
theorem dX10_near_2 : decode cX10_near 2 = .ok (.invokevirtual 135, 3) := by decide +kernel
theorem dX10_near_5 : decode cX10_near 5 = .ok (.ifCond .eq 15, 3) := by decide +kernel
theorem dX10_near_8 : decode cX10_near 8 = .ok (.aload_n 0, 1) := by decide +kernel
theorem dX10_near_9 : decode cX10_near 9 = .ok (.getfield 23, 3) := by decide +kernel
theorem dX10_near_12 : decode cX10_near 12 = .ok (.getfield 152, 3) := by decide +kernel
theorem dX10_near_15 : decode cX10_near 15 = .ok (.iload_n 1, 1) := by decide +kernel
theorem dX10_near_16 : decode cX10_near 16 = .ok (.iaload, 1) := by decide +kernel
theorem dX10_near_17 : decode cX10_near 17 = .ok (.goto 5, 3) := by decide +kernel
theorem dX10_near_20 : decode cX10_near 20 = .ok (.bipush (-2), 2) := by decide +kernel
theorem dX10_near_22 : decode cX10_near 22 = .ok (.ireturn, 1) := by decide +kernel
theorem dX10_heads_0 : decode cX10_heads 0 = .ok (.aload_n 0, 1) := by decide +kernel
theorem dX10_heads_1 : decode cX10_heads 1 = .ok (.iload_n 1, 1) := by decide +kernel
theorem dX10_heads_2 : decode cX10_heads 2 = .ok (.invokevirtual 155, 3) := by decide +kernel
theorem dX10_heads_5 : decode cX10_heads 5 = .ok (.ifCond .eq 15, 3) := by decide +kernel
theorem dX10_heads_8 : decode cX10_heads 8 = .ok (.aload_n 0, 1) := by decide +kernel
theorem dX10_heads_9 : decode cX10_heads 9 = .ok (.getfield 23, 3) := by decide +kernel
theorem dX10_heads_12 : decode cX10_heads 12 = .ok (.getfield 158, 3) := by decide +kernel
theorem dX10_heads_15 : decode cX10_heads 15 = .ok (.iload_n 1, 1) := by decide +kernel
theorem dX10_heads_16 : decode cX10_heads 16 = .ok (.iaload, 1) := by decide +kernel
theorem dX10_heads_17 : decode cX10_heads 17 = .ok (.goto 5, 3) := by decide +kernel
theorem dX10_heads_20 : decode cX10_heads 20 = .ok (.bipush (-2), 2) := by decide +kernel
theorem dX10_heads_22 : decode cX10_heads 22 = .ok (.ireturn, 1) := by decide +kernel
theorem dX10_view_0 : decode cX10_view 0 = .ok (.aload_n 0, 1) := by decide +kernel
theorem dX10_view_1 : decode cX10_view 1 = .ok (.iload_n 1, 1) := by decide +kernel
theorem dX10_view_2 : decode cX10_view 2 = .ok (.invokevirtual 135, 3) := by decide +kernel
theorem dX10_view_5 : decode cX10_view 5 = .ok (.ifCond .eq 23, 3) := by decide +kernel
theorem dX10_view_8 : decode cX10_view 8 = .ok (.aload_n 0, 1) := by decide +kernel
theorem dX10_view_9 : decode cX10_view 9 = .ok (.iload_n 2, 1) := by decide +kernel
theorem dX10_view_10 : decode cX10_view 10 = .ok (.invokevirtual 161, 3) := by decide +kernel
theorem dX10_view_13 : decode cX10_view 13 = .ok (.ifCond .eq 15, 3) := by decide +kernel
theorem dX10_view_16 : decode cX10_view 16 = .ok (.aload_n 0, 1) := by decide +kernel
theorem dX10_view_17 : decode cX10_view 17 = .ok (.getfield 38, 3) := by decide +kernel
theorem dX10_view_20 : decode cX10_view 20 = .ok (.iload_n 1, 1) := by decide +kernel
theorem dX10_view_21 : decode cX10_view 21 = .ok (.iload_n 2, 1) := by decide +kernel
theorem dX10_view_22 : decode cX10_view 22 = .ok (.invokevirtual 164, 3) := by decide +kernel
theorem dX10_view_25 : decode cX10_view 25 = .ok (.goto 5, 3) := by decide +kernel
theorem dX10_view_28 : decode cX10_view 28 = .ok (.bipush (-2), 2) := by decide +kernel
theorem dX10_view_30 : decode cX10_view 30 = .ok (.ireturn, 1) := by decide +kernel
theorem dX10_holding_0 : decode cX10_holding 0 = .ok (.iload_n 1, 1) := by decide +kernel
theorem dX10_holding_1 : decode cX10_holding 1 = .ok (.invokestatic 168, 3) := by decide +kernel
theorem dX10_holding_4 : decode cX10_holding 4 = .ok (.ifCond .eq 23, 3) := by decide +kernel
theorem dX10_holding_7 : decode cX10_holding 7 = .ok (.aload_n 0, 1) := by decide +kernel
theorem dX10_holding_8 : decode cX10_holding 8 = .ok (.iload_n 2, 1) := by decide +kernel
theorem dX10_holding_9 : decode cX10_holding 9 = .ok (.invokevirtual 161, 3) := by decide +kernel
theorem dX10_holding_12 : decode cX10_holding 12 = .ok (.ifCond .eq 15, 3) := by decide +kernel
theorem dX10_holding_15 : decode cX10_holding 15 = .ok (.aload_n 0, 1) := by decide +kernel
theorem dX10_holding_16 : decode cX10_holding 16 = .ok (.getfield 50, 3) := by decide +kernel
theorem dX10_holding_19 : decode cX10_holding 19 = .ok (.iload_n 1, 1) := by decide +kernel
theorem dX10_holding_20 : decode cX10_holding 20 = .ok (.iload_n 2, 1) := by decide +kernel
theorem dX10_holding_21 : decode cX10_holding 21 = .ok (.invokevirtual 171, 3) := by decide +kernel
theorem dX10_holding_24 : decode cX10_holding 24 = .ok (.goto 5, 3) := by decide +kernel
theorem dX10_holding_27 : decode cX10_holding 27 = .ok (.bipush (-2), 2) := by decide +kernel
theorem dX10_holding_29 : decode cX10_holding 29 = .ok (.ireturn, 1) := by decide +kernel
theorem dX10_eaten_0 : decode cX10_eaten 0 = .ok (.aload_n 0, 1) := by decide +kernel
theorem dX10_eaten_1 : decode cX10_eaten 1 = .ok (.iload_n 1, 1) := by decide +kernel
theorem dX10_eaten_2 : decode cX10_eaten 2 = .ok (.invokevirtual 161, 3) := by decide +kernel
theorem dX10_eaten_5 : decode cX10_eaten 5 = .ok (.ifCond .eq 15, 3) := by decide +kernel
theorem dX10_eaten_8 : decode cX10_eaten 8 = .ok (.aload_n 0, 1) := by decide +kernel
theorem dX10_eaten_9 : decode cX10_eaten 9 = .ok (.getfield 29, 3) := by decide +kernel
theorem dX10_eaten_12 : decode cX10_eaten 12 = .ok (.getfield 174, 3) := by decide +kernel
theorem dX10_eaten_15 : decode cX10_eaten 15 = .ok (.iload_n 1, 1) := by decide +kernel
theorem dX10_eaten_16 : decode cX10_eaten 16 = .ok (.iaload, 1) := by decide +kernel
theorem dX10_eaten_17 : decode cX10_eaten 17 = .ok (.goto 5, 3) := by decide +kernel
theorem dX10_eaten_20 : decode cX10_eaten 20 = .ok (.bipush (-2), 2) := by decide +kernel
theorem dX10_eaten_22 : decode cX10_eaten 22 = .ok (.ireturn, 1) := by decide +kernel
theorem dX10_turned_0 : decode cX10_turned 0 = .ok (.aload_n 0, 1) := by decide +kernel
theorem dX10_turned_1 : decode cX10_turned 1 = .ok (.iload_n 1, 1) := by decide +kernel
theorem dX10_turned_2 : decode cX10_turned 2 = .ok (.invokevirtual 161, 3) := by decide +kernel
theorem dX10_turned_5 : decode cX10_turned 5 = .ok (.ifCond .eq 14, 3) := by decide +kernel
theorem dX10_turned_8 : decode cX10_turned 8 = .ok (.aload_n 0, 1) := by decide +kernel
theorem dX10_turned_9 : decode cX10_turned 9 = .ok (.getfield 50, 3) := by decide +kernel
theorem dX10_turned_12 : decode cX10_turned 12 = .ok (.iload_n 1, 1) := by decide +kernel
theorem dX10_turned_13 : decode cX10_turned 13 = .ok (.invokevirtual 177, 3) := by decide +kernel
theorem dX10_turned_16 : decode cX10_turned 16 = .ok (.goto 5, 3) := by decide +kernel
theorem dX10_turned_19 : decode cX10_turned 19 = .ok (.bipush (-2), 2) := by decide +kernel
theorem dX10_turned_21 : decode cX10_turned 21 = .ok (.ireturn, 1) := by decide +kernel
theorem dX10_sways_0 : decode cX10_sways 0 = .ok (.aload_n 0, 1) := by decide +kernel
theorem dX10_sways_1 : decode cX10_sways 1 = .ok (.iload_n 1, 1) := by decide +kernel
theorem dX10_sways_2 : decode cX10_sways 2 = .ok (.invokevirtual 135, 3) := by decide +kernel
theorem dX10_sways_5 : decode cX10_sways 5 = .ok (.ifCond .eq 14, 3) := by decide +kernel
theorem dX10_sways_8 : decode cX10_sways 8 = .ok (.aload_n 0, 1) := by decide +kernel
theorem dX10_sways_9 : decode cX10_sways 9 = .ok (.getfield 50, 3) := by decide +kernel
theorem dX10_sways_12 : decode cX10_sways 12 = .ok (.iload_n 1, 1) := by decide +kernel
theorem dX10_sways_13 : decode cX10_sways 13 = .ok (.invokevirtual 181, 3) := by decide +kernel
theorem dX10_sways_16 : decode cX10_sways 16 = .ok (.goto 5, 3) := by decide +kernel
theorem dX10_sways_19 : decode cX10_sways 19 = .ok (.bipush (-2), 2) := by decide +kernel
theorem dX10_sways_21 : decode cX10_sways 21 = .ok (.ireturn, 1) := by decide +kernel
theorem dX10_when_0 : decode cX10_when 0 = .ok (.aload_n 0, 1) := by decide +kernel
theorem dX10_when_1 : decode cX10_when 1 = .ok (.iload_n 1, 1) := by decide +kernel
theorem dX10_when_2 : decode cX10_when 2 = .ok (.invokevirtual 135, 3) := by decide +kernel
theorem dX10_when_5 : decode cX10_when 5 = .ok (.ifCond .eq 24, 3) := by decide +kernel
theorem dX10_when_8 : decode cX10_when 8 = .ok (.iload_n 2, 1) := by decide +kernel
theorem dX10_when_9 : decode cX10_when 9 = .ok (.invokestatic 184, 3) := by decide +kernel
theorem dX10_when_12 : decode cX10_when 12 = .ok (.ifCond .eq 17, 3) := by decide +kernel
theorem dX10_when_15 : decode cX10_when 15 = .ok (.aload_n 0, 1) := by decide +kernel
theorem dX10_when_16 : decode cX10_when 16 = .ok (.getfield 50, 3) := by decide +kernel
theorem dX10_when_19 : decode cX10_when 19 = .ok (.iconst 1, 1) := by decide +kernel
theorem dX10_when_20 : decode cX10_when 20 = .ok (.iload_n 1, 1) := by decide +kernel
theorem dX10_when_21 : decode cX10_when 21 = .ok (.ishl, 1) := by decide +kernel
theorem dX10_when_22 : decode cX10_when 22 = .ok (.iload_n 2, 1) := by decide +kernel
theorem dX10_when_23 : decode cX10_when 23 = .ok (.invokevirtual 187, 3) := by decide +kernel
theorem dX10_when_26 : decode cX10_when 26 = .ok (.goto 5, 3) := by decide +kernel
theorem dX10_when_29 : decode cX10_when 29 = .ok (.bipush (-2), 2) := by decide +kernel
theorem dX10_when_31 : decode cX10_when 31 = .ok (.ireturn, 1) := by decide +kernel
theorem dX10_often_0 : decode cX10_often 0 = .ok (.aload_n 0, 1) := by decide +kernel
theorem dX10_often_1 : decode cX10_often 1 = .ok (.iload_n 1, 1) := by decide +kernel
theorem dX10_often_2 : decode cX10_often 2 = .ok (.invokevirtual 135, 3) := by decide +kernel
theorem dX10_often_5 : decode cX10_often 5 = .ok (.ifCond .eq 22, 3) := by decide +kernel
theorem dX10_often_8 : decode cX10_often 8 = .ok (.iload_n 2, 1) := by decide +kernel
theorem dX10_often_9 : decode cX10_often 9 = .ok (.invokestatic 184, 3) := by decide +kernel
theorem dX10_often_12 : decode cX10_often 12 = .ok (.ifCond .eq 15, 3) := by decide +kernel
theorem dX10_often_15 : decode cX10_often 15 = .ok (.aload_n 0, 1) := by decide +kernel
theorem dX10_often_16 : decode cX10_often 16 = .ok (.getfield 50, 3) := by decide +kernel
theorem dX10_often_19 : decode cX10_often 19 = .ok (.iload_n 1, 1) := by decide +kernel
theorem dX10_often_20 : decode cX10_often 20 = .ok (.iload_n 2, 1) := by decide +kernel
theorem dX10_often_21 : decode cX10_often 21 = .ok (.invokevirtual 190, 3) := by decide +kernel
theorem dX10_often_24 : decode cX10_often 24 = .ok (.goto 5, 3) := by decide +kernel
theorem dX10_often_27 : decode cX10_often 27 = .ok (.bipush (-2), 2) := by decide +kernel
theorem dX10_often_29 : decode cX10_often 29 = .ok (.ireturn, 1) := by decide +kernel
theorem dX10_heart_0 : decode cX10_heart 0 = .ok (.aload_n 0, 1) := by decide +kernel
theorem dX10_heart_1 : decode cX10_heart 1 = .ok (.iload_n 1, 1) := by decide +kernel
theorem dX10_heart_2 : decode cX10_heart 2 = .ok (.invokevirtual 135, 3) := by decide +kernel
theorem dX10_heart_5 : decode cX10_heart 5 = .ok (.ifCond .eq 14, 3) := by decide +kernel
theorem dX10_heart_8 : decode cX10_heart 8 = .ok (.aload_n 0, 1) := by decide +kernel
theorem dX10_heart_9 : decode cX10_heart 9 = .ok (.getfield 50, 3) := by decide +kernel
theorem dX10_heart_12 : decode cX10_heart 12 = .ok (.iload_n 1, 1) := by decide +kernel
theorem dX10_heart_13 : decode cX10_heart 13 = .ok (.invokevirtual 193, 3) := by decide +kernel
theorem dX10_heart_16 : decode cX10_heart 16 = .ok (.goto 5, 3) := by decide +kernel
theorem dX10_heart_19 : decode cX10_heart 19 = .ok (.bipush (-2), 2) := by decide +kernel
theorem dX10_heart_21 : decode cX10_heart 21 = .ok (.ireturn, 1) := by decide +kernel
theorem dX10_fickle_0 : decode cX10_fickle 0 = .ok (.aload_n 0, 1) := by decide +kernel
theorem dX10_fickle_1 : decode cX10_fickle 1 = .ok (.invokevirtual 196, 3) := by decide +kernel
theorem dX10_fickle_4 : decode cX10_fickle 4 = .ok (.ifCond .eq 13, 3) := by decide +kernel
theorem dX10_fickle_7 : decode cX10_fickle 7 = .ok (.aload_n 0, 1) := by decide +kernel
theorem dX10_fickle_8 : decode cX10_fickle 8 = .ok (.getfield 50, 3) := by decide +kernel
theorem dX10_fickle_11 : decode cX10_fickle 11 = .ok (.invokevirtual 199, 3) := by decide +kernel
theorem dX10_fickle_14 : decode cX10_fickle 14 = .ok (.goto 5, 3) := by decide +kernel
theorem dX10_fickle_17 : decode cX10_fickle 17 = .ok (.bipush (-2), 2) := by decide +kernel
theorem dX10_fickle_19 : decode cX10_fickle 19 = .ok (.ireturn, 1) := by decide +kernel
theorem dX10_agree_0 : decode cX10_agree 0 = .ok (.aload_n 0, 1) := by decide +kernel
theorem dX10_agree_1 : decode cX10_agree 1 = .ok (.invokevirtual 196, 3) := by decide +kernel
theorem dX10_agree_4 : decode cX10_agree 4 = .ok (.ifCond .eq 13, 3) := by decide +kernel
theorem dX10_agree_7 : decode cX10_agree 7 = .ok (.aload_n 0, 1) := by decide +kernel
theorem dX10_agree_8 : decode cX10_agree 8 = .ok (.getfield 50, 3) := by decide +kernel
theorem dX10_agree_11 : decode cX10_agree 11 = .ok (.invokevirtual 203, 3) := by decide +kernel
theorem dX10_agree_14 : decode cX10_agree 14 = .ok (.goto 5, 3) := by decide +kernel
theorem dX10_agree_17 : decode cX10_agree 17 = .ok (.bipush (-2), 2) := by decide +kernel
theorem dX10_agree_19 : decode cX10_agree 19 = .ok (.ireturn, 1) := by decide +kernel
theorem dX10_still_0 : decode cX10_still 0 = .ok (.aload_n 0, 1) := by decide +kernel
theorem dX10_still_1 : decode cX10_still 1 = .ok (.invokevirtual 196, 3) := by decide +kernel
theorem dX10_still_4 : decode cX10_still 4 = .ok (.ifCond .eq 13, 3) := by decide +kernel
theorem dX10_still_7 : decode cX10_still 7 = .ok (.aload_n 0, 1) := by decide +kernel
theorem dX10_still_8 : decode cX10_still 8 = .ok (.getfield 50, 3) := by decide +kernel
theorem dX10_still_11 : decode cX10_still 11 = .ok (.invokevirtual 206, 3) := by decide +kernel
theorem dX10_still_14 : decode cX10_still 14 = .ok (.goto 5, 3) := by decide +kernel
theorem dX10_still_17 : decode cX10_still 17 = .ok (.bipush (-2), 2) := by decide +kernel
theorem dX10_still_19 : decode cX10_still 19 = .ok (.ireturn, 1) := by decide +kernel
theorem dX10_quiet_0 : decode cX10_quiet 0 = .ok (.aload_n 0, 1) := by decide +kernel
theorem dX10_quiet_1 : decode cX10_quiet 1 = .ok (.invokevirtual 196, 3) := by decide +kernel
theorem dX10_quiet_4 : decode cX10_quiet 4 = .ok (.ifCond .eq 13, 3) := by decide +kernel
theorem dX10_quiet_7 : decode cX10_quiet 7 = .ok (.aload_n 0, 1) := by decide +kernel
theorem dX10_quiet_8 : decode cX10_quiet 8 = .ok (.getfield 50, 3) := by decide +kernel
theorem dX10_quiet_11 : decode cX10_quiet 11 = .ok (.invokevirtual 209, 3) := by decide +kernel
theorem dX10_quiet_14 : decode cX10_quiet 14 = .ok (.goto 5, 3) := by decide +kernel
theorem dX10_quiet_17 : decode cX10_quiet 17 = .ok (.bipush (-2), 2) := by decide +kernel
theorem dX10_quiet_19 : decode cX10_quiet 19 = .ok (.ireturn, 1) := by decide +kernel
theorem dX10_settles_0 : decode cX10_settles 0 = .ok (.aload_n 0, 1) := by decide +kernel
theorem dX10_settles_1 : decode cX10_settles 1 = .ok (.invokevirtual 196, 3) := by decide +kernel
theorem dX10_settles_4 : decode cX10_settles 4 = .ok (.ifCond .ne 6, 3) := by decide +kernel
theorem dX10_settles_7 : decode cX10_settles 7 = .ok (.bipush (-2), 2) := by decide +kernel
theorem dX10_settles_9 : decode cX10_settles 9 = .ok (.ireturn, 1) := by decide +kernel
theorem dX10_settles_10 : decode cX10_settles 10 = .ok (.aload_n 0, 1) := by decide +kernel
theorem dX10_settles_11 : decode cX10_settles 11 = .ok (.getfield 50, 3) := by decide +kernel
theorem dX10_settles_14 : decode cX10_settles 14 = .ok (.invokevirtual 212, 3) := by decide +kernel
theorem dX10_settles_17 : decode cX10_settles 17 = .ok (.istore_n 1, 1) := by decide +kernel
theorem dX10_settles_18 : decode cX10_settles 18 = .ok (.aload_n 0, 1) := by decide +kernel
theorem dX10_settles_19 : decode cX10_settles 19 = .ok (.getfield 50, 3) := by decide +kernel
theorem dX10_settles_22 : decode cX10_settles 22 = .ok (.iload_n 1, 1) := by decide +kernel
theorem dX10_settles_23 : decode cX10_settles 23 = .ok (.invokevirtual 215, 3) := by decide +kernel
theorem dX10_settles_26 : decode cX10_settles 26 = .ok (.iload_n 1, 1) := by decide +kernel
theorem dX10_settles_27 : decode cX10_settles 27 = .ok (.iadd, 1) := by decide +kernel
theorem dX10_settles_28 : decode cX10_settles 28 = .ok (.ireturn, 1) := by decide +kernel
theorem dX10_round_0 : decode cX10_round 0 = .ok (.aload_n 0, 1) := by decide +kernel
theorem dX10_round_1 : decode cX10_round 1 = .ok (.invokevirtual 196, 3) := by decide +kernel
theorem dX10_round_4 : decode cX10_round 4 = .ok (.ifCond .eq 13, 3) := by decide +kernel
theorem dX10_round_7 : decode cX10_round 7 = .ok (.aload_n 0, 1) := by decide +kernel
theorem dX10_round_8 : decode cX10_round 8 = .ok (.getfield 50, 3) := by decide +kernel
theorem dX10_round_11 : decode cX10_round 11 = .ok (.invokevirtual 212, 3) := by decide +kernel
theorem dX10_round_14 : decode cX10_round 14 = .ok (.goto 5, 3) := by decide +kernel
theorem dX10_round_17 : decode cX10_round 17 = .ok (.bipush (-2), 2) := by decide +kernel
theorem dX10_round_19 : decode cX10_round 19 = .ok (.ireturn, 1) := by decide +kernel
theorem dX10_mind_0 : decode cX10_mind 0 = .ok (.aload_n 0, 1) := by decide +kernel
theorem dX10_mind_1 : decode cX10_mind 1 = .ok (.iload_n 1, 1) := by decide +kernel
theorem dX10_mind_2 : decode cX10_mind 2 = .ok (.invokevirtual 155, 3) := by decide +kernel
theorem dX10_mind_5 : decode cX10_mind 5 = .ok (.ifCond .eq 23, 3) := by decide +kernel
theorem dX10_mind_8 : decode cX10_mind 8 = .ok (.aload_n 0, 1) := by decide +kernel
theorem dX10_mind_9 : decode cX10_mind 9 = .ok (.iload_n 2, 1) := by decide +kernel
theorem dX10_mind_10 : decode cX10_mind 10 = .ok (.invokevirtual 161, 3) := by decide +kernel
theorem dX10_mind_13 : decode cX10_mind 13 = .ok (.ifCond .eq 15, 3) := by decide +kernel
theorem dX10_mind_16 : decode cX10_mind 16 = .ok (.aload_n 0, 1) := by decide +kernel
theorem dX10_mind_17 : decode cX10_mind 17 = .ok (.getfield 50, 3) := by decide +kernel
theorem dX10_mind_20 : decode cX10_mind 20 = .ok (.iload_n 1, 1) := by decide +kernel
theorem dX10_mind_21 : decode cX10_mind 21 = .ok (.iload_n 2, 1) := by decide +kernel
theorem dX10_mind_22 : decode cX10_mind 22 = .ok (.invokevirtual 218, 3) := by decide +kernel
theorem dX10_mind_25 : decode cX10_mind 25 = .ok (.goto 5, 3) := by decide +kernel
theorem dX10_mind_28 : decode cX10_mind 28 = .ok (.bipush (-2), 2) := by decide +kernel
theorem dX10_mind_30 : decode cX10_mind 30 = .ok (.ireturn, 1) := by decide +kernel
theorem dX10_rows_0 : decode cX10_rows 0 = .ok (.iload_n 1, 1) := by decide +kernel
theorem dX10_rows_1 : decode cX10_rows 1 = .ok (.invokestatic 184, 3) := by decide +kernel
theorem dX10_rows_4 : decode cX10_rows 4 = .ok (.ifCond .eq 23, 3) := by decide +kernel
theorem dX10_rows_7 : decode cX10_rows 7 = .ok (.aload_n 0, 1) := by decide +kernel
theorem dX10_rows_8 : decode cX10_rows 8 = .ok (.iload_n 2, 1) := by decide +kernel
theorem dX10_rows_9 : decode cX10_rows 9 = .ok (.invokevirtual 161, 3) := by decide +kernel
theorem dX10_rows_12 : decode cX10_rows 12 = .ok (.ifCond .eq 15, 3) := by decide +kernel
theorem dX10_rows_15 : decode cX10_rows 15 = .ok (.aload_n 0, 1) := by decide +kernel
theorem dX10_rows_16 : decode cX10_rows 16 = .ok (.getfield 50, 3) := by decide +kernel
theorem dX10_rows_19 : decode cX10_rows 19 = .ok (.iload_n 1, 1) := by decide +kernel
theorem dX10_rows_20 : decode cX10_rows 20 = .ok (.iload_n 2, 1) := by decide +kernel
theorem dX10_rows_21 : decode cX10_rows 21 = .ok (.invokevirtual 221, 3) := by decide +kernel
theorem dX10_rows_24 : decode cX10_rows 24 = .ok (.goto 5, 3) := by decide +kernel
theorem dX10_rows_27 : decode cX10_rows 27 = .ok (.bipush (-2), 2) := by decide +kernel
theorem dX10_rows_29 : decode cX10_rows 29 = .ok (.ireturn, 1) := by decide +kernel
theorem dX10_split_0 : decode cX10_split 0 = .ok (.aload_n 0, 1) := by decide +kernel
theorem dX10_split_1 : decode cX10_split 1 = .ok (.iload_n 1, 1) := by decide +kernel
theorem dX10_split_2 : decode cX10_split 2 = .ok (.invokevirtual 161, 3) := by decide +kernel
theorem dX10_split_5 : decode cX10_split 5 = .ok (.ifCond .eq 24, 3) := by decide +kernel
theorem dX10_split_8 : decode cX10_split 8 = .ok (.aload_n 0, 1) := by decide +kernel
theorem dX10_split_9 : decode cX10_split 9 = .ok (.getfield 50, 3) := by decide +kernel
theorem dX10_split_12 : decode cX10_split 12 = .ok (.aload_n 0, 1) := by decide +kernel
theorem dX10_split_13 : decode cX10_split 13 = .ok (.getfield 23, 3) := by decide +kernel
theorem dX10_split_16 : decode cX10_split 16 = .ok (.invokevirtual 224, 3) := by decide +kernel
theorem dX10_split_19 : decode cX10_split 19 = .ok (.iload_n 1, 1) := by decide +kernel
theorem dX10_split_20 : decode cX10_split 20 = .ok (.invokevirtual 227, 3) := by decide +kernel
theorem dX10_split_23 : decode cX10_split 23 = .ok (.invokestatic 230, 3) := by decide +kernel
theorem dX10_split_26 : decode cX10_split 26 = .ok (.goto 5, 3) := by decide +kernel
theorem dX10_split_29 : decode cX10_split 29 = .ok (.bipush (-2), 2) := by decide +kernel
theorem dX10_split_31 : decode cX10_split 31 = .ok (.ireturn, 1) := by decide +kernel
theorem dX10_main_0 : decode cX10_main 0 = .ok (.aload_n 0, 1) := by decide +kernel
theorem dX10_main_1 : decode cX10_main 1 = .ok (.iload_n 1, 1) := by decide +kernel
theorem dX10_main_2 : decode cX10_main 2 = .ok (.invokevirtual 161, 3) := by decide +kernel
theorem dX10_main_5 : decode cX10_main 5 = .ok (.ifCond .eq 24, 3) := by decide +kernel
theorem dX10_main_8 : decode cX10_main 8 = .ok (.aload_n 0, 1) := by decide +kernel
theorem dX10_main_9 : decode cX10_main 9 = .ok (.getfield 50, 3) := by decide +kernel
theorem dX10_main_12 : decode cX10_main 12 = .ok (.aload_n 0, 1) := by decide +kernel
theorem dX10_main_13 : decode cX10_main 13 = .ok (.getfield 23, 3) := by decide +kernel
theorem dX10_main_16 : decode cX10_main 16 = .ok (.invokevirtual 224, 3) := by decide +kernel
theorem dX10_main_19 : decode cX10_main 19 = .ok (.iload_n 1, 1) := by decide +kernel
theorem dX10_main_20 : decode cX10_main 20 = .ok (.invokevirtual 227, 3) := by decide +kernel
theorem dX10_main_23 : decode cX10_main 23 = .ok (.invokestatic 235, 3) := by decide +kernel
theorem dX10_main_26 : decode cX10_main 26 = .ok (.goto 5, 3) := by decide +kernel
theorem dX10_main_29 : decode cX10_main 29 = .ok (.bipush (-2), 2) := by decide +kernel
theorem dX10_main_31 : decode cX10_main 31 = .ok (.ireturn, 1) := by decide +kernel
theorem dX10_first_0 : decode cX10_first 0 = .ok (.aload_n 0, 1) := by decide +kernel
theorem dX10_first_1 : decode cX10_first 1 = .ok (.invokevirtual 196, 3) := by decide +kernel
theorem dX10_first_4 : decode cX10_first 4 = .ok (.ifCond .eq 28, 3) := by decide +kernel
theorem dX10_first_7 : decode cX10_first 7 = .ok (.iload_n 1, 1) := by decide +kernel
theorem dX10_first_8 : decode cX10_first 8 = .ok (.invokestatic 184, 3) := by decide +kernel
theorem dX10_first_11 : decode cX10_first 11 = .ok (.ifCond .eq 21, 3) := by decide +kernel
theorem dX10_first_14 : decode cX10_first 14 = .ok (.aload_n 0, 1) := by decide +kernel
theorem dX10_first_15 : decode cX10_first 15 = .ok (.getfield 50, 3) := by decide +kernel
theorem dX10_first_18 : decode cX10_first 18 = .ok (.aload_n 0, 1) := by decide +kernel
theorem dX10_first_19 : decode cX10_first 19 = .ok (.getfield 23, 3) := by decide +kernel
theorem dX10_first_22 : decode cX10_first 22 = .ok (.invokevirtual 224, 3) := by decide +kernel
theorem dX10_first_25 : decode cX10_first 25 = .ok (.iload_n 1, 1) := by decide +kernel
theorem dX10_first_26 : decode cX10_first 26 = .ok (.invokevirtual 187, 3) := by decide +kernel
theorem dX10_first_29 : decode cX10_first 29 = .ok (.goto 5, 3) := by decide +kernel
theorem dX10_first_32 : decode cX10_first 32 = .ok (.bipush (-2), 2) := by decide +kernel
theorem dX10_first_34 : decode cX10_first 34 = .ok (.ireturn, 1) := by decide +kernel
theorem dX10_solid_0 : decode cX10_solid 0 = .ok (.aload_n 0, 1) := by decide +kernel
theorem dX10_solid_1 : decode cX10_solid 1 = .ok (.iload_n 1, 1) := by decide +kernel
theorem dX10_solid_2 : decode cX10_solid 2 = .ok (.invokevirtual 161, 3) := by decide +kernel
theorem dX10_solid_5 : decode cX10_solid 5 = .ok (.ifCond .eq 14, 3) := by decide +kernel
theorem dX10_solid_8 : decode cX10_solid 8 = .ok (.aload_n 0, 1) := by decide +kernel
theorem dX10_solid_9 : decode cX10_solid 9 = .ok (.getfield 50, 3) := by decide +kernel
theorem dX10_solid_12 : decode cX10_solid 12 = .ok (.iload_n 1, 1) := by decide +kernel
theorem dX10_solid_13 : decode cX10_solid 13 = .ok (.invokevirtual 238, 3) := by decide +kernel
theorem dX10_solid_16 : decode cX10_solid 16 = .ok (.goto 5, 3) := by decide +kernel
theorem dX10_solid_19 : decode cX10_solid 19 = .ok (.bipush (-2), 2) := by decide +kernel
theorem dX10_solid_21 : decode cX10_solid 21 = .ok (.ireturn, 1) := by decide +kernel
theorem dX10_longest_0 : decode cX10_longest 0 = .ok (.iload_n 1, 1) := by decide +kernel
theorem dX10_longest_1 : decode cX10_longest 1 = .ok (.invokestatic 168, 3) := by decide +kernel
theorem dX10_longest_4 : decode cX10_longest 4 = .ok (.ifCond .eq 23, 3) := by decide +kernel
theorem dX10_longest_7 : decode cX10_longest 7 = .ok (.aload_n 0, 1) := by decide +kernel
theorem dX10_longest_8 : decode cX10_longest 8 = .ok (.iload_n 2, 1) := by decide +kernel
theorem dX10_longest_9 : decode cX10_longest 9 = .ok (.invokevirtual 161, 3) := by decide +kernel
theorem dX10_longest_12 : decode cX10_longest 12 = .ok (.ifCond .eq 15, 3) := by decide +kernel
theorem dX10_longest_15 : decode cX10_longest 15 = .ok (.aload_n 0, 1) := by decide +kernel
theorem dX10_longest_16 : decode cX10_longest 16 = .ok (.getfield 50, 3) := by decide +kernel
theorem dX10_longest_19 : decode cX10_longest 19 = .ok (.iload_n 1, 1) := by decide +kernel
theorem dX10_longest_20 : decode cX10_longest 20 = .ok (.iload_n 2, 1) := by decide +kernel
theorem dX10_longest_21 : decode cX10_longest 21 = .ok (.invokevirtual 241, 3) := by decide +kernel
theorem dX10_longest_24 : decode cX10_longest 24 = .ok (.goto 5, 3) := by decide +kernel
theorem dX10_longest_27 : decode cX10_longest 27 = .ok (.bipush (-2), 2) := by decide +kernel
theorem dX10_longest_29 : decode cX10_longest 29 = .ok (.ireturn, 1) := by decide +kernel
theorem dX10_pull_0 : decode cX10_pull 0 = .ok (.aload_n 0, 1) := by decide +kernel
theorem dX10_pull_1 : decode cX10_pull 1 = .ok (.iload_n 1, 1) := by decide +kernel
theorem dX10_pull_2 : decode cX10_pull 2 = .ok (.invokevirtual 135, 3) := by decide +kernel
theorem dX10_pull_5 : decode cX10_pull 5 = .ok (.ifCond .eq 31, 3) := by decide +kernel
theorem dX10_pull_8 : decode cX10_pull 8 = .ok (.aload_n 0, 1) := by decide +kernel
theorem dX10_pull_9 : decode cX10_pull 9 = .ok (.iload_n 2, 1) := by decide +kernel
theorem dX10_pull_10 : decode cX10_pull 10 = .ok (.invokevirtual 161, 3) := by decide +kernel
theorem dX10_pull_13 : decode cX10_pull 13 = .ok (.ifCond .eq 23, 3) := by decide +kernel
theorem dX10_pull_16 : decode cX10_pull 16 = .ok (.aload_n 0, 1) := by decide +kernel
theorem dX10_pull_17 : decode cX10_pull 17 = .ok (.getfield 38, 3) := by decide +kernel
theorem dX10_pull_20 : decode cX10_pull 20 = .ok (.iload_n 1, 1) := by decide +kernel
theorem dX10_pull_21 : decode cX10_pull 21 = .ok (.aload_n 0, 1) := by decide +kernel
theorem dX10_pull_22 : decode cX10_pull 22 = .ok (.getfield 38, 3) := by decide +kernel
theorem dX10_pull_25 : decode cX10_pull 25 = .ok (.getfield 244, 3) := by decide +kernel
theorem dX10_pull_28 : decode cX10_pull 28 = .ok (.iload_n 2, 1) := by decide +kernel
theorem dX10_pull_29 : decode cX10_pull 29 = .ok (.iaload, 1) := by decide +kernel
theorem dX10_pull_30 : decode cX10_pull 30 = .ok (.invokevirtual 247, 3) := by decide +kernel
theorem dX10_pull_33 : decode cX10_pull 33 = .ok (.goto 6, 3) := by decide +kernel
theorem dX10_pull_36 : decode cX10_pull 36 = .ok (.sipush (-1000), 3) := by decide +kernel
theorem dX10_pull_39 : decode cX10_pull 39 = .ok (.ireturn, 1) := by decide +kernel
theorem dX10_tied_0 : decode cX10_tied 0 = .ok (.aload_n 0, 1) := by decide +kernel
theorem dX10_tied_1 : decode cX10_tied 1 = .ok (.iload_n 1, 1) := by decide +kernel
theorem dX10_tied_2 : decode cX10_tied 2 = .ok (.invokevirtual 161, 3) := by decide +kernel
theorem dX10_tied_5 : decode cX10_tied 5 = .ok (.ifCond .eq 14, 3) := by decide +kernel
theorem dX10_tied_8 : decode cX10_tied 8 = .ok (.aload_n 0, 1) := by decide +kernel
theorem dX10_tied_9 : decode cX10_tied 9 = .ok (.getfield 50, 3) := by decide +kernel
theorem dX10_tied_12 : decode cX10_tied 12 = .ok (.iload_n 1, 1) := by decide +kernel
theorem dX10_tied_13 : decode cX10_tied 13 = .ok (.invokevirtual 250, 3) := by decide +kernel
theorem dX10_tied_16 : decode cX10_tied 16 = .ok (.goto 5, 3) := by decide +kernel
theorem dX10_tied_19 : decode cX10_tied 19 = .ok (.bipush (-2), 2) := by decide +kernel
theorem dX10_tied_21 : decode cX10_tied 21 = .ok (.ireturn, 1) := by decide +kernel
theorem dX10_since_0 : decode cX10_since 0 = .ok (.aload_n 0, 1) := by decide +kernel
theorem dX10_since_1 : decode cX10_since 1 = .ok (.iload_n 1, 1) := by decide +kernel
theorem dX10_since_2 : decode cX10_since 2 = .ok (.invokevirtual 135, 3) := by decide +kernel
theorem dX10_since_5 : decode cX10_since 5 = .ok (.ifCond .eq 14, 3) := by decide +kernel
theorem dX10_since_8 : decode cX10_since 8 = .ok (.aload_n 0, 1) := by decide +kernel
theorem dX10_since_9 : decode cX10_since 9 = .ok (.getfield 50, 3) := by decide +kernel
theorem dX10_since_12 : decode cX10_since 12 = .ok (.iload_n 1, 1) := by decide +kernel
theorem dX10_since_13 : decode cX10_since 13 = .ok (.invokevirtual 253, 3) := by decide +kernel
theorem dX10_since_16 : decode cX10_since 16 = .ok (.goto 5, 3) := by decide +kernel
theorem dX10_since_19 : decode cX10_since 19 = .ok (.bipush (-2), 2) := by decide +kernel
theorem dX10_since_21 : decode cX10_since 21 = .ok (.ireturn, 1) := by decide +kernel
theorem dX10_held_0 : decode cX10_held 0 = .ok (.aload_n 0, 1) := by decide +kernel
theorem dX10_held_1 : decode cX10_held 1 = .ok (.iload_n 1, 1) := by decide +kernel
theorem dX10_held_2 : decode cX10_held 2 = .ok (.invokevirtual 135, 3) := by decide +kernel
theorem dX10_held_5 : decode cX10_held 5 = .ok (.ifCond .eq 14, 3) := by decide +kernel
theorem dX10_held_8 : decode cX10_held 8 = .ok (.aload_n 0, 1) := by decide +kernel
theorem dX10_held_9 : decode cX10_held 9 = .ok (.getfield 50, 3) := by decide +kernel
theorem dX10_held_12 : decode cX10_held 12 = .ok (.iload_n 1, 1) := by decide +kernel
theorem dX10_held_13 : decode cX10_held 13 = .ok (.invokevirtual 256, 3) := by decide +kernel
theorem dX10_held_16 : decode cX10_held 16 = .ok (.goto 5, 3) := by decide +kernel
theorem dX10_held_19 : decode cX10_held 19 = .ok (.bipush (-2), 2) := by decide +kernel
theorem dX10_held_21 : decode cX10_held 21 = .ok (.ireturn, 1) := by decide +kernel
theorem dX10_hush_0 : decode cX10_hush 0 = .ok (.aload_n 0, 1) := by decide +kernel
theorem dX10_hush_1 : decode cX10_hush 1 = .ok (.iload_n 1, 1) := by decide +kernel
theorem dX10_hush_2 : decode cX10_hush 2 = .ok (.invokevirtual 161, 3) := by decide +kernel
theorem dX10_hush_5 : decode cX10_hush 5 = .ok (.ifCond .eq 14, 3) := by decide +kernel
theorem dX10_hush_8 : decode cX10_hush 8 = .ok (.aload_n 0, 1) := by decide +kernel
theorem dX10_hush_9 : decode cX10_hush 9 = .ok (.getfield 50, 3) := by decide +kernel
theorem dX10_hush_12 : decode cX10_hush 12 = .ok (.iload_n 1, 1) := by decide +kernel
theorem dX10_hush_13 : decode cX10_hush 13 = .ok (.invokevirtual 259, 3) := by decide +kernel
theorem dX10_hush_16 : decode cX10_hush 16 = .ok (.goto 5, 3) := by decide +kernel
theorem dX10_hush_19 : decode cX10_hush 19 = .ok (.bipush (-2), 2) := by decide +kernel
theorem dX10_hush_21 : decode cX10_hush 21 = .ok (.ireturn, 1) := by decide +kernel
theorem dX10_lonely_0 : decode cX10_lonely 0 = .ok (.aload_n 0, 1) := by decide +kernel
theorem dX10_lonely_1 : decode cX10_lonely 1 = .ok (.iload_n 1, 1) := by decide +kernel
theorem dX10_lonely_2 : decode cX10_lonely 2 = .ok (.invokevirtual 161, 3) := by decide +kernel
theorem dX10_lonely_5 : decode cX10_lonely 5 = .ok (.ifCond .eq 14, 3) := by decide +kernel
theorem dX10_lonely_8 : decode cX10_lonely 8 = .ok (.aload_n 0, 1) := by decide +kernel
theorem dX10_lonely_9 : decode cX10_lonely 9 = .ok (.getfield 50, 3) := by decide +kernel
theorem dX10_lonely_12 : decode cX10_lonely 12 = .ok (.iload_n 1, 1) := by decide +kernel
theorem dX10_lonely_13 : decode cX10_lonely 13 = .ok (.invokevirtual 262, 3) := by decide +kernel
theorem dX10_lonely_16 : decode cX10_lonely 16 = .ok (.goto 5, 3) := by decide +kernel
theorem dX10_lonely_19 : decode cX10_lonely 19 = .ok (.bipush (-2), 2) := by decide +kernel
theorem dX10_lonely_21 : decode cX10_lonely 21 = .ok (.ireturn, 1) := by decide +kernel
theorem dX10_quarrels_0 : decode cX10_quarrels 0 = .ok (.aload_n 0, 1) := by decide +kernel
theorem dX10_quarrels_1 : decode cX10_quarrels 1 = .ok (.iload_n 1, 1) := by decide +kernel
theorem dX10_quarrels_2 : decode cX10_quarrels 2 = .ok (.invokevirtual 161, 3) := by decide +kernel
theorem dX10_quarrels_5 : decode cX10_quarrels 5 = .ok (.ifCond .eq 14, 3) := by decide +kernel
theorem dX10_quarrels_8 : decode cX10_quarrels 8 = .ok (.aload_n 0, 1) := by decide +kernel
theorem dX10_quarrels_9 : decode cX10_quarrels 9 = .ok (.getfield 50, 3) := by decide +kernel
theorem dX10_quarrels_12 : decode cX10_quarrels 12 = .ok (.iload_n 1, 1) := by decide +kernel
theorem dX10_quarrels_13 : decode cX10_quarrels 13 = .ok (.invokevirtual 265, 3) := by decide +kernel
theorem dX10_quarrels_16 : decode cX10_quarrels 16 = .ok (.goto 5, 3) := by decide +kernel
theorem dX10_quarrels_19 : decode cX10_quarrels 19 = .ok (.bipush (-2), 2) := by decide +kernel
theorem dX10_quarrels_21 : decode cX10_quarrels 21 = .ok (.ireturn, 1) := by decide +kernel
theorem dX10_never_0 : decode cX10_never 0 = .ok (.aload_n 0, 1) := by decide +kernel
theorem dX10_never_1 : decode cX10_never 1 = .ok (.invokevirtual 196, 3) := by decide +kernel
theorem dX10_never_4 : decode cX10_never 4 = .ok (.ifCond .eq 21, 3) := by decide +kernel
theorem dX10_never_7 : decode cX10_never 7 = .ok (.iload_n 1, 1) := by decide +kernel
theorem dX10_never_8 : decode cX10_never 8 = .ok (.invokestatic 184, 3) := by decide +kernel
theorem dX10_never_11 : decode cX10_never 11 = .ok (.ifCond .eq 14, 3) := by decide +kernel
theorem dX10_never_14 : decode cX10_never 14 = .ok (.aload_n 0, 1) := by decide +kernel
theorem dX10_never_15 : decode cX10_never 15 = .ok (.getfield 50, 3) := by decide +kernel
theorem dX10_never_18 : decode cX10_never 18 = .ok (.iload_n 1, 1) := by decide +kernel
theorem dX10_never_19 : decode cX10_never 19 = .ok (.invokevirtual 268, 3) := by decide +kernel
theorem dX10_never_22 : decode cX10_never 22 = .ok (.goto 5, 3) := by decide +kernel
theorem dX10_never_25 : decode cX10_never 25 = .ok (.bipush (-2), 2) := by decide +kernel
theorem dX10_never_27 : decode cX10_never 27 = .ok (.ireturn, 1) := by decide +kernel
theorem dX10_most_0 : decode cX10_most 0 = .ok (.aload_n 0, 1) := by decide +kernel
theorem dX10_most_1 : decode cX10_most 1 = .ok (.invokevirtual 196, 3) := by decide +kernel
theorem dX10_most_4 : decode cX10_most 4 = .ok (.ifCond .eq 21, 3) := by decide +kernel
theorem dX10_most_7 : decode cX10_most 7 = .ok (.iload_n 1, 1) := by decide +kernel
theorem dX10_most_8 : decode cX10_most 8 = .ok (.invokestatic 184, 3) := by decide +kernel
theorem dX10_most_11 : decode cX10_most 11 = .ok (.ifCond .eq 14, 3) := by decide +kernel
theorem dX10_most_14 : decode cX10_most 14 = .ok (.aload_n 0, 1) := by decide +kernel
theorem dX10_most_15 : decode cX10_most 15 = .ok (.getfield 50, 3) := by decide +kernel
theorem dX10_most_18 : decode cX10_most 18 = .ok (.iload_n 1, 1) := by decide +kernel
theorem dX10_most_19 : decode cX10_most 19 = .ok (.invokevirtual 271, 3) := by decide +kernel
theorem dX10_most_22 : decode cX10_most 22 = .ok (.goto 5, 3) := by decide +kernel
theorem dX10_most_25 : decode cX10_most 25 = .ok (.bipush (-2), 2) := by decide +kernel
theorem dX10_most_27 : decode cX10_most 27 = .ok (.ireturn, 1) := by decide +kernel
set_option maxHeartbeats 4000000 in
set_option maxRecDepth 100000 in
theorem ctX10_feed (l : Launch) (D : va_G) (k : Nat → ClassId) (z : Nat → Nat) (o : Nat → Nat) (rfault : Int32) (rplace : Int32) (rkind : Int32) (rvalue : Int32) (rnumber : Int32) (rsize : Nat) (rstart : Nat) (rnext : Nat) (f15 : Nat → Int32) (p0 : Int32) (p1 : Int32) (p2 : Int32) (p3 : Int32) (p4 : Int32) (hrsize : rsize ≤ 600) (hrstart : rstart ≤ 600) (hrnext : rnext ≤ 600) : MU l yX10_feed cX10_feed 6 (some .int) 1 D k z [.ref (o 0), .int p0, .int p1, .int p2, .int p3, .int p4] [((o 0), .inr (10, [.ref (o 1), .ref (o 2), .ref (o 3), .ref (o 4), .ref (o 5), .ref (o 6), .ref (o 7), .ref (o 8), .ref (o 9), .ref (o 10), .ref (o 11), .ref (o 12), .ref (o 13), .ref (o 14)])), ((o 1), .inr (4, [.ref (o 15), .int (nI rsize), .int rfault, .int rplace, .int rkind, .int (nI rstart), .int (nI rnext), .int rvalue, .int rnumber])), ((o 15), .inl (k 1, 600, .inl f15))] 0 0 (Ui D (fun (r : Int32) (u : (Nat → Int32) × (Nat → Nat) × (Nat → Nat → Int32) × (Nat → Nat → Int64) × (Nat → Int64)) => (u.2.1 0 ≤ 600)) (fun u : (Nat → Int32) × (Nat → Nat) × (Nat → Nat → Int32) × (Nat → Nat → Int64) × (Nat → Int64) => [((o 0), .inr (10, [.ref (o 1), .ref (o 2), .ref (o 3), .ref (o 4), .ref (o 5), .ref (o 6), .ref (o 7), .ref (o 8), .ref (o 9), .ref (o 10), .ref (o 11), .ref (o 12), .ref (o 13), .ref (o 14)])), ((o 1), .inr (4, [.ref (o 15), .int (nI (u.2.1 0)), .int rfault, .int rplace, .int rkind, .int (nI rstart), .int (nI rnext), .int rvalue, .int rnumber])), ((o 15), .inl (k 1, 600, .inl (u.2.2.1 0)))])) := by
  refine MU.of (by decide) (Nat.le_of_ble_eq_true rfl) ?_
  intro p e s m below meth c ls A args Q S hr hlk hnm hQ hK hP hD hZ hA hS hl
  have hx := S.1
  have hb := S.2.1
  have hl : lv_has ls 6 [(0, .ref (o 0)), (1, .int p0), (2, .int p1), (3, .int p2), (4, .int p3), (5, .int p4)] := hl
  refine lv_aload_n hx hb dX10_feed_0 rfl (lv_at hl 0 rfl) ?_
  refine x_get S hK hP 0 rfl cfX10 0 lkX10_10 (by decide) rfl dX10_feed_1 ?_
  refine x_roVi (As := []) S hK hP hD hZ (fun _ h => h) hA hS hA hl mwX4_hasRoom lkX10_106 (ctX4_hasRoom l D k z o rfault rplace rkind rvalue rnumber rsize rstart rnext f15 (by omega) (by omega) (by omega)) [1, 2] rfl (by decide) rfl rfl rfl rfl rfl ⟨Nat.le_of_ble_eq_true rfl, Nat.le_of_ble_eq_true rfl, Nat.le_of_ble_eq_true rfl⟩ dX10_feed_4 ⟨Nat.le_of_ble_eq_true rfl, Nat.le_of_ble_eq_true rfl⟩ (fun r_1 H locs hr_1 hP hS => ?_)
  refine lv_if_ne (tgt := 12) hx hb dX10_feed_7 (by decide) (fun c_3 => ?_) (fun c_3 => ?_)
  · skip
    refine lv_aload_n hx hb dX10_feed_12 rfl (lv_at hl 0 rfl) ?_
    refine x_get S hK hP 0 rfl cfX10 0 lkX10_10 (by decide) rfl dX10_feed_13 ?_
    refine lv_iload_n hx hb dX10_feed_16 rfl (lv_at hl 1 rfl) ?_
    refine x_muVv (wr := [((o 0), .inr (10, [.ref (o 1), .ref (o 2), .ref (o 3), .ref (o 4), .ref (o 5), .ref (o 6), .ref (o 7), .ref (o 8), .ref (o 9), .ref (o 10), .ref (o 11), .ref (o 12), .ref (o 13), .ref (o 14)]))]) (As := [.int p0]) S hK hP hD hZ hS hA hl mwX4_append lkX10_110 (ctX4_append l D k z o rfault rplace rkind rvalue rnumber rsize rstart rnext f15 p0 (by omega) (by omega) (by omega)) [1, 2] [0] rfl rfl (by decide) (by decide) (by decide) rfl rfl rfl rfl rfl ⟨Nat.le_of_ble_eq_true rfl, Nat.le_of_ble_eq_true rfl, Nat.le_of_ble_eq_true rfl⟩ dX10_feed_17 ⟨Nat.le_of_ble_eq_true rfl, Nat.le_of_ble_eq_true rfl⟩ (fun u_5 H locs hr_4 hP hD hS => ?_)
    have hP : va_P D vwCl [((o 0), .inr (10, [.ref (o 1), .ref (o 2), .ref (o 3), .ref (o 4), .ref (o 5), .ref (o 6), .ref (o 7), .ref (o 8), .ref (o 9), .ref (o 10), .ref (o 11), .ref (o 12), .ref (o 13), .ref (o 14)])), ((o 1), .inr (4, [.ref (o 15), .int (nI (u_5.2.1 0)), .int rfault, .int rplace, .int rkind, .int (nI rstart), .int (nI rnext), .int rvalue, .int rnumber])), ((o 15), .inl (k 1, 600, .inl (u_5.2.2.1 0)))] H := hP.sub [0, 1, 2] rfl
    have hD : va_D A [((o 0), .inr (10, [.ref (o 1), .ref (o 2), .ref (o 3), .ref (o 4), .ref (o 5), .ref (o 6), .ref (o 7), .ref (o 8), .ref (o 9), .ref (o 10), .ref (o 11), .ref (o 12), .ref (o 13), .ref (o 14)])), ((o 1), .inr (4, [.ref (o 15), .int (nI (u_5.2.1 0)), .int rfault, .int rplace, .int rkind, .int (nI rstart), .int (nI rnext), .int rvalue, .int rnumber])), ((o 15), .inl (k 1, 600, .inl (u_5.2.2.1 0)))] := hD.sub [0, 1, 2] (by decide) rfl
    have hg_6 := hr_4
    refine lv_aload_n hx hb dX10_feed_20 rfl (lv_at hl 0 rfl) ?_
    refine x_get S hK hP 0 rfl cfX10 0 lkX10_10 (by decide) rfl dX10_feed_21 ?_
    refine lv_iload_n hx hb dX10_feed_24 rfl (lv_at hl 2 rfl) ?_
    refine x_muVv (wr := [((o 0), .inr (10, [.ref (o 1), .ref (o 2), .ref (o 3), .ref (o 4), .ref (o 5), .ref (o 6), .ref (o 7), .ref (o 8), .ref (o 9), .ref (o 10), .ref (o 11), .ref (o 12), .ref (o 13), .ref (o 14)]))]) (As := [.int p1]) S hK hP hD hZ hS hA hl mwX4_append lkX10_110 (ctX4_append l D k z o rfault rplace rkind rvalue rnumber (u_5.2.1 0) rstart rnext (u_5.2.2.1 0) p1 (by omega) (by omega) (by omega)) [1, 2] [0] rfl rfl (by decide) (by decide) (by decide) rfl rfl rfl rfl rfl ⟨Nat.le_of_ble_eq_true rfl, Nat.le_of_ble_eq_true rfl, Nat.le_of_ble_eq_true rfl⟩ dX10_feed_25 ⟨Nat.le_of_ble_eq_true rfl, Nat.le_of_ble_eq_true rfl⟩ (fun u_8 H locs hr_7 hP hD hS => ?_)
    have hP : va_P D vwCl [((o 0), .inr (10, [.ref (o 1), .ref (o 2), .ref (o 3), .ref (o 4), .ref (o 5), .ref (o 6), .ref (o 7), .ref (o 8), .ref (o 9), .ref (o 10), .ref (o 11), .ref (o 12), .ref (o 13), .ref (o 14)])), ((o 1), .inr (4, [.ref (o 15), .int (nI (u_8.2.1 0)), .int rfault, .int rplace, .int rkind, .int (nI rstart), .int (nI rnext), .int rvalue, .int rnumber])), ((o 15), .inl (k 1, 600, .inl (u_8.2.2.1 0)))] H := hP.sub [0, 1, 2] rfl
    have hD : va_D A [((o 0), .inr (10, [.ref (o 1), .ref (o 2), .ref (o 3), .ref (o 4), .ref (o 5), .ref (o 6), .ref (o 7), .ref (o 8), .ref (o 9), .ref (o 10), .ref (o 11), .ref (o 12), .ref (o 13), .ref (o 14)])), ((o 1), .inr (4, [.ref (o 15), .int (nI (u_8.2.1 0)), .int rfault, .int rplace, .int rkind, .int (nI rstart), .int (nI rnext), .int rvalue, .int rnumber])), ((o 15), .inl (k 1, 600, .inl (u_8.2.2.1 0)))] := hD.sub [0, 1, 2] (by decide) rfl
    have hg_9 := hr_7
    refine lv_aload_n hx hb dX10_feed_28 rfl (lv_at hl 0 rfl) ?_
    refine x_get S hK hP 0 rfl cfX10 0 lkX10_10 (by decide) rfl dX10_feed_29 ?_
    refine lv_iload_n hx hb dX10_feed_32 rfl (lv_at hl 3 rfl) ?_
    refine x_muVv (wr := [((o 0), .inr (10, [.ref (o 1), .ref (o 2), .ref (o 3), .ref (o 4), .ref (o 5), .ref (o 6), .ref (o 7), .ref (o 8), .ref (o 9), .ref (o 10), .ref (o 11), .ref (o 12), .ref (o 13), .ref (o 14)]))]) (As := [.int p2]) S hK hP hD hZ hS hA hl mwX4_append lkX10_110 (ctX4_append l D k z o rfault rplace rkind rvalue rnumber (u_8.2.1 0) rstart rnext (u_8.2.2.1 0) p2 (by omega) (by omega) (by omega)) [1, 2] [0] rfl rfl (by decide) (by decide) (by decide) rfl rfl rfl rfl rfl ⟨Nat.le_of_ble_eq_true rfl, Nat.le_of_ble_eq_true rfl, Nat.le_of_ble_eq_true rfl⟩ dX10_feed_33 ⟨Nat.le_of_ble_eq_true rfl, Nat.le_of_ble_eq_true rfl⟩ (fun u_11 H locs hr_10 hP hD hS => ?_)
    have hP : va_P D vwCl [((o 0), .inr (10, [.ref (o 1), .ref (o 2), .ref (o 3), .ref (o 4), .ref (o 5), .ref (o 6), .ref (o 7), .ref (o 8), .ref (o 9), .ref (o 10), .ref (o 11), .ref (o 12), .ref (o 13), .ref (o 14)])), ((o 1), .inr (4, [.ref (o 15), .int (nI (u_11.2.1 0)), .int rfault, .int rplace, .int rkind, .int (nI rstart), .int (nI rnext), .int rvalue, .int rnumber])), ((o 15), .inl (k 1, 600, .inl (u_11.2.2.1 0)))] H := hP.sub [0, 1, 2] rfl
    have hD : va_D A [((o 0), .inr (10, [.ref (o 1), .ref (o 2), .ref (o 3), .ref (o 4), .ref (o 5), .ref (o 6), .ref (o 7), .ref (o 8), .ref (o 9), .ref (o 10), .ref (o 11), .ref (o 12), .ref (o 13), .ref (o 14)])), ((o 1), .inr (4, [.ref (o 15), .int (nI (u_11.2.1 0)), .int rfault, .int rplace, .int rkind, .int (nI rstart), .int (nI rnext), .int rvalue, .int rnumber])), ((o 15), .inl (k 1, 600, .inl (u_11.2.2.1 0)))] := hD.sub [0, 1, 2] (by decide) rfl
    have hg_12 := hr_10
    refine lv_aload_n hx hb dX10_feed_36 rfl (lv_at hl 0 rfl) ?_
    refine x_get S hK hP 0 rfl cfX10 0 lkX10_10 (by decide) rfl dX10_feed_37 ?_
    refine lv_iload hx hb dX10_feed_40 (lv_at hl 4 rfl) ?_
    refine x_muVv (wr := [((o 0), .inr (10, [.ref (o 1), .ref (o 2), .ref (o 3), .ref (o 4), .ref (o 5), .ref (o 6), .ref (o 7), .ref (o 8), .ref (o 9), .ref (o 10), .ref (o 11), .ref (o 12), .ref (o 13), .ref (o 14)]))]) (As := [.int p3]) S hK hP hD hZ hS hA hl mwX4_append lkX10_110 (ctX4_append l D k z o rfault rplace rkind rvalue rnumber (u_11.2.1 0) rstart rnext (u_11.2.2.1 0) p3 (by omega) (by omega) (by omega)) [1, 2] [0] rfl rfl (by decide) (by decide) (by decide) rfl rfl rfl rfl rfl ⟨Nat.le_of_ble_eq_true rfl, Nat.le_of_ble_eq_true rfl, Nat.le_of_ble_eq_true rfl⟩ dX10_feed_42 ⟨Nat.le_of_ble_eq_true rfl, Nat.le_of_ble_eq_true rfl⟩ (fun u_14 H locs hr_13 hP hD hS => ?_)
    have hP : va_P D vwCl [((o 0), .inr (10, [.ref (o 1), .ref (o 2), .ref (o 3), .ref (o 4), .ref (o 5), .ref (o 6), .ref (o 7), .ref (o 8), .ref (o 9), .ref (o 10), .ref (o 11), .ref (o 12), .ref (o 13), .ref (o 14)])), ((o 1), .inr (4, [.ref (o 15), .int (nI (u_14.2.1 0)), .int rfault, .int rplace, .int rkind, .int (nI rstart), .int (nI rnext), .int rvalue, .int rnumber])), ((o 15), .inl (k 1, 600, .inl (u_14.2.2.1 0)))] H := hP.sub [0, 1, 2] rfl
    have hD : va_D A [((o 0), .inr (10, [.ref (o 1), .ref (o 2), .ref (o 3), .ref (o 4), .ref (o 5), .ref (o 6), .ref (o 7), .ref (o 8), .ref (o 9), .ref (o 10), .ref (o 11), .ref (o 12), .ref (o 13), .ref (o 14)])), ((o 1), .inr (4, [.ref (o 15), .int (nI (u_14.2.1 0)), .int rfault, .int rplace, .int rkind, .int (nI rstart), .int (nI rnext), .int rvalue, .int rnumber])), ((o 15), .inl (k 1, 600, .inl (u_14.2.2.1 0)))] := hD.sub [0, 1, 2] (by decide) rfl
    have hg_15 := hr_13
    refine lv_aload_n hx hb dX10_feed_45 rfl (lv_at hl 0 rfl) ?_
    refine x_get S hK hP 0 rfl cfX10 0 lkX10_10 (by decide) rfl dX10_feed_46 ?_
    refine lv_iload hx hb dX10_feed_49 (lv_at hl 5 rfl) ?_
    refine x_muVv (wr := [((o 0), .inr (10, [.ref (o 1), .ref (o 2), .ref (o 3), .ref (o 4), .ref (o 5), .ref (o 6), .ref (o 7), .ref (o 8), .ref (o 9), .ref (o 10), .ref (o 11), .ref (o 12), .ref (o 13), .ref (o 14)]))]) (As := [.int p4]) S hK hP hD hZ hS hA hl mwX4_append lkX10_110 (ctX4_append l D k z o rfault rplace rkind rvalue rnumber (u_14.2.1 0) rstart rnext (u_14.2.2.1 0) p4 (by omega) (by omega) (by omega)) [1, 2] [0] rfl rfl (by decide) (by decide) (by decide) rfl rfl rfl rfl rfl ⟨Nat.le_of_ble_eq_true rfl, Nat.le_of_ble_eq_true rfl, Nat.le_of_ble_eq_true rfl⟩ dX10_feed_51 ⟨Nat.le_of_ble_eq_true rfl, Nat.le_of_ble_eq_true rfl⟩ (fun u_17 H locs hr_16 hP hD hS => ?_)
    have hP : va_P D vwCl [((o 0), .inr (10, [.ref (o 1), .ref (o 2), .ref (o 3), .ref (o 4), .ref (o 5), .ref (o 6), .ref (o 7), .ref (o 8), .ref (o 9), .ref (o 10), .ref (o 11), .ref (o 12), .ref (o 13), .ref (o 14)])), ((o 1), .inr (4, [.ref (o 15), .int (nI (u_17.2.1 0)), .int rfault, .int rplace, .int rkind, .int (nI rstart), .int (nI rnext), .int rvalue, .int rnumber])), ((o 15), .inl (k 1, 600, .inl (u_17.2.2.1 0)))] H := hP.sub [0, 1, 2] rfl
    have hD : va_D A [((o 0), .inr (10, [.ref (o 1), .ref (o 2), .ref (o 3), .ref (o 4), .ref (o 5), .ref (o 6), .ref (o 7), .ref (o 8), .ref (o 9), .ref (o 10), .ref (o 11), .ref (o 12), .ref (o 13), .ref (o 14)])), ((o 1), .inr (4, [.ref (o 15), .int (nI (u_17.2.1 0)), .int rfault, .int rplace, .int rkind, .int (nI rstart), .int (nI rnext), .int rvalue, .int rnumber])), ((o 15), .inl (k 1, 600, .inl (u_17.2.2.1 0)))] := hD.sub [0, 1, 2] (by decide) rfl
    have hg_18 := hr_16
    refine lv_aload_n hx hb dX10_feed_54 rfl (lv_at hl 0 rfl) ?_
    refine x_get S hK hP 0 rfl cfX10 0 lkX10_10 (by decide) rfl dX10_feed_55 ?_
    refine x_get S hK hP 1 rfl cfX4 1 lkX10_114 (by decide) rfl dX10_feed_58 ?_
    exact x_reti S hr hlk hQ hS ((fun i => ([] : List (Int32)).getD i 0), (fun i => ([u_17.2.1 0] : List (Nat)).getD i 0), (fun i => ([(u_17.2.2.1 0)] : List (Nat → Int32)).getD i (fun _ => 0)), (fun i => ([] : List (Nat → Int64)).getD i (fun _ => 0)), (fun i => ([] : List (Int64)).getD i 0)) (show u_17.2.1 0 ≤ 600 by omega) (x_B hP hD) dX10_feed_61
  · skip
    refine lv_iconst (v := (-1)) hx hb dX10_feed_10 (by decide) ?_
    exact x_reti S hr hlk hQ hS ((fun i => ([] : List (Int32)).getD i 0), (fun i => ([rsize] : List (Nat)).getD i 0), (fun i => ([f15] : List (Nat → Int32)).getD i (fun _ => 0)), (fun i => ([] : List (Nat → Int64)).getD i (fun _ => 0)), (fun i => ([] : List (Int64)).getD i 0)) (show rsize ≤ 600 by omega) (x_B hP hD) dX10_feed_11

set_option maxHeartbeats 4000000 in
set_option maxRecDepth 100000 in
theorem ctX10_end (l : Launch) (D : va_G) (k : Nat → ClassId) (z : Nat → Nat) (o : Nat → Nat) (rfault : Int32) (rplace : Int32) (rkind : Int32) (rvalue : Int32) (rnumber : Int32) (rsize : Nat) (rstart : Nat) (rnext : Nat) (p0 : Int32) (hrsize : rsize ≤ 600) (hrstart : rstart ≤ 600) (hrnext : rnext ≤ 600) : MU l yX10_end cX10_end 2 (some .int) 0 D k z [.ref (o 0), .int p0] [((o 0), .inr (10, [.ref (o 1), .ref (o 2), .ref (o 3), .ref (o 4), .ref (o 5), .ref (o 6), .ref (o 7), .ref (o 8), .ref (o 9), .ref (o 10), .ref (o 11), .ref (o 12), .ref (o 13), .ref (o 14)])), ((o 1), .inr (4, [.ref (o 15), .int (nI rsize), .int rfault, .int rplace, .int rkind, .int (nI rstart), .int (nI rnext), .int rvalue, .int rnumber]))] 0 0 (Ui D (fun (r : Int32) (u : (Nat → Int32) × (Nat → Nat) × (Nat → Nat → Int32) × (Nat → Nat → Int64) × (Nat → Int64)) => (u.2.1 0 ≤ 600)) (fun u : (Nat → Int32) × (Nat → Nat) × (Nat → Nat → Int32) × (Nat → Nat → Int64) × (Nat → Int64) => [((o 0), .inr (10, [.ref (o 1), .ref (o 2), .ref (o 3), .ref (o 4), .ref (o 5), .ref (o 6), .ref (o 7), .ref (o 8), .ref (o 9), .ref (o 10), .ref (o 11), .ref (o 12), .ref (o 13), .ref (o 14)])), ((o 1), .inr (4, [.ref (o 15), .int (nI (u.2.1 0)), .int rfault, .int rplace, .int rkind, .int (nI rstart), .int (nI rnext), .int rvalue, .int rnumber]))])) := by
  refine MU.of (by decide) (Nat.le_of_ble_eq_true rfl) ?_
  intro p e s m below meth c ls A args Q S hr hlk hnm hQ hK hP hD hZ hA hS hl
  have hx := S.1
  have hb := S.2.1
  have hl : lv_has ls 2 [(0, .ref (o 0)), (1, .int p0)] := hl
  refine lv_iload_n hx hb dX10_end_0 rfl (lv_at hl 1 rfl) ?_
  refine lv_if_lt (tgt := 15) hx hb dX10_end_1 (by decide) (fun c_1 => ?_) (fun c_1 => ?_)
  · skip
    refine lv_iconst (v := (-1)) hx hb dX10_end_15 (by decide) ?_
    exact x_reti S hr hlk hQ hS ((fun i => ([] : List (Int32)).getD i 0), (fun i => ([rsize] : List (Nat)).getD i 0), (fun i => ([] : List (Nat → Int32)).getD i (fun _ => 0)), (fun i => ([] : List (Nat → Int64)).getD i (fun _ => 0)), (fun i => ([] : List (Int64)).getD i 0)) (show rsize ≤ 600 by omega) (x_B hP hD) dX10_end_16
  · skip
    refine lv_iload_n hx hb dX10_end_4 rfl (lv_at hl 1 rfl) ?_
    refine lv_aload_n hx hb dX10_end_5 rfl (lv_at hl 0 rfl) ?_
    refine x_get S hK hP 0 rfl cfX10 0 lkX10_10 (by decide) rfl dX10_end_6 ?_
    refine x_get S hK hP 1 rfl cfX4 1 lkX10_114 (by decide) rfl dX10_end_9 ?_
    refine lv_icmp_le (tgt := 17) hx hb dX10_end_12 (by decide) (fun c_2 => ?_) (fun c_2 => ?_)
    · skip
      obtain ⟨kn, hkn, ekn⟩ : ∃ kn : Nat, kn < rsize + 1 ∧ p0 = nI kn := nat_in c_1 c_2 rfl (by omega)
      have hl : lv_has ls 2 [(0, .ref (o 0)), (1, .int (nI kn))] := by rw [ekn] at hl; exact hl
      refine lv_aload_n hx hb dX10_end_17 rfl (lv_at hl 0 rfl) ?_
      refine x_get S hK hP 0 rfl cfX10 0 lkX10_10 (by decide) rfl dX10_end_18 ?_
      refine lv_iload_n hx hb dX10_end_21 rfl (lv_at hl 1 rfl) ?_
      refine x_put (ws' := [((o 0), .inr (10, [.ref (o 1), .ref (o 2), .ref (o 3), .ref (o 4), .ref (o 5), .ref (o 6), .ref (o 7), .ref (o 8), .ref (o 9), .ref (o 10), .ref (o 11), .ref (o 12), .ref (o 13), .ref (o 14)])), ((o 1), .inr (4, [.ref (o 15), .int (nI kn), .int rfault, .int rplace, .int rkind, .int (nI rstart), .int (nI rnext), .int rvalue, .int rnumber]))]) S hK hP hD hS 1 rfl cfX4 1 lkX10_114 (by decide) rfl rfl rfl (Nat.le_of_ble_eq_true rfl) rfl dX10_end_22 (fun H locs hP hD hS => ?_)
      refine lv_iload_n hx hb dX10_end_25 rfl (lv_at hl 1 rfl) ?_
      exact x_reti S hr hlk hQ hS ((fun i => ([] : List (Int32)).getD i 0), (fun i => ([kn] : List (Nat)).getD i 0), (fun i => ([] : List (Nat → Int32)).getD i (fun _ => 0)), (fun i => ([] : List (Nat → Int64)).getD i (fun _ => 0)), (fun i => ([] : List (Int64)).getD i 0)) (show kn ≤ 600 by omega) (x_B hP hD) dX10_end_26
    · skip
      refine lv_iconst (v := (-1)) hx hb dX10_end_15 (by decide) ?_
      exact x_reti S hr hlk hQ hS ((fun i => ([] : List (Int32)).getD i 0), (fun i => ([rsize] : List (Nat)).getD i 0), (fun i => ([] : List (Nat → Int32)).getD i (fun _ => 0)), (fun i => ([] : List (Nat → Int64)).getD i (fun _ => 0)), (fun i => ([] : List (Int64)).getD i 0)) (show rsize ≤ 600 by omega) (x_B hP hD) dX10_end_16

set_option maxHeartbeats 4000000 in
set_option maxRecDepth 100000 in
theorem ctX10_garden (l : Launch) (D : va_G) (k : Nat → ClassId) (z : Nat → Nat) (o : Nat → Nat) (rfault : Int32) (rplace : Int32) (rkind : Int32) (rvalue : Int32) (rnumber : Int32) (rsize : Nat) (rstart : Nat) (rnext : Nat) (f15 : Nat → Int32) (dlines : Int32) (dhours : Nat) (dlaw : Int32) (dodds : Int32) (drows : Nat) (dheads : Nat) (dsayings : Nat) (dslugs : Nat) (dacts : Nat) (f16 : Nat → Int32) (f17 : Nat → Int32) (f18 : Nat → Int32) (f19 : Nat → Int32) (f20 : Nat → Int32) (f21 : Nat → Int32) (f22 : Nat → Int32) (f23 : Nat → Int32) (f24 : Nat → Int32) (f25 : Nat → Int32) (glines : Int32) (ghours : Nat) (glaw : Int32) (godds : Int32) (grows : Nat) (gheads : Nat) (gsayings : Nat) (gslugs : Nat) (gacts : Nat) (f26 : Nat → Int32) (f27 : Nat → Int32) (f28 : Nat → Int32) (f29 : Nat → Int32) (f30 : Nat → Int32) (f31 : Nat → Int32) (f32 : Nat → Int32) (f33 : Nat → Int32) (f34 : Nat → Int32) (f35 : Nat → Int32) (f69 : Nat → Int32) (f70 : Nat → Int32) (f71 : Nat → Int32) (clawNow : Int32) (charder : Int32) (ctold : Int32) (creply : Int32) (cwet : Int32) (f72 : Nat → Int32) (f74 : Nat → Int32) (f76 : Nat → Int32) (kopener : Int32) (kworth : Int32) (hrsize : rsize ≤ 600) (hrstart : rstart ≤ 600) (hrnext : rnext ≤ 600) (hdhours : dhours ≤ 16) (hdrows : drows ≤ 4) (hdheads : dheads ≤ 12) (hdsayings : dsayings ≤ 8) (hdslugs : dslugs ≤ 4) (hdacts : dacts ≤ 30) (hghours : ghours ≤ 16) (hgrows : grows ≤ 4) (hgheads : gheads ≤ 12) (hgsayings : gsayings ≤ 8) (hgslugs : gslugs ≤ 4) (hgacts : gacts ≤ 30) : MU l yX10_garden cX10_garden 1 (some .int) 10 D k z [.ref (o 0)] [((o 0), .inr (10, [.ref (o 1), .ref (o 2), .ref (o 3), .ref (o 4), .ref (o 5), .ref (o 6), .ref (o 7), .ref (o 8), .ref (o 9), .ref (o 10), .ref (o 11), .ref (o 12), .ref (o 13), .ref (o 14)])), ((o 1), .inr (4, [.ref (o 15), .int (nI rsize), .int rfault, .int rplace, .int rkind, .int (nI rstart), .int (nI rnext), .int rvalue, .int rnumber])), ((o 15), .inl (k 1, 600, .inl f15)), ((o 2), .inr (2, [.int dlines, .int (nI dhours), .int dlaw, .int dodds, .int (nI drows), .int (nI dheads), .int (nI dsayings), .int (nI dslugs), .int (nI dacts), .ref (o 16), .ref (o 17), .ref (o 18), .ref (o 19), .ref (o 20), .ref (o 21), .ref (o 22), .ref (o 23), .ref (o 24), .ref (o 25)])), ((o 16), .inl (k 0, 12, .inl f16)), ((o 17), .inl (k 0, 12, .inl f17)), ((o 18), .inl (k 0, 12, .inl f18)), ((o 19), .inl (k 0, 12, .inl f19)), ((o 20), .inl (k 0, 12, .inl f20)), ((o 21), .inl (k 0, 12, .inl f21)), ((o 22), .inl (k 0, 4, .inl f22)), ((o 23), .inl (k 0, 42, .inl f23)), ((o 24), .inl (k 0, 42, .inl f24)), ((o 25), .inl (k 0, 42, .inl f25)), ((o 3), .inr (2, [.int glines, .int (nI ghours), .int glaw, .int godds, .int (nI grows), .int (nI gheads), .int (nI gsayings), .int (nI gslugs), .int (nI gacts), .ref (o 26), .ref (o 27), .ref (o 28), .ref (o 29), .ref (o 30), .ref (o 31), .ref (o 32), .ref (o 33), .ref (o 34), .ref (o 35)])), ((o 26), .inl (k 0, 12, .inl f26)), ((o 27), .inl (k 0, 12, .inl f27)), ((o 28), .inl (k 0, 12, .inl f28)), ((o 29), .inl (k 0, 12, .inl f29)), ((o 30), .inl (k 0, 12, .inl f30)), ((o 31), .inl (k 0, 12, .inl f31)), ((o 32), .inl (k 0, 4, .inl f32)), ((o 33), .inl (k 0, 42, .inl f33)), ((o 34), .inl (k 0, 42, .inl f34)), ((o 35), .inl (k 0, 42, .inl f35)), ((o 4), .inr (3, [.ref (o 69), .ref (o 70), .ref (o 71)])), ((o 69), .inl (k 0, 17, .inl f69)), ((o 70), .inl (k 0, 17, .inl f70)), ((o 71), .inl (k 0, 17, .inl f71)), ((o 5), .inr (1, [.ref (o 3), .ref (o 4), .int clawNow, .int charder, .int ctold, .int creply, .int cwet, .ref (o 72)])), ((o 72), .inl (k 0, 17, .inl f72)), ((o 8), .inr (8, [.ref (o 3), .ref (o 4), .ref (o 6), .ref (o 74), .ref (o 75), .ref (o 76)])), ((o 74), .inl (k 0, 3, .inl f74)), ((o 76), .inl (k 3, 3, .inl f76)), ((o 9), .inr (0, [.ref (o 3), .ref (o 6), .int kopener, .int kworth]))] 0 0 (Ui D (fun (r : Int32) (u : (Nat → Int32) × (Nat → Nat) × (Nat → Nat → Int32) × (Nat → Nat → Int64) × (Nat → Int64)) => (u.2.1 0 ≤ 600) ∧ (u.2.1 1 ≤ 600) ∧ (u.2.1 2 ≤ 600) ∧ (u.2.1 3 ≤ 16) ∧ (u.2.1 4 ≤ 4) ∧ (u.2.1 5 ≤ 12) ∧ (u.2.1 6 ≤ 8) ∧ (u.2.1 7 ≤ 4) ∧ (u.2.1 8 ≤ 30) ∧ (u.2.1 9 ≤ 16) ∧ (u.2.1 10 ≤ 4) ∧ (u.2.1 11 ≤ 12) ∧ (u.2.1 12 ≤ 8) ∧ (u.2.1 13 ≤ 4) ∧ (u.2.1 14 ≤ 30)) (fun u : (Nat → Int32) × (Nat → Nat) × (Nat → Nat → Int32) × (Nat → Nat → Int64) × (Nat → Int64) => [((o 0), .inr (10, [.ref (o 1), .ref (o 2), .ref (o 3), .ref (o 4), .ref (o 5), .ref (o 6), .ref (o 7), .ref (o 8), .ref (o 9), .ref (o 10), .ref (o 11), .ref (o 12), .ref (o 13), .ref (o 14)])), ((o 1), .inr (4, [.ref (o 15), .int (nI (u.2.1 0)), .int (u.1 0), .int (u.1 1), .int (u.1 2), .int (nI (u.2.1 1)), .int (nI (u.2.1 2)), .int (u.1 3), .int (u.1 4)])), ((o 15), .inl (k 1, 600, .inl f15)), ((o 2), .inr (2, [.int (u.1 5), .int (nI (u.2.1 3)), .int (u.1 6), .int (u.1 7), .int (nI (u.2.1 4)), .int (nI (u.2.1 5)), .int (nI (u.2.1 6)), .int (nI (u.2.1 7)), .int (nI (u.2.1 8)), .ref (o 16), .ref (o 17), .ref (o 18), .ref (o 19), .ref (o 20), .ref (o 21), .ref (o 22), .ref (o 23), .ref (o 24), .ref (o 25)])), ((o 16), .inl (k 0, 12, .inl (u.2.2.1 0))), ((o 17), .inl (k 0, 12, .inl (u.2.2.1 1))), ((o 18), .inl (k 0, 12, .inl (u.2.2.1 2))), ((o 19), .inl (k 0, 12, .inl (u.2.2.1 3))), ((o 20), .inl (k 0, 12, .inl (u.2.2.1 4))), ((o 21), .inl (k 0, 12, .inl (u.2.2.1 5))), ((o 22), .inl (k 0, 4, .inl (u.2.2.1 6))), ((o 23), .inl (k 0, 42, .inl (u.2.2.1 7))), ((o 24), .inl (k 0, 42, .inl (u.2.2.1 8))), ((o 25), .inl (k 0, 42, .inl (u.2.2.1 9))), ((o 3), .inr (2, [.int (u.1 8), .int (nI (u.2.1 9)), .int (u.1 9), .int (u.1 10), .int (nI (u.2.1 10)), .int (nI (u.2.1 11)), .int (nI (u.2.1 12)), .int (nI (u.2.1 13)), .int (nI (u.2.1 14)), .ref (o 26), .ref (o 27), .ref (o 28), .ref (o 29), .ref (o 30), .ref (o 31), .ref (o 32), .ref (o 33), .ref (o 34), .ref (o 35)])), ((o 26), .inl (k 0, 12, .inl (u.2.2.1 10))), ((o 27), .inl (k 0, 12, .inl (u.2.2.1 11))), ((o 28), .inl (k 0, 12, .inl (u.2.2.1 12))), ((o 29), .inl (k 0, 12, .inl (u.2.2.1 13))), ((o 30), .inl (k 0, 12, .inl (u.2.2.1 14))), ((o 31), .inl (k 0, 12, .inl (u.2.2.1 15))), ((o 32), .inl (k 0, 4, .inl (u.2.2.1 16))), ((o 33), .inl (k 0, 42, .inl (u.2.2.1 17))), ((o 34), .inl (k 0, 42, .inl (u.2.2.1 18))), ((o 35), .inl (k 0, 42, .inl (u.2.2.1 19))), ((o 4), .inr (3, [.ref (o 69), .ref (o 70), .ref (o 71)])), ((o 69), .inl (k 0, 17, .inl (u.2.2.1 20))), ((o 70), .inl (k 0, 17, .inl (u.2.2.1 21))), ((o 71), .inl (k 0, 17, .inl (u.2.2.1 22))), ((o 5), .inr (1, [.ref (o 3), .ref (o 4), .int (u.1 11), .int (u.1 12), .int (u.1 13), .int (u.1 14), .int (u.1 15), .ref (o 72)])), ((o 72), .inl (k 0, 17, .inl (u.2.2.1 23))), ((o 8), .inr (8, [.ref (o 3), .ref (o 4), .ref (o 6), .ref (o 74), .ref (o 75), .ref (o 76)])), ((o 74), .inl (k 0, 3, .inl (u.2.2.1 24))), ((o 76), .inl (k 3, 3, .inl (u.2.2.1 25))), ((o 9), .inr (0, [.ref (o 3), .ref (o 6), .int (u.1 16), .int kworth]))])) := by
  refine MU.of (by decide) (Nat.le_of_ble_eq_true rfl) ?_
  intro p e s m below meth c ls A args Q S hr hlk hnm hQ hK hP hD hZ hA hS hl
  have hx := S.1
  have hb := S.2.1
  have hl : lv_has ls 1 [(0, .ref (o 0))] := hl
  refine lv_aload_n hx hb dX10_garden_0 rfl (lv_at hl 0 rfl) ?_
  refine x_get S hK hP 0 rfl cfX10 0 lkX10_10 (by decide) rfl dX10_garden_1 ?_
  refine lv_aload_n hx hb dX10_garden_4 rfl (lv_at hl 0 rfl) ?_
  refine x_get S hK hP 0 rfl cfX10 1 lkX10_19 (by decide) rfl dX10_garden_5 ?_
  refine x_muVi (wr := [((o 0), .inr (10, [.ref (o 1), .ref (o 2), .ref (o 3), .ref (o 4), .ref (o 5), .ref (o 6), .ref (o 7), .ref (o 8), .ref (o 9), .ref (o 10), .ref (o 11), .ref (o 12), .ref (o 13), .ref (o 14)])), ((o 3), .inr (2, [.int glines, .int (nI ghours), .int glaw, .int godds, .int (nI grows), .int (nI gheads), .int (nI gsayings), .int (nI gslugs), .int (nI gacts), .ref (o 26), .ref (o 27), .ref (o 28), .ref (o 29), .ref (o 30), .ref (o 31), .ref (o 32), .ref (o 33), .ref (o 34), .ref (o 35)])), ((o 26), .inl (k 0, 12, .inl f26)), ((o 27), .inl (k 0, 12, .inl f27)), ((o 28), .inl (k 0, 12, .inl f28)), ((o 29), .inl (k 0, 12, .inl f29)), ((o 30), .inl (k 0, 12, .inl f30)), ((o 31), .inl (k 0, 12, .inl f31)), ((o 32), .inl (k 0, 4, .inl f32)), ((o 33), .inl (k 0, 42, .inl f33)), ((o 34), .inl (k 0, 42, .inl f34)), ((o 35), .inl (k 0, 42, .inl f35)), ((o 4), .inr (3, [.ref (o 69), .ref (o 70), .ref (o 71)])), ((o 69), .inl (k 0, 17, .inl f69)), ((o 70), .inl (k 0, 17, .inl f70)), ((o 71), .inl (k 0, 17, .inl f71)), ((o 5), .inr (1, [.ref (o 3), .ref (o 4), .int clawNow, .int charder, .int ctold, .int creply, .int cwet, .ref (o 72)])), ((o 72), .inl (k 0, 17, .inl f72)), ((o 8), .inr (8, [.ref (o 3), .ref (o 4), .ref (o 6), .ref (o 74), .ref (o 75), .ref (o 76)])), ((o 74), .inl (k 0, 3, .inl f74)), ((o 76), .inl (k 3, 3, .inl f76)), ((o 9), .inr (0, [.ref (o 3), .ref (o 6), .int kopener, .int kworth]))]) (As := [.ref (o 2)]) S hK hP hD hZ hS hA hl mwX4_parse lkX10_118 (ctX4_parse l D k z o rfault rplace rkind rvalue rnumber rsize rstart rnext f15 dlines dhours dlaw dodds drows dheads dsayings dslugs dacts f16 f17 f18 f19 f20 f21 f22 f23 f24 f25 (by omega) (by omega) (by omega) (by omega) (by omega) (by omega) (by omega) (by omega) (by omega)) [1, 2, 3, 4, 5, 6, 7, 8, 9, 10, 11, 12, 13] [0, 14, 15, 16, 17, 18, 19, 20, 21, 22, 23, 24, 25, 26, 27, 28, 29, 30, 31, 32, 33, 34] rfl rfl (by decide) (by decide) (by decide) rfl rfl rfl rfl rfl ⟨Nat.le_of_ble_eq_true rfl, Nat.le_of_ble_eq_true rfl, Nat.le_of_ble_eq_true rfl⟩ dX10_garden_8 ⟨Nat.le_of_ble_eq_true rfl, Nat.le_of_ble_eq_true rfl⟩ (fun r_1 u_2 H locs hr_1 hP hD hS => ?_)
  have hP : va_P D vwCl [((o 0), .inr (10, [.ref (o 1), .ref (o 2), .ref (o 3), .ref (o 4), .ref (o 5), .ref (o 6), .ref (o 7), .ref (o 8), .ref (o 9), .ref (o 10), .ref (o 11), .ref (o 12), .ref (o 13), .ref (o 14)])), ((o 1), .inr (4, [.ref (o 15), .int (nI rsize), .int (u_2.1 0), .int (u_2.1 1), .int (u_2.1 2), .int (nI (u_2.2.1 0)), .int (nI (u_2.2.1 1)), .int (u_2.1 3), .int (u_2.1 4)])), ((o 15), .inl (k 1, 600, .inl f15)), ((o 2), .inr (2, [.int (u_2.1 5), .int (nI (u_2.2.1 2)), .int (u_2.1 6), .int (u_2.1 7), .int (nI (u_2.2.1 3)), .int (nI (u_2.2.1 4)), .int (nI (u_2.2.1 5)), .int (nI (u_2.2.1 6)), .int (nI (u_2.2.1 7)), .ref (o 16), .ref (o 17), .ref (o 18), .ref (o 19), .ref (o 20), .ref (o 21), .ref (o 22), .ref (o 23), .ref (o 24), .ref (o 25)])), ((o 16), .inl (k 0, 12, .inl (u_2.2.2.1 0))), ((o 17), .inl (k 0, 12, .inl (u_2.2.2.1 1))), ((o 18), .inl (k 0, 12, .inl (u_2.2.2.1 2))), ((o 19), .inl (k 0, 12, .inl (u_2.2.2.1 3))), ((o 20), .inl (k 0, 12, .inl (u_2.2.2.1 4))), ((o 21), .inl (k 0, 12, .inl (u_2.2.2.1 5))), ((o 22), .inl (k 0, 4, .inl (u_2.2.2.1 6))), ((o 23), .inl (k 0, 42, .inl (u_2.2.2.1 7))), ((o 24), .inl (k 0, 42, .inl (u_2.2.2.1 8))), ((o 25), .inl (k 0, 42, .inl (u_2.2.2.1 9))), ((o 3), .inr (2, [.int glines, .int (nI ghours), .int glaw, .int godds, .int (nI grows), .int (nI gheads), .int (nI gsayings), .int (nI gslugs), .int (nI gacts), .ref (o 26), .ref (o 27), .ref (o 28), .ref (o 29), .ref (o 30), .ref (o 31), .ref (o 32), .ref (o 33), .ref (o 34), .ref (o 35)])), ((o 26), .inl (k 0, 12, .inl f26)), ((o 27), .inl (k 0, 12, .inl f27)), ((o 28), .inl (k 0, 12, .inl f28)), ((o 29), .inl (k 0, 12, .inl f29)), ((o 30), .inl (k 0, 12, .inl f30)), ((o 31), .inl (k 0, 12, .inl f31)), ((o 32), .inl (k 0, 4, .inl f32)), ((o 33), .inl (k 0, 42, .inl f33)), ((o 34), .inl (k 0, 42, .inl f34)), ((o 35), .inl (k 0, 42, .inl f35)), ((o 4), .inr (3, [.ref (o 69), .ref (o 70), .ref (o 71)])), ((o 69), .inl (k 0, 17, .inl f69)), ((o 70), .inl (k 0, 17, .inl f70)), ((o 71), .inl (k 0, 17, .inl f71)), ((o 5), .inr (1, [.ref (o 3), .ref (o 4), .int clawNow, .int charder, .int ctold, .int creply, .int cwet, .ref (o 72)])), ((o 72), .inl (k 0, 17, .inl f72)), ((o 8), .inr (8, [.ref (o 3), .ref (o 4), .ref (o 6), .ref (o 74), .ref (o 75), .ref (o 76)])), ((o 74), .inl (k 0, 3, .inl f74)), ((o 76), .inl (k 3, 3, .inl f76)), ((o 9), .inr (0, [.ref (o 3), .ref (o 6), .int kopener, .int kworth]))] H := hP.sub [0, 22, 23, 24, 25, 26, 27, 28, 29, 30, 31, 32, 33, 34, 1, 2, 3, 4, 5, 6, 7, 8, 9, 10, 11, 12, 13, 14, 15, 16, 17, 18, 19, 20, 21] rfl
  have hD : va_D A [((o 0), .inr (10, [.ref (o 1), .ref (o 2), .ref (o 3), .ref (o 4), .ref (o 5), .ref (o 6), .ref (o 7), .ref (o 8), .ref (o 9), .ref (o 10), .ref (o 11), .ref (o 12), .ref (o 13), .ref (o 14)])), ((o 1), .inr (4, [.ref (o 15), .int (nI rsize), .int (u_2.1 0), .int (u_2.1 1), .int (u_2.1 2), .int (nI (u_2.2.1 0)), .int (nI (u_2.2.1 1)), .int (u_2.1 3), .int (u_2.1 4)])), ((o 15), .inl (k 1, 600, .inl f15)), ((o 2), .inr (2, [.int (u_2.1 5), .int (nI (u_2.2.1 2)), .int (u_2.1 6), .int (u_2.1 7), .int (nI (u_2.2.1 3)), .int (nI (u_2.2.1 4)), .int (nI (u_2.2.1 5)), .int (nI (u_2.2.1 6)), .int (nI (u_2.2.1 7)), .ref (o 16), .ref (o 17), .ref (o 18), .ref (o 19), .ref (o 20), .ref (o 21), .ref (o 22), .ref (o 23), .ref (o 24), .ref (o 25)])), ((o 16), .inl (k 0, 12, .inl (u_2.2.2.1 0))), ((o 17), .inl (k 0, 12, .inl (u_2.2.2.1 1))), ((o 18), .inl (k 0, 12, .inl (u_2.2.2.1 2))), ((o 19), .inl (k 0, 12, .inl (u_2.2.2.1 3))), ((o 20), .inl (k 0, 12, .inl (u_2.2.2.1 4))), ((o 21), .inl (k 0, 12, .inl (u_2.2.2.1 5))), ((o 22), .inl (k 0, 4, .inl (u_2.2.2.1 6))), ((o 23), .inl (k 0, 42, .inl (u_2.2.2.1 7))), ((o 24), .inl (k 0, 42, .inl (u_2.2.2.1 8))), ((o 25), .inl (k 0, 42, .inl (u_2.2.2.1 9))), ((o 3), .inr (2, [.int glines, .int (nI ghours), .int glaw, .int godds, .int (nI grows), .int (nI gheads), .int (nI gsayings), .int (nI gslugs), .int (nI gacts), .ref (o 26), .ref (o 27), .ref (o 28), .ref (o 29), .ref (o 30), .ref (o 31), .ref (o 32), .ref (o 33), .ref (o 34), .ref (o 35)])), ((o 26), .inl (k 0, 12, .inl f26)), ((o 27), .inl (k 0, 12, .inl f27)), ((o 28), .inl (k 0, 12, .inl f28)), ((o 29), .inl (k 0, 12, .inl f29)), ((o 30), .inl (k 0, 12, .inl f30)), ((o 31), .inl (k 0, 12, .inl f31)), ((o 32), .inl (k 0, 4, .inl f32)), ((o 33), .inl (k 0, 42, .inl f33)), ((o 34), .inl (k 0, 42, .inl f34)), ((o 35), .inl (k 0, 42, .inl f35)), ((o 4), .inr (3, [.ref (o 69), .ref (o 70), .ref (o 71)])), ((o 69), .inl (k 0, 17, .inl f69)), ((o 70), .inl (k 0, 17, .inl f70)), ((o 71), .inl (k 0, 17, .inl f71)), ((o 5), .inr (1, [.ref (o 3), .ref (o 4), .int clawNow, .int charder, .int ctold, .int creply, .int cwet, .ref (o 72)])), ((o 72), .inl (k 0, 17, .inl f72)), ((o 8), .inr (8, [.ref (o 3), .ref (o 4), .ref (o 6), .ref (o 74), .ref (o 75), .ref (o 76)])), ((o 74), .inl (k 0, 3, .inl f74)), ((o 76), .inl (k 3, 3, .inl f76)), ((o 9), .inr (0, [.ref (o 3), .ref (o 6), .int kopener, .int kworth]))] := hD.sub [0, 22, 23, 24, 25, 26, 27, 28, 29, 30, 31, 32, 33, 34, 1, 2, 3, 4, 5, 6, 7, 8, 9, 10, 11, 12, 13, 14, 15, 16, 17, 18, 19, 20, 21] (by decide) rfl
  obtain ⟨hg_3, hg_4, hg_5, hg_6, hg_7, hg_8, hg_9, hg_10⟩ := hr_1
  refine lv_if_ne (tgt := 17) hx hb dX10_garden_11 (by decide) (fun c_11 => ?_) (fun c_11 => ?_)
  · skip
    refine lv_aload_n hx hb dX10_garden_17 rfl (lv_at hl 0 rfl) ?_
    refine x_get S hK hP 0 rfl cfX10 0 lkX10_10 (by decide) rfl dX10_garden_18 ?_
    refine lv_iconst (v := 0) hx hb dX10_garden_21 (by decide) ?_
    refine x_put (ws' := [((o 0), .inr (10, [.ref (o 1), .ref (o 2), .ref (o 3), .ref (o 4), .ref (o 5), .ref (o 6), .ref (o 7), .ref (o 8), .ref (o 9), .ref (o 10), .ref (o 11), .ref (o 12), .ref (o 13), .ref (o 14)])), ((o 1), .inr (4, [.ref (o 15), .int 0, .int (u_2.1 0), .int (u_2.1 1), .int (u_2.1 2), .int (nI (u_2.2.1 0)), .int (nI (u_2.2.1 1)), .int (u_2.1 3), .int (u_2.1 4)])), ((o 15), .inl (k 1, 600, .inl f15)), ((o 2), .inr (2, [.int (u_2.1 5), .int (nI (u_2.2.1 2)), .int (u_2.1 6), .int (u_2.1 7), .int (nI (u_2.2.1 3)), .int (nI (u_2.2.1 4)), .int (nI (u_2.2.1 5)), .int (nI (u_2.2.1 6)), .int (nI (u_2.2.1 7)), .ref (o 16), .ref (o 17), .ref (o 18), .ref (o 19), .ref (o 20), .ref (o 21), .ref (o 22), .ref (o 23), .ref (o 24), .ref (o 25)])), ((o 16), .inl (k 0, 12, .inl (u_2.2.2.1 0))), ((o 17), .inl (k 0, 12, .inl (u_2.2.2.1 1))), ((o 18), .inl (k 0, 12, .inl (u_2.2.2.1 2))), ((o 19), .inl (k 0, 12, .inl (u_2.2.2.1 3))), ((o 20), .inl (k 0, 12, .inl (u_2.2.2.1 4))), ((o 21), .inl (k 0, 12, .inl (u_2.2.2.1 5))), ((o 22), .inl (k 0, 4, .inl (u_2.2.2.1 6))), ((o 23), .inl (k 0, 42, .inl (u_2.2.2.1 7))), ((o 24), .inl (k 0, 42, .inl (u_2.2.2.1 8))), ((o 25), .inl (k 0, 42, .inl (u_2.2.2.1 9))), ((o 3), .inr (2, [.int glines, .int (nI ghours), .int glaw, .int godds, .int (nI grows), .int (nI gheads), .int (nI gsayings), .int (nI gslugs), .int (nI gacts), .ref (o 26), .ref (o 27), .ref (o 28), .ref (o 29), .ref (o 30), .ref (o 31), .ref (o 32), .ref (o 33), .ref (o 34), .ref (o 35)])), ((o 26), .inl (k 0, 12, .inl f26)), ((o 27), .inl (k 0, 12, .inl f27)), ((o 28), .inl (k 0, 12, .inl f28)), ((o 29), .inl (k 0, 12, .inl f29)), ((o 30), .inl (k 0, 12, .inl f30)), ((o 31), .inl (k 0, 12, .inl f31)), ((o 32), .inl (k 0, 4, .inl f32)), ((o 33), .inl (k 0, 42, .inl f33)), ((o 34), .inl (k 0, 42, .inl f34)), ((o 35), .inl (k 0, 42, .inl f35)), ((o 4), .inr (3, [.ref (o 69), .ref (o 70), .ref (o 71)])), ((o 69), .inl (k 0, 17, .inl f69)), ((o 70), .inl (k 0, 17, .inl f70)), ((o 71), .inl (k 0, 17, .inl f71)), ((o 5), .inr (1, [.ref (o 3), .ref (o 4), .int clawNow, .int charder, .int ctold, .int creply, .int cwet, .ref (o 72)])), ((o 72), .inl (k 0, 17, .inl f72)), ((o 8), .inr (8, [.ref (o 3), .ref (o 4), .ref (o 6), .ref (o 74), .ref (o 75), .ref (o 76)])), ((o 74), .inl (k 0, 3, .inl f74)), ((o 76), .inl (k 3, 3, .inl f76)), ((o 9), .inr (0, [.ref (o 3), .ref (o 6), .int kopener, .int kworth]))]) S hK hP hD hS 1 rfl cfX4 1 lkX10_114 (by decide) rfl rfl rfl (Nat.le_of_ble_eq_true rfl) rfl dX10_garden_22 (fun H locs hP hD hS => ?_)
    refine lv_aload_n hx hb dX10_garden_25 rfl (lv_at hl 0 rfl) ?_
    refine x_get S hK hP 0 rfl cfX10 2 lkX10_23 (by decide) rfl dX10_garden_26 ?_
    refine lv_aload_n hx hb dX10_garden_29 rfl (lv_at hl 0 rfl) ?_
    refine x_get S hK hP 0 rfl cfX10 1 lkX10_19 (by decide) rfl dX10_garden_30 ?_
    refine x_muVv (wr := [((o 0), .inr (10, [.ref (o 1), .ref (o 2), .ref (o 3), .ref (o 4), .ref (o 5), .ref (o 6), .ref (o 7), .ref (o 8), .ref (o 9), .ref (o 10), .ref (o 11), .ref (o 12), .ref (o 13), .ref (o 14)])), ((o 1), .inr (4, [.ref (o 15), .int 0, .int (u_2.1 0), .int (u_2.1 1), .int (u_2.1 2), .int (nI (u_2.2.1 0)), .int (nI (u_2.2.1 1)), .int (u_2.1 3), .int (u_2.1 4)])), ((o 15), .inl (k 1, 600, .inl f15)), ((o 4), .inr (3, [.ref (o 69), .ref (o 70), .ref (o 71)])), ((o 69), .inl (k 0, 17, .inl f69)), ((o 70), .inl (k 0, 17, .inl f70)), ((o 71), .inl (k 0, 17, .inl f71)), ((o 5), .inr (1, [.ref (o 3), .ref (o 4), .int clawNow, .int charder, .int ctold, .int creply, .int cwet, .ref (o 72)])), ((o 72), .inl (k 0, 17, .inl f72)), ((o 8), .inr (8, [.ref (o 3), .ref (o 4), .ref (o 6), .ref (o 74), .ref (o 75), .ref (o 76)])), ((o 74), .inl (k 0, 3, .inl f74)), ((o 76), .inl (k 3, 3, .inl f76)), ((o 9), .inr (0, [.ref (o 3), .ref (o 6), .int kopener, .int kworth]))]) (As := [.ref (o 2)]) S hK hP hD hZ hS hA hl mwX2_copy lkX10_122 (ctX2_copy l D k z glines ghours glaw godds grows gheads gsayings gslugs gacts (fun i => ([(o 3), (o 26), (o 27), (o 28), (o 29), (o 30), (o 31), (o 32), (o 33), (o 34), (o 35)] : List Nat).getD i 0) f26 f27 f28 f29 f30 f31 f32 f33 f34 f35 (u_2.1 5) (u_2.2.1 2) (u_2.1 6) (u_2.1 7) (u_2.2.1 3) (u_2.2.1 4) (u_2.2.1 5) (u_2.2.1 6) (u_2.2.1 7) (fun i => ([(o 2), (o 16), (o 17), (o 18), (o 19), (o 20), (o 21), (o 22), (o 23), (o 24), (o 25)] : List Nat).getD i 0) (u_2.2.2.1 0) (u_2.2.2.1 1) (u_2.2.2.1 2) (u_2.2.2.1 3) (u_2.2.2.1 4) (u_2.2.2.1 5) (u_2.2.2.1 6) (u_2.2.2.1 7) (u_2.2.2.1 8) (u_2.2.2.1 9) (by omega) (by omega) (by omega) (by omega) (by omega) (by omega) (by omega) (by omega) (by omega) (by omega) (by omega) (by omega)) [14, 15, 16, 17, 18, 19, 20, 21, 22, 23, 24, 3, 4, 5, 6, 7, 8, 9, 10, 11, 12, 13] [0, 1, 2, 25, 26, 27, 28, 29, 30, 31, 32, 33, 34] rfl rfl (by decide) (by decide) (by decide) rfl rfl rfl rfl rfl ⟨Nat.le_of_ble_eq_true rfl, Nat.le_of_ble_eq_true rfl, Nat.le_of_ble_eq_true rfl⟩ dX10_garden_33 ⟨Nat.le_of_ble_eq_true rfl, Nat.le_of_ble_eq_true rfl⟩ (fun u_13 H locs hr_12 hP hD hS => ?_)
    have hP : va_P D vwCl [((o 0), .inr (10, [.ref (o 1), .ref (o 2), .ref (o 3), .ref (o 4), .ref (o 5), .ref (o 6), .ref (o 7), .ref (o 8), .ref (o 9), .ref (o 10), .ref (o 11), .ref (o 12), .ref (o 13), .ref (o 14)])), ((o 1), .inr (4, [.ref (o 15), .int 0, .int (u_2.1 0), .int (u_2.1 1), .int (u_2.1 2), .int (nI (u_2.2.1 0)), .int (nI (u_2.2.1 1)), .int (u_2.1 3), .int (u_2.1 4)])), ((o 15), .inl (k 1, 600, .inl f15)), ((o 2), .inr (2, [.int (u_2.1 5), .int (nI (u_2.2.1 2)), .int (u_2.1 6), .int (u_2.1 7), .int (nI (u_2.2.1 3)), .int (nI (u_2.2.1 4)), .int (nI (u_2.2.1 5)), .int (nI (u_2.2.1 6)), .int (nI (u_2.2.1 7)), .ref (o 16), .ref (o 17), .ref (o 18), .ref (o 19), .ref (o 20), .ref (o 21), .ref (o 22), .ref (o 23), .ref (o 24), .ref (o 25)])), ((o 16), .inl (k 0, 12, .inl (u_2.2.2.1 0))), ((o 17), .inl (k 0, 12, .inl (u_2.2.2.1 1))), ((o 18), .inl (k 0, 12, .inl (u_2.2.2.1 2))), ((o 19), .inl (k 0, 12, .inl (u_2.2.2.1 3))), ((o 20), .inl (k 0, 12, .inl (u_2.2.2.1 4))), ((o 21), .inl (k 0, 12, .inl (u_2.2.2.1 5))), ((o 22), .inl (k 0, 4, .inl (u_2.2.2.1 6))), ((o 23), .inl (k 0, 42, .inl (u_2.2.2.1 7))), ((o 24), .inl (k 0, 42, .inl (u_2.2.2.1 8))), ((o 25), .inl (k 0, 42, .inl (u_2.2.2.1 9))), ((o 3), .inr (2, [.int (u_13.1 0), .int (nI (u_13.2.1 0)), .int (u_13.1 1), .int (u_13.1 2), .int (nI (u_13.2.1 1)), .int (nI (u_13.2.1 2)), .int (nI (u_13.2.1 3)), .int (nI (u_13.2.1 4)), .int (nI (u_13.2.1 5)), .ref (o 26), .ref (o 27), .ref (o 28), .ref (o 29), .ref (o 30), .ref (o 31), .ref (o 32), .ref (o 33), .ref (o 34), .ref (o 35)])), ((o 26), .inl (k 0, 12, .inl (u_13.2.2.1 0))), ((o 27), .inl (k 0, 12, .inl (u_13.2.2.1 2))), ((o 28), .inl (k 0, 12, .inl (u_13.2.2.1 3))), ((o 29), .inl (k 0, 12, .inl (u_13.2.2.1 4))), ((o 30), .inl (k 0, 12, .inl (u_13.2.2.1 5))), ((o 31), .inl (k 0, 12, .inl (u_13.2.2.1 6))), ((o 32), .inl (k 0, 4, .inl (u_13.2.2.1 7))), ((o 33), .inl (k 0, 42, .inl (u_13.2.2.1 8))), ((o 34), .inl (k 0, 42, .inl (u_13.2.2.1 9))), ((o 35), .inl (k 0, 42, .inl (u_13.2.2.1 1))), ((o 4), .inr (3, [.ref (o 69), .ref (o 70), .ref (o 71)])), ((o 69), .inl (k 0, 17, .inl f69)), ((o 70), .inl (k 0, 17, .inl f70)), ((o 71), .inl (k 0, 17, .inl f71)), ((o 5), .inr (1, [.ref (o 3), .ref (o 4), .int clawNow, .int charder, .int ctold, .int creply, .int cwet, .ref (o 72)])), ((o 72), .inl (k 0, 17, .inl f72)), ((o 8), .inr (8, [.ref (o 3), .ref (o 4), .ref (o 6), .ref (o 74), .ref (o 75), .ref (o 76)])), ((o 74), .inl (k 0, 3, .inl f74)), ((o 76), .inl (k 3, 3, .inl f76)), ((o 9), .inr (0, [.ref (o 3), .ref (o 6), .int kopener, .int kworth]))] H := hP.sub [0, 1, 2, 24, 25, 26, 27, 28, 29, 30, 31, 32, 33, 34, 13, 14, 15, 16, 17, 18, 19, 20, 21, 22, 23, 3, 4, 5, 6, 7, 8, 9, 10, 11, 12] rfl
    have hD : va_D A [((o 0), .inr (10, [.ref (o 1), .ref (o 2), .ref (o 3), .ref (o 4), .ref (o 5), .ref (o 6), .ref (o 7), .ref (o 8), .ref (o 9), .ref (o 10), .ref (o 11), .ref (o 12), .ref (o 13), .ref (o 14)])), ((o 1), .inr (4, [.ref (o 15), .int 0, .int (u_2.1 0), .int (u_2.1 1), .int (u_2.1 2), .int (nI (u_2.2.1 0)), .int (nI (u_2.2.1 1)), .int (u_2.1 3), .int (u_2.1 4)])), ((o 15), .inl (k 1, 600, .inl f15)), ((o 2), .inr (2, [.int (u_2.1 5), .int (nI (u_2.2.1 2)), .int (u_2.1 6), .int (u_2.1 7), .int (nI (u_2.2.1 3)), .int (nI (u_2.2.1 4)), .int (nI (u_2.2.1 5)), .int (nI (u_2.2.1 6)), .int (nI (u_2.2.1 7)), .ref (o 16), .ref (o 17), .ref (o 18), .ref (o 19), .ref (o 20), .ref (o 21), .ref (o 22), .ref (o 23), .ref (o 24), .ref (o 25)])), ((o 16), .inl (k 0, 12, .inl (u_2.2.2.1 0))), ((o 17), .inl (k 0, 12, .inl (u_2.2.2.1 1))), ((o 18), .inl (k 0, 12, .inl (u_2.2.2.1 2))), ((o 19), .inl (k 0, 12, .inl (u_2.2.2.1 3))), ((o 20), .inl (k 0, 12, .inl (u_2.2.2.1 4))), ((o 21), .inl (k 0, 12, .inl (u_2.2.2.1 5))), ((o 22), .inl (k 0, 4, .inl (u_2.2.2.1 6))), ((o 23), .inl (k 0, 42, .inl (u_2.2.2.1 7))), ((o 24), .inl (k 0, 42, .inl (u_2.2.2.1 8))), ((o 25), .inl (k 0, 42, .inl (u_2.2.2.1 9))), ((o 3), .inr (2, [.int (u_13.1 0), .int (nI (u_13.2.1 0)), .int (u_13.1 1), .int (u_13.1 2), .int (nI (u_13.2.1 1)), .int (nI (u_13.2.1 2)), .int (nI (u_13.2.1 3)), .int (nI (u_13.2.1 4)), .int (nI (u_13.2.1 5)), .ref (o 26), .ref (o 27), .ref (o 28), .ref (o 29), .ref (o 30), .ref (o 31), .ref (o 32), .ref (o 33), .ref (o 34), .ref (o 35)])), ((o 26), .inl (k 0, 12, .inl (u_13.2.2.1 0))), ((o 27), .inl (k 0, 12, .inl (u_13.2.2.1 2))), ((o 28), .inl (k 0, 12, .inl (u_13.2.2.1 3))), ((o 29), .inl (k 0, 12, .inl (u_13.2.2.1 4))), ((o 30), .inl (k 0, 12, .inl (u_13.2.2.1 5))), ((o 31), .inl (k 0, 12, .inl (u_13.2.2.1 6))), ((o 32), .inl (k 0, 4, .inl (u_13.2.2.1 7))), ((o 33), .inl (k 0, 42, .inl (u_13.2.2.1 8))), ((o 34), .inl (k 0, 42, .inl (u_13.2.2.1 9))), ((o 35), .inl (k 0, 42, .inl (u_13.2.2.1 1))), ((o 4), .inr (3, [.ref (o 69), .ref (o 70), .ref (o 71)])), ((o 69), .inl (k 0, 17, .inl f69)), ((o 70), .inl (k 0, 17, .inl f70)), ((o 71), .inl (k 0, 17, .inl f71)), ((o 5), .inr (1, [.ref (o 3), .ref (o 4), .int clawNow, .int charder, .int ctold, .int creply, .int cwet, .ref (o 72)])), ((o 72), .inl (k 0, 17, .inl f72)), ((o 8), .inr (8, [.ref (o 3), .ref (o 4), .ref (o 6), .ref (o 74), .ref (o 75), .ref (o 76)])), ((o 74), .inl (k 0, 3, .inl f74)), ((o 76), .inl (k 3, 3, .inl f76)), ((o 9), .inr (0, [.ref (o 3), .ref (o 6), .int kopener, .int kworth]))] := hD.sub [0, 1, 2, 24, 25, 26, 27, 28, 29, 30, 31, 32, 33, 34, 13, 14, 15, 16, 17, 18, 19, 20, 21, 22, 23, 3, 4, 5, 6, 7, 8, 9, 10, 11, 12] (by decide) rfl
    obtain ⟨hg_14, hg_15, hg_16, hg_17, hg_18, hg_19⟩ := hr_12
    refine lv_aload_n hx hb dX10_garden_36 rfl (lv_at hl 0 rfl) ?_
    refine x_muVv (wr := [((o 1), .inr (4, [.ref (o 15), .int 0, .int (u_2.1 0), .int (u_2.1 1), .int (u_2.1 2), .int (nI (u_2.2.1 0)), .int (nI (u_2.2.1 1)), .int (u_2.1 3), .int (u_2.1 4)])), ((o 15), .inl (k 1, 600, .inl f15)), ((o 2), .inr (2, [.int (u_2.1 5), .int (nI (u_2.2.1 2)), .int (u_2.1 6), .int (u_2.1 7), .int (nI (u_2.2.1 3)), .int (nI (u_2.2.1 4)), .int (nI (u_2.2.1 5)), .int (nI (u_2.2.1 6)), .int (nI (u_2.2.1 7)), .ref (o 16), .ref (o 17), .ref (o 18), .ref (o 19), .ref (o 20), .ref (o 21), .ref (o 22), .ref (o 23), .ref (o 24), .ref (o 25)])), ((o 16), .inl (k 0, 12, .inl (u_2.2.2.1 0))), ((o 17), .inl (k 0, 12, .inl (u_2.2.2.1 1))), ((o 18), .inl (k 0, 12, .inl (u_2.2.2.1 2))), ((o 19), .inl (k 0, 12, .inl (u_2.2.2.1 3))), ((o 20), .inl (k 0, 12, .inl (u_2.2.2.1 4))), ((o 21), .inl (k 0, 12, .inl (u_2.2.2.1 5))), ((o 22), .inl (k 0, 4, .inl (u_2.2.2.1 6))), ((o 23), .inl (k 0, 42, .inl (u_2.2.2.1 7))), ((o 24), .inl (k 0, 42, .inl (u_2.2.2.1 8))), ((o 25), .inl (k 0, 42, .inl (u_2.2.2.1 9))), ((o 28), .inl (k 0, 12, .inl (u_13.2.2.1 3))), ((o 29), .inl (k 0, 12, .inl (u_13.2.2.1 4))), ((o 32), .inl (k 0, 4, .inl (u_13.2.2.1 7)))]) (As := []) S hK hP hD hZ hS hA hl mwX10_retell lkX10_103 (ctX10_retell l D k z o f69 f70 f71 clawNow charder ctold creply cwet f72 f74 f76 kopener kworth (u_13.1 0) (u_13.2.1 0) (u_13.1 1) (u_13.1 2) (u_13.2.1 1) (u_13.2.1 2) (u_13.2.1 3) (u_13.2.1 4) (u_13.2.1 5) (u_13.2.2.1 0) (u_13.2.2.1 2) (u_13.2.2.1 5) (u_13.2.2.1 6) (u_13.2.2.1 8) (u_13.2.2.1 9) (u_13.2.2.1 1) (by omega) (by omega) (by omega) (by omega) (by omega) (by omega)) [0, 25, 26, 27, 28, 29, 30, 31, 32, 33, 34, 14, 15, 16, 19, 20, 22, 23, 24] [1, 2, 3, 4, 5, 6, 7, 8, 9, 10, 11, 12, 13, 17, 18, 21] rfl rfl (by decide) (by decide) (by decide) rfl rfl rfl rfl rfl ⟨Nat.le_of_ble_eq_true rfl, Nat.le_of_ble_eq_true rfl, Nat.le_of_ble_eq_true rfl⟩ dX10_garden_37 ⟨Nat.le_of_ble_eq_true rfl, Nat.le_of_ble_eq_true rfl⟩ (fun u_21 H locs hr_20 hP hD hS => ?_)
    have hP : va_P D vwCl [((o 0), .inr (10, [.ref (o 1), .ref (o 2), .ref (o 3), .ref (o 4), .ref (o 5), .ref (o 6), .ref (o 7), .ref (o 8), .ref (o 9), .ref (o 10), .ref (o 11), .ref (o 12), .ref (o 13), .ref (o 14)])), ((o 1), .inr (4, [.ref (o 15), .int 0, .int (u_2.1 0), .int (u_2.1 1), .int (u_2.1 2), .int (nI (u_2.2.1 0)), .int (nI (u_2.2.1 1)), .int (u_2.1 3), .int (u_2.1 4)])), ((o 15), .inl (k 1, 600, .inl f15)), ((o 2), .inr (2, [.int (u_2.1 5), .int (nI (u_2.2.1 2)), .int (u_2.1 6), .int (u_2.1 7), .int (nI (u_2.2.1 3)), .int (nI (u_2.2.1 4)), .int (nI (u_2.2.1 5)), .int (nI (u_2.2.1 6)), .int (nI (u_2.2.1 7)), .ref (o 16), .ref (o 17), .ref (o 18), .ref (o 19), .ref (o 20), .ref (o 21), .ref (o 22), .ref (o 23), .ref (o 24), .ref (o 25)])), ((o 16), .inl (k 0, 12, .inl (u_2.2.2.1 0))), ((o 17), .inl (k 0, 12, .inl (u_2.2.2.1 1))), ((o 18), .inl (k 0, 12, .inl (u_2.2.2.1 2))), ((o 19), .inl (k 0, 12, .inl (u_2.2.2.1 3))), ((o 20), .inl (k 0, 12, .inl (u_2.2.2.1 4))), ((o 21), .inl (k 0, 12, .inl (u_2.2.2.1 5))), ((o 22), .inl (k 0, 4, .inl (u_2.2.2.1 6))), ((o 23), .inl (k 0, 42, .inl (u_2.2.2.1 7))), ((o 24), .inl (k 0, 42, .inl (u_2.2.2.1 8))), ((o 25), .inl (k 0, 42, .inl (u_2.2.2.1 9))), ((o 3), .inr (2, [.int (u_13.1 0), .int (nI (u_13.2.1 0)), .int (u_13.1 1), .int (u_13.1 2), .int (nI (u_13.2.1 1)), .int (nI (u_13.2.1 2)), .int (nI (u_13.2.1 3)), .int (nI (u_13.2.1 4)), .int (nI (u_13.2.1 5)), .ref (o 26), .ref (o 27), .ref (o 28), .ref (o 29), .ref (o 30), .ref (o 31), .ref (o 32), .ref (o 33), .ref (o 34), .ref (o 35)])), ((o 26), .inl (k 0, 12, .inl (u_13.2.2.1 0))), ((o 27), .inl (k 0, 12, .inl (u_13.2.2.1 2))), ((o 28), .inl (k 0, 12, .inl (u_13.2.2.1 3))), ((o 29), .inl (k 0, 12, .inl (u_13.2.2.1 4))), ((o 30), .inl (k 0, 12, .inl (u_13.2.2.1 5))), ((o 31), .inl (k 0, 12, .inl (u_13.2.2.1 6))), ((o 32), .inl (k 0, 4, .inl (u_13.2.2.1 7))), ((o 33), .inl (k 0, 42, .inl (u_13.2.2.1 8))), ((o 34), .inl (k 0, 42, .inl (u_13.2.2.1 9))), ((o 35), .inl (k 0, 42, .inl (u_13.2.2.1 1))), ((o 4), .inr (3, [.ref (o 69), .ref (o 70), .ref (o 71)])), ((o 69), .inl (k 0, 17, .inl (u_21.2.2.1 0))), ((o 70), .inl (k 0, 17, .inl (u_21.2.2.1 1))), ((o 71), .inl (k 0, 17, .inl (u_21.2.2.1 2))), ((o 5), .inr (1, [.ref (o 3), .ref (o 4), .int (u_21.1 0), .int (u_21.1 1), .int (u_21.1 2), .int (u_21.1 3), .int (u_21.1 4), .ref (o 72)])), ((o 72), .inl (k 0, 17, .inl (u_21.2.2.1 3))), ((o 8), .inr (8, [.ref (o 3), .ref (o 4), .ref (o 6), .ref (o 74), .ref (o 75), .ref (o 76)])), ((o 74), .inl (k 0, 3, .inl (u_21.2.2.1 4))), ((o 76), .inl (k 3, 3, .inl (u_21.2.2.1 5))), ((o 9), .inr (0, [.ref (o 3), .ref (o 6), .int (u_21.1 5), .int kworth]))] H := hP.sub [16, 0, 1, 2, 3, 4, 5, 6, 7, 8, 9, 10, 11, 12, 27, 28, 29, 13, 14, 30, 31, 15, 32, 33, 34, 17, 18, 19, 20, 21, 22, 23, 24, 25, 26] rfl
    have hD : va_D A [((o 0), .inr (10, [.ref (o 1), .ref (o 2), .ref (o 3), .ref (o 4), .ref (o 5), .ref (o 6), .ref (o 7), .ref (o 8), .ref (o 9), .ref (o 10), .ref (o 11), .ref (o 12), .ref (o 13), .ref (o 14)])), ((o 1), .inr (4, [.ref (o 15), .int 0, .int (u_2.1 0), .int (u_2.1 1), .int (u_2.1 2), .int (nI (u_2.2.1 0)), .int (nI (u_2.2.1 1)), .int (u_2.1 3), .int (u_2.1 4)])), ((o 15), .inl (k 1, 600, .inl f15)), ((o 2), .inr (2, [.int (u_2.1 5), .int (nI (u_2.2.1 2)), .int (u_2.1 6), .int (u_2.1 7), .int (nI (u_2.2.1 3)), .int (nI (u_2.2.1 4)), .int (nI (u_2.2.1 5)), .int (nI (u_2.2.1 6)), .int (nI (u_2.2.1 7)), .ref (o 16), .ref (o 17), .ref (o 18), .ref (o 19), .ref (o 20), .ref (o 21), .ref (o 22), .ref (o 23), .ref (o 24), .ref (o 25)])), ((o 16), .inl (k 0, 12, .inl (u_2.2.2.1 0))), ((o 17), .inl (k 0, 12, .inl (u_2.2.2.1 1))), ((o 18), .inl (k 0, 12, .inl (u_2.2.2.1 2))), ((o 19), .inl (k 0, 12, .inl (u_2.2.2.1 3))), ((o 20), .inl (k 0, 12, .inl (u_2.2.2.1 4))), ((o 21), .inl (k 0, 12, .inl (u_2.2.2.1 5))), ((o 22), .inl (k 0, 4, .inl (u_2.2.2.1 6))), ((o 23), .inl (k 0, 42, .inl (u_2.2.2.1 7))), ((o 24), .inl (k 0, 42, .inl (u_2.2.2.1 8))), ((o 25), .inl (k 0, 42, .inl (u_2.2.2.1 9))), ((o 3), .inr (2, [.int (u_13.1 0), .int (nI (u_13.2.1 0)), .int (u_13.1 1), .int (u_13.1 2), .int (nI (u_13.2.1 1)), .int (nI (u_13.2.1 2)), .int (nI (u_13.2.1 3)), .int (nI (u_13.2.1 4)), .int (nI (u_13.2.1 5)), .ref (o 26), .ref (o 27), .ref (o 28), .ref (o 29), .ref (o 30), .ref (o 31), .ref (o 32), .ref (o 33), .ref (o 34), .ref (o 35)])), ((o 26), .inl (k 0, 12, .inl (u_13.2.2.1 0))), ((o 27), .inl (k 0, 12, .inl (u_13.2.2.1 2))), ((o 28), .inl (k 0, 12, .inl (u_13.2.2.1 3))), ((o 29), .inl (k 0, 12, .inl (u_13.2.2.1 4))), ((o 30), .inl (k 0, 12, .inl (u_13.2.2.1 5))), ((o 31), .inl (k 0, 12, .inl (u_13.2.2.1 6))), ((o 32), .inl (k 0, 4, .inl (u_13.2.2.1 7))), ((o 33), .inl (k 0, 42, .inl (u_13.2.2.1 8))), ((o 34), .inl (k 0, 42, .inl (u_13.2.2.1 9))), ((o 35), .inl (k 0, 42, .inl (u_13.2.2.1 1))), ((o 4), .inr (3, [.ref (o 69), .ref (o 70), .ref (o 71)])), ((o 69), .inl (k 0, 17, .inl (u_21.2.2.1 0))), ((o 70), .inl (k 0, 17, .inl (u_21.2.2.1 1))), ((o 71), .inl (k 0, 17, .inl (u_21.2.2.1 2))), ((o 5), .inr (1, [.ref (o 3), .ref (o 4), .int (u_21.1 0), .int (u_21.1 1), .int (u_21.1 2), .int (u_21.1 3), .int (u_21.1 4), .ref (o 72)])), ((o 72), .inl (k 0, 17, .inl (u_21.2.2.1 3))), ((o 8), .inr (8, [.ref (o 3), .ref (o 4), .ref (o 6), .ref (o 74), .ref (o 75), .ref (o 76)])), ((o 74), .inl (k 0, 3, .inl (u_21.2.2.1 4))), ((o 76), .inl (k 3, 3, .inl (u_21.2.2.1 5))), ((o 9), .inr (0, [.ref (o 3), .ref (o 6), .int (u_21.1 5), .int kworth]))] := hD.sub [16, 0, 1, 2, 3, 4, 5, 6, 7, 8, 9, 10, 11, 12, 27, 28, 29, 13, 14, 30, 31, 15, 32, 33, 34, 17, 18, 19, 20, 21, 22, 23, 24, 25, 26] (by decide) rfl
    refine lv_aload_n hx hb dX10_garden_40 rfl (lv_at hl 0 rfl) ?_
    refine x_get S hK hP 0 rfl cfX10 2 lkX10_23 (by decide) rfl dX10_garden_41 ?_
    refine x_get S hK hP 14 rfl cfX2 0 lkX10_126 (by decide) rfl dX10_garden_44 ?_
    exact x_reti S hr hlk hQ hS ((fun i => ([(u_2.1 0), (u_2.1 1), (u_2.1 2), (u_2.1 3), (u_2.1 4), (u_2.1 5), (u_2.1 6), (u_2.1 7), (u_13.1 0), (u_13.1 1), (u_13.1 2), (u_21.1 0), (u_21.1 1), (u_21.1 2), (u_21.1 3), (u_21.1 4), (u_21.1 5)] : List (Int32)).getD i 0), (fun i => ([0, u_2.2.1 0, u_2.2.1 1, u_2.2.1 2, u_2.2.1 3, u_2.2.1 4, u_2.2.1 5, u_2.2.1 6, u_2.2.1 7, u_13.2.1 0, u_13.2.1 1, u_13.2.1 2, u_13.2.1 3, u_13.2.1 4, u_13.2.1 5] : List (Nat)).getD i 0), (fun i => ([(u_2.2.2.1 0), (u_2.2.2.1 1), (u_2.2.2.1 2), (u_2.2.2.1 3), (u_2.2.2.1 4), (u_2.2.2.1 5), (u_2.2.2.1 6), (u_2.2.2.1 7), (u_2.2.2.1 8), (u_2.2.2.1 9), (u_13.2.2.1 0), (u_13.2.2.1 2), (u_13.2.2.1 3), (u_13.2.2.1 4), (u_13.2.2.1 5), (u_13.2.2.1 6), (u_13.2.2.1 7), (u_13.2.2.1 8), (u_13.2.2.1 9), (u_13.2.2.1 1), (u_21.2.2.1 0), (u_21.2.2.1 1), (u_21.2.2.1 2), (u_21.2.2.1 3), (u_21.2.2.1 4), (u_21.2.2.1 5)] : List (Nat → Int32)).getD i (fun _ => 0)), (fun i => ([] : List (Nat → Int64)).getD i (fun _ => 0)), (fun i => ([] : List (Int64)).getD i 0)) ⟨(show 0 ≤ 600 by omega), (show u_2.2.1 0 ≤ 600 by omega), (show u_2.2.1 1 ≤ 600 by omega), (show u_2.2.1 2 ≤ 16 by omega), (show u_2.2.1 3 ≤ 4 by omega), (show u_2.2.1 4 ≤ 12 by omega), (show u_2.2.1 5 ≤ 8 by omega), (show u_2.2.1 6 ≤ 4 by omega), (show u_2.2.1 7 ≤ 30 by omega), (show u_13.2.1 0 ≤ 16 by omega), (show u_13.2.1 1 ≤ 4 by omega), (show u_13.2.1 2 ≤ 12 by omega), (show u_13.2.1 3 ≤ 8 by omega), (show u_13.2.1 4 ≤ 4 by omega), (show u_13.2.1 5 ≤ 30 by omega)⟩ (x_B hP hD) dX10_garden_47
  · skip
    refine lv_bipush (v := (-4)) hx hb dX10_garden_14 (by decide) ?_
    exact x_reti S hr hlk hQ hS ((fun i => ([(u_2.1 0), (u_2.1 1), (u_2.1 2), (u_2.1 3), (u_2.1 4), (u_2.1 5), (u_2.1 6), (u_2.1 7), glines, glaw, godds, clawNow, charder, ctold, creply, cwet, kopener] : List (Int32)).getD i 0), (fun i => ([rsize, u_2.2.1 0, u_2.2.1 1, u_2.2.1 2, u_2.2.1 3, u_2.2.1 4, u_2.2.1 5, u_2.2.1 6, u_2.2.1 7, ghours, grows, gheads, gsayings, gslugs, gacts] : List (Nat)).getD i 0), (fun i => ([(u_2.2.2.1 0), (u_2.2.2.1 1), (u_2.2.2.1 2), (u_2.2.2.1 3), (u_2.2.2.1 4), (u_2.2.2.1 5), (u_2.2.2.1 6), (u_2.2.2.1 7), (u_2.2.2.1 8), (u_2.2.2.1 9), f26, f27, f28, f29, f30, f31, f32, f33, f34, f35, f69, f70, f71, f72, f74, f76] : List (Nat → Int32)).getD i (fun _ => 0)), (fun i => ([] : List (Nat → Int64)).getD i (fun _ => 0)), (fun i => ([] : List (Int64)).getD i 0)) ⟨(show rsize ≤ 600 by omega), (show u_2.2.1 0 ≤ 600 by omega), (show u_2.2.1 1 ≤ 600 by omega), (show u_2.2.1 2 ≤ 16 by omega), (show u_2.2.1 3 ≤ 4 by omega), (show u_2.2.1 4 ≤ 12 by omega), (show u_2.2.1 5 ≤ 8 by omega), (show u_2.2.1 6 ≤ 4 by omega), (show u_2.2.1 7 ≤ 30 by omega), (show ghours ≤ 16 by omega), (show grows ≤ 4 by omega), (show gheads ≤ 12 by omega), (show gsayings ≤ 8 by omega), (show gslugs ≤ 4 by omega), (show gacts ≤ 30 by omega)⟩ (x_B hP hD) dX10_garden_16

set_option maxHeartbeats 4000000 in
set_option maxRecDepth 100000 in
theorem ctX10_fault (l : Launch) (D : va_G) (k : Nat → ClassId) (z : Nat → Nat) (o : Nat → Nat) (rfault : Int32) (rplace : Int32) (rkind : Int32) (rvalue : Int32) (rnumber : Int32) (rsize : Nat) (rstart : Nat) (rnext : Nat) (p0 : Int32) (hrsize : rsize ≤ 600) (hrstart : rstart ≤ 600) (hrnext : rnext ≤ 600) : RO l yX10_fault cX10_fault 2 (some .int) 0 D k z [.ref (o 0), .int p0] [((o 0), .inr (10, [.ref (o 1), .ref (o 2), .ref (o 3), .ref (o 4), .ref (o 5), .ref (o 6), .ref (o 7), .ref (o 8), .ref (o 9), .ref (o 10), .ref (o 11), .ref (o 12), .ref (o 13), .ref (o 14)])), ((o 1), .inr (4, [.ref (o 15), .int (nI rsize), .int rfault, .int rplace, .int rkind, .int (nI rstart), .int (nI rnext), .int rvalue, .int rnumber]))] (Qi (fun r : Int32 => True)) := by
  refine RO.of (by decide) (Nat.le_of_ble_eq_true rfl) ?_
  intro p e s m below meth c ls A B args Q S hr hlk hQ hK hP hDW hZ hAB hBA hA hS hl
  have hx := S.1
  have hb := S.2.1
  have hl : lv_has ls 2 [(0, .ref (o 0)), (1, .int p0)] := hl
  refine lv_iload_n hx hb dX10_fault_0 rfl (lv_at hl 1 rfl) ?_
  refine lv_if_ne (tgt := 12) hx hb dX10_fault_1 (by decide) (fun c_1 => ?_) (fun c_1 => ?_)
  · skip
    refine lv_iload_n hx hb dX10_fault_12 rfl (lv_at hl 1 rfl) ?_
    refine lv_iconst (v := 1) hx hb dX10_fault_13 (by decide) ?_
    refine lv_icmp_ne (tgt := 27) hx hb dX10_fault_14 (by decide) (fun c_2 => ?_) (fun c_2 => ?_)
    · skip
      refine lv_iconst (v := (-1)) hx hb dX10_fault_27 (by decide) ?_
      exact x_reti S hr hlk hQ hS () trivial x_T dX10_fault_28
    · skip
      refine lv_aload_n hx hb dX10_fault_17 rfl (lv_at hl 0 rfl) ?_
      refine x_get S hK hP 0 rfl cfX10 0 lkX10_10 (by decide) rfl dX10_fault_18 ?_
      refine x_get S hK hP 1 rfl cfX4 3 lkX10_132 (by decide) rfl dX10_fault_21 ?_
      refine lv_goto (tgt := 28) hx hb dX10_fault_24 (by decide) ?_
      exact x_reti S hr hlk hQ hS () trivial x_T dX10_fault_28
  · skip
    refine lv_aload_n hx hb dX10_fault_4 rfl (lv_at hl 0 rfl) ?_
    refine x_get S hK hP 0 rfl cfX10 0 lkX10_10 (by decide) rfl dX10_fault_5 ?_
    refine x_get S hK hP 1 rfl cfX4 2 lkX10_129 (by decide) rfl dX10_fault_8 ?_
    exact x_reti S hr hlk hQ hS () trivial x_T dX10_fault_11

theorem lsctX10_head_12 (x : Int32) (h0 : ¬ x = 0) (h1 : ¬ x = 1) (h2 : ¬ x = 2) (h3 : ¬ x = 3) : x.toInt < 0 ∨ 3 < x.toInt := by
  simp only [fa_eq, tz_0, tz_1, tz_2, tz_3] at *
  omega
set_option maxHeartbeats 4000000 in
set_option maxRecDepth 100000 in
theorem ctX10_head (l : Launch) (D : va_G) (k : Nat → ClassId) (z : Nat → Nat) (o : Nat → Nat) (glines : Int32) (ghours : Nat) (glaw : Int32) (godds : Int32) (grows : Nat) (gheads : Nat) (gsayings : Nat) (gslugs : Nat) (gacts : Nat) (f26 : Nat → Int32) (f27 : Nat → Int32) (f28 : Nat → Int32) (f29 : Nat → Int32) (p0 : Int32) (p1 : Int32) (hghours : ghours ≤ 16) (hgrows : grows ≤ 4) (hgheads : gheads ≤ 12) (hgsayings : gsayings ≤ 8) (hgslugs : gslugs ≤ 4) (hgacts : gacts ≤ 30) : RO l yX10_head cX10_head 3 (some .int) 1 D k z [.ref (o 0), .int p0, .int p1] [((o 0), .inr (10, [.ref (o 1), .ref (o 2), .ref (o 3), .ref (o 4), .ref (o 5), .ref (o 6), .ref (o 7), .ref (o 8), .ref (o 9), .ref (o 10), .ref (o 11), .ref (o 12), .ref (o 13), .ref (o 14)])), ((o 3), .inr (2, [.int glines, .int (nI ghours), .int glaw, .int godds, .int (nI grows), .int (nI gheads), .int (nI gsayings), .int (nI gslugs), .int (nI gacts), .ref (o 26), .ref (o 27), .ref (o 28), .ref (o 29), .ref (o 30), .ref (o 31), .ref (o 32), .ref (o 33), .ref (o 34), .ref (o 35)])), ((o 26), .inl (k 0, 12, .inl f26)), ((o 27), .inl (k 0, 12, .inl f27)), ((o 28), .inl (k 0, 12, .inl f28)), ((o 29), .inl (k 0, 12, .inl f29))] (Qi (fun r : Int32 => True)) := by
  refine RO.of (by decide) (Nat.le_of_ble_eq_true rfl) ?_
  intro p e s m below meth c ls A B args Q S hr hlk hQ hK hP hDW hZ hAB hBA hA hS hl
  have hx := S.1
  have hb := S.2.1
  have hl : lv_has ls 3 [(0, .ref (o 0)), (1, .int p0), (2, .int p1)] := hl
  refine lv_aload_n hx hb dX10_head_0 rfl (lv_at hl 0 rfl) ?_
  refine lv_iload_n hx hb dX10_head_1 rfl (lv_at hl 1 rfl) ?_
  refine x_roVi (As := [.int p0]) S hK hP hDW hZ hAB hBA hS hA hl mwX10_isHead lkX10_135 (ctX10_isHead l D k z o glines ghours glaw godds grows gheads gsayings gslugs gacts p0 (by omega) (by omega) (by omega) (by omega) (by omega) (by omega)) [0, 1] rfl (by decide) rfl rfl rfl rfl rfl ⟨Nat.le_of_ble_eq_true rfl, Nat.le_of_ble_eq_true rfl, Nat.le_of_ble_eq_true rfl⟩ dX10_head_2 ⟨Nat.le_of_ble_eq_true rfl, Nat.le_of_ble_eq_true rfl⟩ (fun r_1 H locs hr_1 hP hS => ?_)
  have hp_3 := hr_1
  refine lv_if_ne (tgt := 11) hx hb dX10_head_5 (by decide) (fun c_4 => ?_) (fun c_4 => ?_)
  · skip
    obtain ⟨n_5, rfl, hn_5⟩ := hp_3.resolve_left c_4
    refine lv_iload_n hx hb dX10_head_11 rfl (lv_at hl 2 rfl) ?_
    by_cases c_6 : p1 = 0
    · skip
      refine x_is 0 c_6 ?_
      refine lv_tableIn (tgt := 44) hx hb dX10_head_12 (by decide) (by decide) rfl (by decide) ?_
      refine lv_aload_n hx hb dX10_head_44 rfl (lv_at hl 0 rfl) ?_
      refine x_get S hK hP 0 rfl cfX10 2 lkX10_23 (by decide) rfl dX10_head_45 ?_
      refine x_get S hK hP 1 rfl cfX2 9 lkX10_139 (by decide) rfl dX10_head_48 ?_
      refine lv_iload_n hx hb dX10_head_51 rfl (lv_at hl 1 rfl) ?_
      refine x_iald S hK hP 2 rfl (vp_in_nI (by omega) (by decide)) dX10_head_52 ?_
      refine lv_topi (fun v_7 ev_7 => ?_)
      exact x_reti S hr hlk hQ hS () trivial x_T dX10_head_53
    by_cases c_8 : p1 = 1
    · skip
      refine x_is 1 c_8 ?_
      refine lv_tableIn (tgt := 54) hx hb dX10_head_12 (by decide) (by decide) rfl (by decide) ?_
      refine lv_aload_n hx hb dX10_head_54 rfl (lv_at hl 0 rfl) ?_
      refine x_get S hK hP 0 rfl cfX10 2 lkX10_23 (by decide) rfl dX10_head_55 ?_
      refine x_get S hK hP 1 rfl cfX2 10 lkX10_143 (by decide) rfl dX10_head_58 ?_
      refine lv_iload_n hx hb dX10_head_61 rfl (lv_at hl 1 rfl) ?_
      refine x_iald S hK hP 3 rfl (vp_in_nI (by omega) (by decide)) dX10_head_62 ?_
      refine lv_topi (fun v_9 ev_9 => ?_)
      exact x_reti S hr hlk hQ hS () trivial x_T dX10_head_63
    by_cases c_10 : p1 = 2
    · skip
      refine x_is 2 c_10 ?_
      refine lv_tableIn (tgt := 64) hx hb dX10_head_12 (by decide) (by decide) rfl (by decide) ?_
      refine lv_aload_n hx hb dX10_head_64 rfl (lv_at hl 0 rfl) ?_
      refine x_get S hK hP 0 rfl cfX10 2 lkX10_23 (by decide) rfl dX10_head_65 ?_
      refine x_get S hK hP 1 rfl cfX2 11 lkX10_146 (by decide) rfl dX10_head_68 ?_
      refine lv_iload_n hx hb dX10_head_71 rfl (lv_at hl 1 rfl) ?_
      refine x_iald S hK hP 4 rfl (vp_in_nI (by omega) (by decide)) dX10_head_72 ?_
      refine lv_topi (fun v_11 ev_11 => ?_)
      exact x_reti S hr hlk hQ hS () trivial x_T dX10_head_73
    by_cases c_12 : p1 = 3
    · skip
      refine x_is 3 c_12 ?_
      refine lv_tableIn (tgt := 74) hx hb dX10_head_12 (by decide) (by decide) rfl (by decide) ?_
      refine lv_aload_n hx hb dX10_head_74 rfl (lv_at hl 0 rfl) ?_
      refine x_get S hK hP 0 rfl cfX10 2 lkX10_23 (by decide) rfl dX10_head_75 ?_
      refine x_get S hK hP 1 rfl cfX2 12 lkX10_149 (by decide) rfl dX10_head_78 ?_
      refine lv_iload_n hx hb dX10_head_81 rfl (lv_at hl 1 rfl) ?_
      refine x_iald S hK hP 5 rfl (vp_in_nI (by omega) (by decide)) dX10_head_82 ?_
      refine lv_topi (fun v_13 ev_13 => ?_)
      exact x_reti S hr hlk hQ hS () trivial x_T dX10_head_83
    refine lv_tableOut (tgt := 84) hx hb dX10_head_12 (lsctX10_head_12 _ c_6 c_8 c_10 c_12) (by decide) ?_
    refine lv_bipush (v := (-2)) hx hb dX10_head_84 (by decide) ?_
    exact x_reti S hr hlk hQ hS () trivial x_T dX10_head_86
  · skip
    refine lv_bipush (v := (-2)) hx hb dX10_head_8 (by decide) ?_
    exact x_reti S hr hlk hQ hS () trivial x_T dX10_head_10

set_option maxHeartbeats 4000000 in
set_option maxRecDepth 100000 in
theorem ctX10_near (l : Launch) (D : va_G) (k : Nat → ClassId) (z : Nat → Nat) (o : Nat → Nat) (glines : Int32) (ghours : Nat) (glaw : Int32) (godds : Int32) (grows : Nat) (gheads : Nat) (gsayings : Nat) (gslugs : Nat) (gacts : Nat) (f30 : Nat → Int32) (p0 : Int32) (hghours : ghours ≤ 16) (hgrows : grows ≤ 4) (hgheads : gheads ≤ 12) (hgsayings : gsayings ≤ 8) (hgslugs : gslugs ≤ 4) (hgacts : gacts ≤ 30) : RO l yX10_near cX10_near 2 (some .int) 1 D k z [.ref (o 0), .int p0] [((o 0), .inr (10, [.ref (o 1), .ref (o 2), .ref (o 3), .ref (o 4), .ref (o 5), .ref (o 6), .ref (o 7), .ref (o 8), .ref (o 9), .ref (o 10), .ref (o 11), .ref (o 12), .ref (o 13), .ref (o 14)])), ((o 3), .inr (2, [.int glines, .int (nI ghours), .int glaw, .int godds, .int (nI grows), .int (nI gheads), .int (nI gsayings), .int (nI gslugs), .int (nI gacts), .ref (o 26), .ref (o 27), .ref (o 28), .ref (o 29), .ref (o 30), .ref (o 31), .ref (o 32), .ref (o 33), .ref (o 34), .ref (o 35)])), ((o 30), .inl (k 0, 12, .inl f30))] (Qi (fun r : Int32 => True)) := by
  refine RO.of (by decide) (Nat.le_of_ble_eq_true rfl) ?_
  intro p e s m below meth c ls A B args Q S hr hlk hQ hK hP hDW hZ hAB hBA hA hS hl
  have hx := S.1
  have hb := S.2.1
  have hl : lv_has ls 2 [(0, .ref (o 0)), (1, .int p0)] := hl
  refine lv_aload_n hx hb dX10_near_0 rfl (lv_at hl 0 rfl) ?_
  refine lv_iload_n hx hb dX10_near_1 rfl (lv_at hl 1 rfl) ?_
  refine x_roVi (As := [.int p0]) S hK hP hDW hZ hAB hBA hS hA hl mwX10_isHead lkX10_135 (ctX10_isHead l D k z o glines ghours glaw godds grows gheads gsayings gslugs gacts p0 (by omega) (by omega) (by omega) (by omega) (by omega) (by omega)) [0, 1] rfl (by decide) rfl rfl rfl rfl rfl ⟨Nat.le_of_ble_eq_true rfl, Nat.le_of_ble_eq_true rfl, Nat.le_of_ble_eq_true rfl⟩ dX10_near_2 ⟨Nat.le_of_ble_eq_true rfl, Nat.le_of_ble_eq_true rfl⟩ (fun r_1 H locs hr_1 hP hS => ?_)
  have hp_3 := hr_1
  refine lv_if_eq (tgt := 20) hx hb dX10_near_5 (by decide) (fun c_4 => ?_) (fun c_4 => ?_)
  · skip
    refine lv_bipush (v := (-2)) hx hb dX10_near_20 (by decide) ?_
    exact x_reti S hr hlk hQ hS () trivial x_T dX10_near_22
  · skip
    obtain ⟨n_5, rfl, hn_5⟩ := hp_3.resolve_left c_4
    refine lv_aload_n hx hb dX10_near_8 rfl (lv_at hl 0 rfl) ?_
    refine x_get S hK hP 0 rfl cfX10 2 lkX10_23 (by decide) rfl dX10_near_9 ?_
    refine x_get S hK hP 1 rfl cfX2 13 lkX10_152 (by decide) rfl dX10_near_12 ?_
    refine lv_iload_n hx hb dX10_near_15 rfl (lv_at hl 1 rfl) ?_
    refine x_iald S hK hP 2 rfl (vp_in_nI (by omega) (by decide)) dX10_near_16 ?_
    refine lv_topi (fun v_6 ev_6 => ?_)
    refine lv_goto (tgt := 22) hx hb dX10_near_17 (by decide) ?_
    exact x_reti S hr hlk hQ hS () trivial x_T dX10_near_22

set_option maxHeartbeats 4000000 in
set_option maxRecDepth 100000 in
theorem ctX10_heads (l : Launch) (D : va_G) (k : Nat → ClassId) (z : Nat → Nat) (o : Nat → Nat) (glines : Int32) (ghours : Nat) (glaw : Int32) (godds : Int32) (grows : Nat) (gheads : Nat) (gsayings : Nat) (gslugs : Nat) (gacts : Nat) (f32 : Nat → Int32) (p0 : Int32) (hghours : ghours ≤ 16) (hgrows : grows ≤ 4) (hgheads : gheads ≤ 12) (hgsayings : gsayings ≤ 8) (hgslugs : gslugs ≤ 4) (hgacts : gacts ≤ 30) : RO l yX10_heads cX10_heads 2 (some .int) 1 D k z [.ref (o 0), .int p0] [((o 0), .inr (10, [.ref (o 1), .ref (o 2), .ref (o 3), .ref (o 4), .ref (o 5), .ref (o 6), .ref (o 7), .ref (o 8), .ref (o 9), .ref (o 10), .ref (o 11), .ref (o 12), .ref (o 13), .ref (o 14)])), ((o 3), .inr (2, [.int glines, .int (nI ghours), .int glaw, .int godds, .int (nI grows), .int (nI gheads), .int (nI gsayings), .int (nI gslugs), .int (nI gacts), .ref (o 26), .ref (o 27), .ref (o 28), .ref (o 29), .ref (o 30), .ref (o 31), .ref (o 32), .ref (o 33), .ref (o 34), .ref (o 35)])), ((o 32), .inl (k 0, 4, .inl f32))] (Qi (fun r : Int32 => True)) := by
  refine RO.of (by decide) (Nat.le_of_ble_eq_true rfl) ?_
  intro p e s m below meth c ls A B args Q S hr hlk hQ hK hP hDW hZ hAB hBA hA hS hl
  have hx := S.1
  have hb := S.2.1
  have hl : lv_has ls 2 [(0, .ref (o 0)), (1, .int p0)] := hl
  refine lv_aload_n hx hb dX10_heads_0 rfl (lv_at hl 0 rfl) ?_
  refine lv_iload_n hx hb dX10_heads_1 rfl (lv_at hl 1 rfl) ?_
  refine x_roVi (As := [.int p0]) S hK hP hDW hZ hAB hBA hS hA hl mwX10_isRow lkX10_155 (ctX10_isRow l D k z o glines ghours glaw godds grows gheads gsayings gslugs gacts p0 (by omega) (by omega) (by omega) (by omega) (by omega) (by omega)) [0, 1] rfl (by decide) rfl rfl rfl rfl rfl ⟨Nat.le_of_ble_eq_true rfl, Nat.le_of_ble_eq_true rfl, Nat.le_of_ble_eq_true rfl⟩ dX10_heads_2 ⟨Nat.le_of_ble_eq_true rfl, Nat.le_of_ble_eq_true rfl⟩ (fun r_1 H locs hr_1 hP hS => ?_)
  have hp_3 := hr_1
  refine lv_if_eq (tgt := 20) hx hb dX10_heads_5 (by decide) (fun c_4 => ?_) (fun c_4 => ?_)
  · skip
    refine lv_bipush (v := (-2)) hx hb dX10_heads_20 (by decide) ?_
    exact x_reti S hr hlk hQ hS () trivial x_T dX10_heads_22
  · skip
    obtain ⟨n_5, rfl, hn_5⟩ := hp_3.resolve_left c_4
    refine lv_aload_n hx hb dX10_heads_8 rfl (lv_at hl 0 rfl) ?_
    refine x_get S hK hP 0 rfl cfX10 2 lkX10_23 (by decide) rfl dX10_heads_9 ?_
    refine x_get S hK hP 1 rfl cfX2 15 lkX10_158 (by decide) rfl dX10_heads_12 ?_
    refine lv_iload_n hx hb dX10_heads_15 rfl (lv_at hl 1 rfl) ?_
    refine x_iald S hK hP 2 rfl (vp_in_nI (by omega) (by decide)) dX10_heads_16 ?_
    refine lv_topi (fun v_6 ev_6 => ?_)
    refine lv_goto (tgt := 22) hx hb dX10_heads_17 (by decide) ?_
    exact x_reti S hr hlk hQ hS () trivial x_T dX10_heads_22

set_option maxHeartbeats 4000000 in
set_option maxRecDepth 100000 in
theorem ctX10_view (l : Launch) (D : va_G) (k : Nat → ClassId) (z : Nat → Nat) (o : Nat → Nat) (clawNow : Int32) (charder : Int32) (ctold : Int32) (creply : Int32) (cwet : Int32) (f72 : Nat → Int32) (f69 : Nat → Int32) (f70 : Nat → Int32) (f71 : Nat → Int32) (glines : Int32) (ghours : Nat) (glaw : Int32) (godds : Int32) (grows : Nat) (gheads : Nat) (gsayings : Nat) (gslugs : Nat) (gacts : Nat) (f26 : Nat → Int32) (f29 : Nat → Int32) (f30 : Nat → Int32) (f31 : Nat → Int32) (f32 : Nat → Int32) (p0 : Int32) (p1 : Int32) (hghours : ghours ≤ 16) (hgrows : grows ≤ 4) (hgheads : gheads ≤ 12) (hgsayings : gsayings ≤ 8) (hgslugs : gslugs ≤ 4) (hgacts : gacts ≤ 30) : RO l yX10_view cX10_view 3 (some .int) 2 D k z [.ref (o 0), .int p0, .int p1] [((o 0), .inr (10, [.ref (o 1), .ref (o 2), .ref (o 3), .ref (o 4), .ref (o 5), .ref (o 6), .ref (o 7), .ref (o 8), .ref (o 9), .ref (o 10), .ref (o 11), .ref (o 12), .ref (o 13), .ref (o 14)])), ((o 7), .inr (7, [.ref (o 3), .ref (o 4), .ref (o 5)])), ((o 5), .inr (1, [.ref (o 3), .ref (o 4), .int clawNow, .int charder, .int ctold, .int creply, .int cwet, .ref (o 72)])), ((o 72), .inl (k 0, 17, .inl f72)), ((o 4), .inr (3, [.ref (o 69), .ref (o 70), .ref (o 71)])), ((o 69), .inl (k 0, 17, .inl f69)), ((o 70), .inl (k 0, 17, .inl f70)), ((o 71), .inl (k 0, 17, .inl f71)), ((o 3), .inr (2, [.int glines, .int (nI ghours), .int glaw, .int godds, .int (nI grows), .int (nI gheads), .int (nI gsayings), .int (nI gslugs), .int (nI gacts), .ref (o 26), .ref (o 27), .ref (o 28), .ref (o 29), .ref (o 30), .ref (o 31), .ref (o 32), .ref (o 33), .ref (o 34), .ref (o 35)])), ((o 26), .inl (k 0, 12, .inl f26)), ((o 29), .inl (k 0, 12, .inl f29)), ((o 30), .inl (k 0, 12, .inl f30)), ((o 31), .inl (k 0, 12, .inl f31)), ((o 32), .inl (k 0, 4, .inl f32))] (Qi (fun r : Int32 => True)) := by
  refine RO.of (by decide) (Nat.le_of_ble_eq_true rfl) ?_
  intro p e s m below meth c ls A B args Q S hr hlk hQ hK hP hDW hZ hAB hBA hA hS hl
  have hx := S.1
  have hb := S.2.1
  have hl : lv_has ls 3 [(0, .ref (o 0)), (1, .int p0), (2, .int p1)] := hl
  refine lv_aload_n hx hb dX10_view_0 rfl (lv_at hl 0 rfl) ?_
  refine lv_iload_n hx hb dX10_view_1 rfl (lv_at hl 1 rfl) ?_
  refine x_roVi (As := [.int p0]) S hK hP hDW hZ hAB hBA hS hA hl mwX10_isHead lkX10_135 (ctX10_isHead l D k z o glines ghours glaw godds grows gheads gsayings gslugs gacts p0 (by omega) (by omega) (by omega) (by omega) (by omega) (by omega)) [0, 8] rfl (by decide) rfl rfl rfl rfl rfl ⟨Nat.le_of_ble_eq_true rfl, Nat.le_of_ble_eq_true rfl, Nat.le_of_ble_eq_true rfl⟩ dX10_view_2 ⟨Nat.le_of_ble_eq_true rfl, Nat.le_of_ble_eq_true rfl⟩ (fun r_1 H locs hr_1 hP hS => ?_)
  have hp_3 := hr_1
  refine lv_if_eq (tgt := 28) hx hb dX10_view_5 (by decide) (fun c_4 => ?_) (fun c_4 => ?_)
  · skip
    refine lv_bipush (v := (-2)) hx hb dX10_view_28 (by decide) ?_
    exact x_reti S hr hlk hQ hS () trivial x_T dX10_view_30
  · skip
    obtain ⟨n_5, rfl, hn_5⟩ := hp_3.resolve_left c_4
    refine lv_aload_n hx hb dX10_view_8 rfl (lv_at hl 0 rfl) ?_
    refine lv_iload_n hx hb dX10_view_9 rfl (lv_at hl 2 rfl) ?_
    refine x_roVi (As := [.int p1]) S hK hP hDW hZ hAB hBA hS hA hl mwX10_isHour lkX10_161 (ctX10_isHour l D k z o glines ghours glaw godds grows gheads gsayings gslugs gacts p1 (by omega) (by omega) (by omega) (by omega) (by omega) (by omega)) [0, 8] rfl (by decide) rfl rfl rfl rfl rfl ⟨Nat.le_of_ble_eq_true rfl, Nat.le_of_ble_eq_true rfl, Nat.le_of_ble_eq_true rfl⟩ dX10_view_10 ⟨Nat.le_of_ble_eq_true rfl, Nat.le_of_ble_eq_true rfl⟩ (fun r_6 H locs hr_6 hP hS => ?_)
    have hp_8 := hr_6
    refine lv_if_eq (tgt := 28) hx hb dX10_view_13 (by decide) (fun c_9 => ?_) (fun c_9 => ?_)
    · skip
      refine lv_bipush (v := (-2)) hx hb dX10_view_28 (by decide) ?_
      exact x_reti S hr hlk hQ hS () trivial x_T dX10_view_30
    · skip
      obtain ⟨n_10, rfl, hn_10⟩ := hp_8.resolve_left c_9
      refine lv_aload_n hx hb dX10_view_16 rfl (lv_at hl 0 rfl) ?_
      refine x_get S hK hP 0 rfl cfX10 4 lkX10_38 (by decide) rfl dX10_view_17 ?_
      refine lv_iload_n hx hb dX10_view_20 rfl (lv_at hl 1 rfl) ?_
      refine lv_iload_n hx hb dX10_view_21 rfl (lv_at hl 2 rfl) ?_
      refine x_roVi (As := [.int (nI n_5), .int (nI n_10)]) S hK hP hDW hZ hAB hBA hS hA hl mwX1_viewAt lkX10_164 (ctX1_viewAt_c l D k z o clawNow charder ctold creply cwet f72 f69 f70 f71 glines ghours glaw godds grows gheads gsayings gslugs gacts f26 f30 f31 (nI n_5) n_10 (by omega) (by omega) (by omega) (by omega) (by omega) (by omega) (by omega)) [2, 3, 4, 5, 6, 7, 8, 9, 11, 12] rfl (by decide) rfl rfl rfl rfl rfl ⟨Nat.le_of_ble_eq_true rfl, Nat.le_of_ble_eq_true rfl, Nat.le_of_ble_eq_true rfl⟩ dX10_view_22 ⟨Nat.le_of_ble_eq_true rfl, Nat.le_of_ble_eq_true rfl⟩ (fun r_11 H locs hr_11 hP hS => ?_)
      refine lv_goto (tgt := 30) hx hb dX10_view_25 (by decide) ?_
      exact x_reti S hr hlk hQ hS () trivial x_T dX10_view_30

set_option maxHeartbeats 4000000 in
set_option maxRecDepth 100000 in
theorem ctX10_holding (l : Launch) (D : va_G) (k : Nat → ClassId) (z : Nat → Nat) (o : Nat → Nat) (clawNow : Int32) (charder : Int32) (ctold : Int32) (creply : Int32) (cwet : Int32) (f72 : Nat → Int32) (f69 : Nat → Int32) (f70 : Nat → Int32) (f71 : Nat → Int32) (glines : Int32) (ghours : Nat) (glaw : Int32) (godds : Int32) (grows : Nat) (gheads : Nat) (gsayings : Nat) (gslugs : Nat) (gacts : Nat) (f26 : Nat → Int32) (f29 : Nat → Int32) (f30 : Nat → Int32) (f31 : Nat → Int32) (f32 : Nat → Int32) (p0 : Int32) (p1 : Int32) (hghours : ghours ≤ 16) (hgrows : grows ≤ 4) (hgheads : gheads ≤ 12) (hgsayings : gsayings ≤ 8) (hgslugs : gslugs ≤ 4) (hgacts : gacts ≤ 30) : RO l yX10_holding cX10_holding 3 (some .int) 3 D k z [.ref (o 0), .int p0, .int p1] [((o 0), .inr (10, [.ref (o 1), .ref (o 2), .ref (o 3), .ref (o 4), .ref (o 5), .ref (o 6), .ref (o 7), .ref (o 8), .ref (o 9), .ref (o 10), .ref (o 11), .ref (o 12), .ref (o 13), .ref (o 14)])), ((o 7), .inr (7, [.ref (o 3), .ref (o 4), .ref (o 5)])), ((o 5), .inr (1, [.ref (o 3), .ref (o 4), .int clawNow, .int charder, .int ctold, .int creply, .int cwet, .ref (o 72)])), ((o 72), .inl (k 0, 17, .inl f72)), ((o 4), .inr (3, [.ref (o 69), .ref (o 70), .ref (o 71)])), ((o 69), .inl (k 0, 17, .inl f69)), ((o 70), .inl (k 0, 17, .inl f70)), ((o 71), .inl (k 0, 17, .inl f71)), ((o 3), .inr (2, [.int glines, .int (nI ghours), .int glaw, .int godds, .int (nI grows), .int (nI gheads), .int (nI gsayings), .int (nI gslugs), .int (nI gacts), .ref (o 26), .ref (o 27), .ref (o 28), .ref (o 29), .ref (o 30), .ref (o 31), .ref (o 32), .ref (o 33), .ref (o 34), .ref (o 35)])), ((o 26), .inl (k 0, 12, .inl f26)), ((o 29), .inl (k 0, 12, .inl f29)), ((o 30), .inl (k 0, 12, .inl f30)), ((o 31), .inl (k 0, 12, .inl f31)), ((o 32), .inl (k 0, 4, .inl f32))] (Qi (fun r : Int32 => True)) := by
  refine RO.of (by decide) (Nat.le_of_ble_eq_true rfl) ?_
  intro p e s m below meth c ls A B args Q S hr hlk hQ hK hP hDW hZ hAB hBA hA hS hl
  have hx := S.1
  have hb := S.2.1
  have hl : lv_has ls 3 [(0, .ref (o 0)), (1, .int p0), (2, .int p1)] := hl
  refine lv_iload_n hx hb dX10_holding_0 rfl (lv_at hl 1 rfl) ?_
  refine x_roSi (As := [.int p0]) S hK hP hDW hZ hAB hBA hS hA hl mwX10_isAnyView lkX10_168 (ctX10_isAnyView l D k z p0 ) [] rfl (by decide) rfl rfl ⟨Nat.le_of_ble_eq_true rfl, Nat.le_of_ble_eq_true rfl, Nat.le_of_ble_eq_true rfl⟩ dX10_holding_1 ⟨Nat.le_of_ble_eq_true rfl, Nat.le_of_ble_eq_true rfl⟩ (fun r_1 H locs hr_1 hP hS => ?_)
  refine lv_if_eq (tgt := 27) hx hb dX10_holding_4 (by decide) (fun c_3 => ?_) (fun c_3 => ?_)
  · skip
    refine lv_bipush (v := (-2)) hx hb dX10_holding_27 (by decide) ?_
    exact x_reti S hr hlk hQ hS () trivial x_T dX10_holding_29
  · skip
    refine lv_aload_n hx hb dX10_holding_7 rfl (lv_at hl 0 rfl) ?_
    refine lv_iload_n hx hb dX10_holding_8 rfl (lv_at hl 2 rfl) ?_
    refine x_roVi (As := [.int p1]) S hK hP hDW hZ hAB hBA hS hA hl mwX10_isHour lkX10_161 (ctX10_isHour l D k z o glines ghours glaw godds grows gheads gsayings gslugs gacts p1 (by omega) (by omega) (by omega) (by omega) (by omega) (by omega)) [0, 8] rfl (by decide) rfl rfl rfl rfl rfl ⟨Nat.le_of_ble_eq_true rfl, Nat.le_of_ble_eq_true rfl, Nat.le_of_ble_eq_true rfl⟩ dX10_holding_9 ⟨Nat.le_of_ble_eq_true rfl, Nat.le_of_ble_eq_true rfl⟩ (fun r_4 H locs hr_4 hP hS => ?_)
    have hp_6 := hr_4
    refine lv_if_eq (tgt := 27) hx hb dX10_holding_12 (by decide) (fun c_7 => ?_) (fun c_7 => ?_)
    · skip
      refine lv_bipush (v := (-2)) hx hb dX10_holding_27 (by decide) ?_
      exact x_reti S hr hlk hQ hS () trivial x_T dX10_holding_29
    · skip
      obtain ⟨n_8, rfl, hn_8⟩ := hp_6.resolve_left c_7
      refine lv_aload_n hx hb dX10_holding_15 rfl (lv_at hl 0 rfl) ?_
      refine x_get S hK hP 0 rfl cfX10 6 lkX10_50 (by decide) rfl dX10_holding_16 ?_
      refine lv_iload_n hx hb dX10_holding_19 rfl (lv_at hl 1 rfl) ?_
      refine lv_iload_n hx hb dX10_holding_20 rfl (lv_at hl 2 rfl) ?_
      refine x_roVi (As := [.int p0, .int (nI n_8)]) S hK hP hDW hZ hAB hBA hS hA hl mwX7_holdersAt lkX10_171 (ctX7_holdersAt l D k z o clawNow charder ctold creply cwet f72 f69 f70 f71 glines ghours glaw godds grows gheads gsayings gslugs gacts f26 f29 f30 f31 f32 p0 n_8 (by omega) (by omega) (by omega) (by omega) (by omega) (by omega) (by omega)) [1, 2, 3, 4, 5, 6, 7, 8, 9, 10, 11, 12, 13] rfl (by decide) rfl rfl rfl rfl rfl ⟨Nat.le_of_ble_eq_true rfl, Nat.le_of_ble_eq_true rfl, Nat.le_of_ble_eq_true rfl⟩ dX10_holding_21 ⟨Nat.le_of_ble_eq_true rfl, Nat.le_of_ble_eq_true rfl⟩ (fun r_9 H locs hr_9 hP hS => ?_)
      refine lv_goto (tgt := 29) hx hb dX10_holding_24 (by decide) ?_
      exact x_reti S hr hlk hQ hS () trivial x_T dX10_holding_29

set_option maxHeartbeats 4000000 in
set_option maxRecDepth 100000 in
theorem ctX10_eaten (l : Launch) (D : va_G) (k : Nat → ClassId) (z : Nat → Nat) (o : Nat → Nat) (clawNow : Int32) (charder : Int32) (ctold : Int32) (creply : Int32) (cwet : Int32) (f72 : Nat → Int32) (f69 : Nat → Int32) (f70 : Nat → Int32) (f71 : Nat → Int32) (glines : Int32) (ghours : Nat) (glaw : Int32) (godds : Int32) (grows : Nat) (gheads : Nat) (gsayings : Nat) (gslugs : Nat) (gacts : Nat) (f26 : Nat → Int32) (f29 : Nat → Int32) (f30 : Nat → Int32) (f31 : Nat → Int32) (f32 : Nat → Int32) (p0 : Int32) (hghours : ghours ≤ 16) (hgrows : grows ≤ 4) (hgheads : gheads ≤ 12) (hgsayings : gsayings ≤ 8) (hgslugs : gslugs ≤ 4) (hgacts : gacts ≤ 30) : RO l yX10_eaten cX10_eaten 2 (some .int) 2 D k z [.ref (o 0), .int p0] [((o 0), .inr (10, [.ref (o 1), .ref (o 2), .ref (o 3), .ref (o 4), .ref (o 5), .ref (o 6), .ref (o 7), .ref (o 8), .ref (o 9), .ref (o 10), .ref (o 11), .ref (o 12), .ref (o 13), .ref (o 14)])), ((o 7), .inr (7, [.ref (o 3), .ref (o 4), .ref (o 5)])), ((o 5), .inr (1, [.ref (o 3), .ref (o 4), .int clawNow, .int charder, .int ctold, .int creply, .int cwet, .ref (o 72)])), ((o 72), .inl (k 0, 17, .inl f72)), ((o 4), .inr (3, [.ref (o 69), .ref (o 70), .ref (o 71)])), ((o 69), .inl (k 0, 17, .inl f69)), ((o 70), .inl (k 0, 17, .inl f70)), ((o 71), .inl (k 0, 17, .inl f71)), ((o 3), .inr (2, [.int glines, .int (nI ghours), .int glaw, .int godds, .int (nI grows), .int (nI gheads), .int (nI gsayings), .int (nI gslugs), .int (nI gacts), .ref (o 26), .ref (o 27), .ref (o 28), .ref (o 29), .ref (o 30), .ref (o 31), .ref (o 32), .ref (o 33), .ref (o 34), .ref (o 35)])), ((o 26), .inl (k 0, 12, .inl f26)), ((o 29), .inl (k 0, 12, .inl f29)), ((o 30), .inl (k 0, 12, .inl f30)), ((o 31), .inl (k 0, 12, .inl f31)), ((o 32), .inl (k 0, 4, .inl f32))] (Qi (fun r : Int32 => True)) := by
  refine RO.of (by decide) (Nat.le_of_ble_eq_true rfl) ?_
  intro p e s m below meth c ls A B args Q S hr hlk hQ hK hP hDW hZ hAB hBA hA hS hl
  have hx := S.1
  have hb := S.2.1
  have hl : lv_has ls 2 [(0, .ref (o 0)), (1, .int p0)] := hl
  refine lv_aload_n hx hb dX10_eaten_0 rfl (lv_at hl 0 rfl) ?_
  refine lv_iload_n hx hb dX10_eaten_1 rfl (lv_at hl 1 rfl) ?_
  refine x_roVi (As := [.int p0]) S hK hP hDW hZ hAB hBA hS hA hl mwX10_isHour lkX10_161 (ctX10_isHour l D k z o glines ghours glaw godds grows gheads gsayings gslugs gacts p0 (by omega) (by omega) (by omega) (by omega) (by omega) (by omega)) [0, 8] rfl (by decide) rfl rfl rfl rfl rfl ⟨Nat.le_of_ble_eq_true rfl, Nat.le_of_ble_eq_true rfl, Nat.le_of_ble_eq_true rfl⟩ dX10_eaten_2 ⟨Nat.le_of_ble_eq_true rfl, Nat.le_of_ble_eq_true rfl⟩ (fun r_1 H locs hr_1 hP hS => ?_)
  have hp_3 := hr_1
  refine lv_if_eq (tgt := 20) hx hb dX10_eaten_5 (by decide) (fun c_4 => ?_) (fun c_4 => ?_)
  · skip
    refine lv_bipush (v := (-2)) hx hb dX10_eaten_20 (by decide) ?_
    exact x_reti S hr hlk hQ hS () trivial x_T dX10_eaten_22
  · skip
    obtain ⟨n_5, rfl, hn_5⟩ := hp_3.resolve_left c_4
    refine lv_aload_n hx hb dX10_eaten_8 rfl (lv_at hl 0 rfl) ?_
    refine x_get S hK hP 0 rfl cfX10 3 lkX10_29 (by decide) rfl dX10_eaten_9 ?_
    refine x_get S hK hP 4 rfl cfX3 1 lkX10_174 (by decide) rfl dX10_eaten_12 ?_
    refine lv_iload_n hx hb dX10_eaten_15 rfl (lv_at hl 1 rfl) ?_
    refine x_iald S hK hP 6 rfl (vp_in_nI (by omega) (by decide)) dX10_eaten_16 ?_
    refine lv_topi (fun v_6 ev_6 => ?_)
    refine lv_goto (tgt := 22) hx hb dX10_eaten_17 (by decide) ?_
    exact x_reti S hr hlk hQ hS () trivial x_T dX10_eaten_22

set_option maxHeartbeats 4000000 in
set_option maxRecDepth 100000 in
theorem ctX10_turned (l : Launch) (D : va_G) (k : Nat → ClassId) (z : Nat → Nat) (o : Nat → Nat) (clawNow : Int32) (charder : Int32) (ctold : Int32) (creply : Int32) (cwet : Int32) (f72 : Nat → Int32) (f69 : Nat → Int32) (f70 : Nat → Int32) (f71 : Nat → Int32) (glines : Int32) (ghours : Nat) (glaw : Int32) (godds : Int32) (grows : Nat) (gheads : Nat) (gsayings : Nat) (gslugs : Nat) (gacts : Nat) (f26 : Nat → Int32) (f29 : Nat → Int32) (f30 : Nat → Int32) (f31 : Nat → Int32) (f32 : Nat → Int32) (p0 : Int32) (hghours : ghours ≤ 16) (hgrows : grows ≤ 4) (hgheads : gheads ≤ 12) (hgsayings : gsayings ≤ 8) (hgslugs : gslugs ≤ 4) (hgacts : gacts ≤ 30) : RO l yX10_turned cX10_turned 2 (some .int) 2 D k z [.ref (o 0), .int p0] [((o 0), .inr (10, [.ref (o 1), .ref (o 2), .ref (o 3), .ref (o 4), .ref (o 5), .ref (o 6), .ref (o 7), .ref (o 8), .ref (o 9), .ref (o 10), .ref (o 11), .ref (o 12), .ref (o 13), .ref (o 14)])), ((o 7), .inr (7, [.ref (o 3), .ref (o 4), .ref (o 5)])), ((o 5), .inr (1, [.ref (o 3), .ref (o 4), .int clawNow, .int charder, .int ctold, .int creply, .int cwet, .ref (o 72)])), ((o 72), .inl (k 0, 17, .inl f72)), ((o 4), .inr (3, [.ref (o 69), .ref (o 70), .ref (o 71)])), ((o 69), .inl (k 0, 17, .inl f69)), ((o 70), .inl (k 0, 17, .inl f70)), ((o 71), .inl (k 0, 17, .inl f71)), ((o 3), .inr (2, [.int glines, .int (nI ghours), .int glaw, .int godds, .int (nI grows), .int (nI gheads), .int (nI gsayings), .int (nI gslugs), .int (nI gacts), .ref (o 26), .ref (o 27), .ref (o 28), .ref (o 29), .ref (o 30), .ref (o 31), .ref (o 32), .ref (o 33), .ref (o 34), .ref (o 35)])), ((o 26), .inl (k 0, 12, .inl f26)), ((o 29), .inl (k 0, 12, .inl f29)), ((o 30), .inl (k 0, 12, .inl f30)), ((o 31), .inl (k 0, 12, .inl f31)), ((o 32), .inl (k 0, 4, .inl f32))] (Qi (fun r : Int32 => True)) := by
  refine RO.of (by decide) (Nat.le_of_ble_eq_true rfl) ?_
  intro p e s m below meth c ls A B args Q S hr hlk hQ hK hP hDW hZ hAB hBA hA hS hl
  have hx := S.1
  have hb := S.2.1
  have hl : lv_has ls 2 [(0, .ref (o 0)), (1, .int p0)] := hl
  refine lv_aload_n hx hb dX10_turned_0 rfl (lv_at hl 0 rfl) ?_
  refine lv_iload_n hx hb dX10_turned_1 rfl (lv_at hl 1 rfl) ?_
  refine x_roVi (As := [.int p0]) S hK hP hDW hZ hAB hBA hS hA hl mwX10_isHour lkX10_161 (ctX10_isHour l D k z o glines ghours glaw godds grows gheads gsayings gslugs gacts p0 (by omega) (by omega) (by omega) (by omega) (by omega) (by omega)) [0, 8] rfl (by decide) rfl rfl rfl rfl rfl ⟨Nat.le_of_ble_eq_true rfl, Nat.le_of_ble_eq_true rfl, Nat.le_of_ble_eq_true rfl⟩ dX10_turned_2 ⟨Nat.le_of_ble_eq_true rfl, Nat.le_of_ble_eq_true rfl⟩ (fun r_1 H locs hr_1 hP hS => ?_)
  have hp_3 := hr_1
  refine lv_if_eq (tgt := 19) hx hb dX10_turned_5 (by decide) (fun c_4 => ?_) (fun c_4 => ?_)
  · skip
    refine lv_bipush (v := (-2)) hx hb dX10_turned_19 (by decide) ?_
    exact x_reti S hr hlk hQ hS () trivial x_T dX10_turned_21
  · skip
    obtain ⟨n_5, rfl, hn_5⟩ := hp_3.resolve_left c_4
    refine lv_aload_n hx hb dX10_turned_8 rfl (lv_at hl 0 rfl) ?_
    refine x_get S hK hP 0 rfl cfX10 6 lkX10_50 (by decide) rfl dX10_turned_9 ?_
    refine lv_iload_n hx hb dX10_turned_12 rfl (lv_at hl 1 rfl) ?_
    refine x_roVi (As := [.int (nI n_5)]) S hK hP hDW hZ hAB hBA hS hA hl mwX7_turnedAt lkX10_177 (ctX7_turnedAt l D k z o clawNow charder ctold creply cwet f72 f69 f70 f71 glines ghours glaw godds grows gheads gsayings gslugs gacts f26 f29 f30 f31 f32 n_5 (by omega) (by omega) (by omega) (by omega) (by omega) (by omega) (by omega)) [1, 2, 3, 4, 5, 6, 7, 8, 9, 10, 11, 12, 13] rfl (by decide) rfl rfl rfl rfl rfl ⟨Nat.le_of_ble_eq_true rfl, Nat.le_of_ble_eq_true rfl, Nat.le_of_ble_eq_true rfl⟩ dX10_turned_13 ⟨Nat.le_of_ble_eq_true rfl, Nat.le_of_ble_eq_true rfl⟩ (fun r_6 H locs hr_6 hP hS => ?_)
    refine lv_goto (tgt := 21) hx hb dX10_turned_16 (by decide) ?_
    exact x_reti S hr hlk hQ hS () trivial x_T dX10_turned_21

set_option maxHeartbeats 4000000 in
set_option maxRecDepth 100000 in
theorem ctX10_sways (l : Launch) (D : va_G) (k : Nat → ClassId) (z : Nat → Nat) (o : Nat → Nat) (clawNow : Int32) (charder : Int32) (ctold : Int32) (creply : Int32) (cwet : Int32) (f72 : Nat → Int32) (f69 : Nat → Int32) (f70 : Nat → Int32) (f71 : Nat → Int32) (glines : Int32) (ghours : Nat) (glaw : Int32) (godds : Int32) (grows : Nat) (gheads : Nat) (gsayings : Nat) (gslugs : Nat) (gacts : Nat) (f26 : Nat → Int32) (f29 : Nat → Int32) (f30 : Nat → Int32) (f31 : Nat → Int32) (f32 : Nat → Int32) (p0 : Int32) (hghours : ghours ≤ 16) (hgrows : grows ≤ 4) (hgheads : gheads ≤ 12) (hgsayings : gsayings ≤ 8) (hgslugs : gslugs ≤ 4) (hgacts : gacts ≤ 30) : RO l yX10_sways cX10_sways 2 (some .int) 2 D k z [.ref (o 0), .int p0] [((o 0), .inr (10, [.ref (o 1), .ref (o 2), .ref (o 3), .ref (o 4), .ref (o 5), .ref (o 6), .ref (o 7), .ref (o 8), .ref (o 9), .ref (o 10), .ref (o 11), .ref (o 12), .ref (o 13), .ref (o 14)])), ((o 7), .inr (7, [.ref (o 3), .ref (o 4), .ref (o 5)])), ((o 5), .inr (1, [.ref (o 3), .ref (o 4), .int clawNow, .int charder, .int ctold, .int creply, .int cwet, .ref (o 72)])), ((o 72), .inl (k 0, 17, .inl f72)), ((o 4), .inr (3, [.ref (o 69), .ref (o 70), .ref (o 71)])), ((o 69), .inl (k 0, 17, .inl f69)), ((o 70), .inl (k 0, 17, .inl f70)), ((o 71), .inl (k 0, 17, .inl f71)), ((o 3), .inr (2, [.int glines, .int (nI ghours), .int glaw, .int godds, .int (nI grows), .int (nI gheads), .int (nI gsayings), .int (nI gslugs), .int (nI gacts), .ref (o 26), .ref (o 27), .ref (o 28), .ref (o 29), .ref (o 30), .ref (o 31), .ref (o 32), .ref (o 33), .ref (o 34), .ref (o 35)])), ((o 26), .inl (k 0, 12, .inl f26)), ((o 29), .inl (k 0, 12, .inl f29)), ((o 30), .inl (k 0, 12, .inl f30)), ((o 31), .inl (k 0, 12, .inl f31)), ((o 32), .inl (k 0, 4, .inl f32))] (Qi (fun r : Int32 => True)) := by
  refine RO.of (by decide) (Nat.le_of_ble_eq_true rfl) ?_
  intro p e s m below meth c ls A B args Q S hr hlk hQ hK hP hDW hZ hAB hBA hA hS hl
  have hx := S.1
  have hb := S.2.1
  have hl : lv_has ls 2 [(0, .ref (o 0)), (1, .int p0)] := hl
  refine lv_aload_n hx hb dX10_sways_0 rfl (lv_at hl 0 rfl) ?_
  refine lv_iload_n hx hb dX10_sways_1 rfl (lv_at hl 1 rfl) ?_
  refine x_roVi (As := [.int p0]) S hK hP hDW hZ hAB hBA hS hA hl mwX10_isHead lkX10_135 (ctX10_isHead l D k z o glines ghours glaw godds grows gheads gsayings gslugs gacts p0 (by omega) (by omega) (by omega) (by omega) (by omega) (by omega)) [0, 8] rfl (by decide) rfl rfl rfl rfl rfl ⟨Nat.le_of_ble_eq_true rfl, Nat.le_of_ble_eq_true rfl, Nat.le_of_ble_eq_true rfl⟩ dX10_sways_2 ⟨Nat.le_of_ble_eq_true rfl, Nat.le_of_ble_eq_true rfl⟩ (fun r_1 H locs hr_1 hP hS => ?_)
  have hp_3 := hr_1
  refine lv_if_eq (tgt := 19) hx hb dX10_sways_5 (by decide) (fun c_4 => ?_) (fun c_4 => ?_)
  · skip
    refine lv_bipush (v := (-2)) hx hb dX10_sways_19 (by decide) ?_
    exact x_reti S hr hlk hQ hS () trivial x_T dX10_sways_21
  · skip
    obtain ⟨n_5, rfl, hn_5⟩ := hp_3.resolve_left c_4
    refine lv_aload_n hx hb dX10_sways_8 rfl (lv_at hl 0 rfl) ?_
    refine x_get S hK hP 0 rfl cfX10 6 lkX10_50 (by decide) rfl dX10_sways_9 ?_
    refine lv_iload_n hx hb dX10_sways_12 rfl (lv_at hl 1 rfl) ?_
    refine x_roVi (As := [.int (nI n_5)]) S hK hP hDW hZ hAB hBA hS hA hl mwX7_changesOf lkX10_181 (ctX7_changesOf l D k z o clawNow charder ctold creply cwet f72 f69 f70 f71 glines ghours glaw godds grows gheads gsayings gslugs gacts f26 f29 f30 f31 f32 (nI n_5) (by omega) (by omega) (by omega) (by omega) (by omega) (by omega)) [1, 2, 3, 4, 5, 6, 7, 8, 9, 10, 11, 12, 13] rfl (by decide) rfl rfl rfl rfl rfl ⟨Nat.le_of_ble_eq_true rfl, Nat.le_of_ble_eq_true rfl, Nat.le_of_ble_eq_true rfl⟩ dX10_sways_13 ⟨Nat.le_of_ble_eq_true rfl, Nat.le_of_ble_eq_true rfl⟩ (fun r_6 H locs hr_6 hP hS => ?_)
    refine lv_goto (tgt := 21) hx hb dX10_sways_16 (by decide) ?_
    exact x_reti S hr hlk hQ hS () trivial x_T dX10_sways_21

set_option maxHeartbeats 4000000 in
set_option maxRecDepth 100000 in
theorem ctX10_when (l : Launch) (D : va_G) (k : Nat → ClassId) (z : Nat → Nat) (o : Nat → Nat) (clawNow : Int32) (charder : Int32) (ctold : Int32) (creply : Int32) (cwet : Int32) (f72 : Nat → Int32) (f69 : Nat → Int32) (f70 : Nat → Int32) (f71 : Nat → Int32) (glines : Int32) (ghours : Nat) (glaw : Int32) (godds : Int32) (grows : Nat) (gheads : Nat) (gsayings : Nat) (gslugs : Nat) (gacts : Nat) (f26 : Nat → Int32) (f29 : Nat → Int32) (f30 : Nat → Int32) (f31 : Nat → Int32) (f32 : Nat → Int32) (p0 : Int32) (p1 : Int32) (hghours : ghours ≤ 16) (hgrows : grows ≤ 4) (hgheads : gheads ≤ 12) (hgsayings : gsayings ≤ 8) (hgslugs : gslugs ≤ 4) (hgacts : gacts ≤ 30) : RO l yX10_when cX10_when 3 (some .int) 4 D k z [.ref (o 0), .int p0, .int p1] [((o 0), .inr (10, [.ref (o 1), .ref (o 2), .ref (o 3), .ref (o 4), .ref (o 5), .ref (o 6), .ref (o 7), .ref (o 8), .ref (o 9), .ref (o 10), .ref (o 11), .ref (o 12), .ref (o 13), .ref (o 14)])), ((o 7), .inr (7, [.ref (o 3), .ref (o 4), .ref (o 5)])), ((o 5), .inr (1, [.ref (o 3), .ref (o 4), .int clawNow, .int charder, .int ctold, .int creply, .int cwet, .ref (o 72)])), ((o 72), .inl (k 0, 17, .inl f72)), ((o 4), .inr (3, [.ref (o 69), .ref (o 70), .ref (o 71)])), ((o 69), .inl (k 0, 17, .inl f69)), ((o 70), .inl (k 0, 17, .inl f70)), ((o 71), .inl (k 0, 17, .inl f71)), ((o 3), .inr (2, [.int glines, .int (nI ghours), .int glaw, .int godds, .int (nI grows), .int (nI gheads), .int (nI gsayings), .int (nI gslugs), .int (nI gacts), .ref (o 26), .ref (o 27), .ref (o 28), .ref (o 29), .ref (o 30), .ref (o 31), .ref (o 32), .ref (o 33), .ref (o 34), .ref (o 35)])), ((o 26), .inl (k 0, 12, .inl f26)), ((o 29), .inl (k 0, 12, .inl f29)), ((o 30), .inl (k 0, 12, .inl f30)), ((o 31), .inl (k 0, 12, .inl f31)), ((o 32), .inl (k 0, 4, .inl f32))] (Qi (fun r : Int32 => True)) := by
  refine RO.of (by decide) (Nat.le_of_ble_eq_true rfl) ?_
  intro p e s m below meth c ls A B args Q S hr hlk hQ hK hP hDW hZ hAB hBA hA hS hl
  have hx := S.1
  have hb := S.2.1
  have hl : lv_has ls 3 [(0, .ref (o 0)), (1, .int p0), (2, .int p1)] := hl
  refine lv_aload_n hx hb dX10_when_0 rfl (lv_at hl 0 rfl) ?_
  refine lv_iload_n hx hb dX10_when_1 rfl (lv_at hl 1 rfl) ?_
  refine x_roVi (As := [.int p0]) S hK hP hDW hZ hAB hBA hS hA hl mwX10_isHead lkX10_135 (ctX10_isHead l D k z o glines ghours glaw godds grows gheads gsayings gslugs gacts p0 (by omega) (by omega) (by omega) (by omega) (by omega) (by omega)) [0, 8] rfl (by decide) rfl rfl rfl rfl rfl ⟨Nat.le_of_ble_eq_true rfl, Nat.le_of_ble_eq_true rfl, Nat.le_of_ble_eq_true rfl⟩ dX10_when_2 ⟨Nat.le_of_ble_eq_true rfl, Nat.le_of_ble_eq_true rfl⟩ (fun r_1 H locs hr_1 hP hS => ?_)
  have hp_3 := hr_1
  refine lv_if_eq (tgt := 29) hx hb dX10_when_5 (by decide) (fun c_4 => ?_) (fun c_4 => ?_)
  · skip
    refine lv_bipush (v := (-2)) hx hb dX10_when_29 (by decide) ?_
    exact x_reti S hr hlk hQ hS () trivial x_T dX10_when_31
  · skip
    obtain ⟨n_5, rfl, hn_5⟩ := hp_3.resolve_left c_4
    refine lv_iload_n hx hb dX10_when_8 rfl (lv_at hl 2 rfl) ?_
    refine x_roSi (As := [.int p1]) S hK hP hDW hZ hAB hBA hS hA hl mwX10_isView lkX10_184 (ctX10_isView l D k z p1 ) [] rfl (by decide) rfl rfl ⟨Nat.le_of_ble_eq_true rfl, Nat.le_of_ble_eq_true rfl, Nat.le_of_ble_eq_true rfl⟩ dX10_when_9 ⟨Nat.le_of_ble_eq_true rfl, Nat.le_of_ble_eq_true rfl⟩ (fun r_6 H locs hr_6 hP hS => ?_)
    have hp_8 := hr_6
    refine lv_if_eq (tgt := 29) hx hb dX10_when_12 (by decide) (fun c_9 => ?_) (fun c_9 => ?_)
    · skip
      refine lv_bipush (v := (-2)) hx hb dX10_when_29 (by decide) ?_
      exact x_reti S hr hlk hQ hS () trivial x_T dX10_when_31
    · skip
      obtain ⟨n_10, rfl, hn_10⟩ := hp_8.resolve_left c_9
      refine lv_aload_n hx hb dX10_when_15 rfl (lv_at hl 0 rfl) ?_
      refine x_get S hK hP 0 rfl cfX10 6 lkX10_50 (by decide) rfl dX10_when_16 ?_
      refine lv_iconst (v := 1) hx hb dX10_when_19 (by decide) ?_
      refine lv_iload_n hx hb dX10_when_20 rfl (lv_at hl 1 rfl) ?_
      refine lv_ishl hx hb dX10_when_21 ?_
      refine lv_topi (fun v_11 ev_11 => ?_)
      refine lv_iload_n hx hb dX10_when_22 rfl (lv_at hl 2 rfl) ?_
      refine x_roVi (As := [.int v_11, .int (nI n_10)]) S hK hP hDW hZ hAB hBA hS hA hl mwX7_firstHour lkX10_187 (ctX7_firstHour l D k z o clawNow charder ctold creply cwet f72 f69 f70 f71 glines ghours glaw godds grows gheads gsayings gslugs gacts f26 f29 f30 f31 f32 v_11 (nI n_10) (by omega) (by omega) (by omega) (by omega) (by omega) (by omega)) [1, 2, 3, 4, 5, 6, 7, 8, 9, 10, 11, 12, 13] rfl (by decide) rfl rfl rfl rfl rfl ⟨Nat.le_of_ble_eq_true rfl, Nat.le_of_ble_eq_true rfl, Nat.le_of_ble_eq_true rfl⟩ dX10_when_23 ⟨Nat.le_of_ble_eq_true rfl, Nat.le_of_ble_eq_true rfl⟩ (fun r_12 H locs hr_12 hP hS => ?_)
      refine lv_goto (tgt := 31) hx hb dX10_when_26 (by decide) ?_
      exact x_reti S hr hlk hQ hS () trivial x_T dX10_when_31

set_option maxHeartbeats 4000000 in
set_option maxRecDepth 100000 in
theorem ctX10_often (l : Launch) (D : va_G) (k : Nat → ClassId) (z : Nat → Nat) (o : Nat → Nat) (clawNow : Int32) (charder : Int32) (ctold : Int32) (creply : Int32) (cwet : Int32) (f72 : Nat → Int32) (f69 : Nat → Int32) (f70 : Nat → Int32) (f71 : Nat → Int32) (glines : Int32) (ghours : Nat) (glaw : Int32) (godds : Int32) (grows : Nat) (gheads : Nat) (gsayings : Nat) (gslugs : Nat) (gacts : Nat) (f26 : Nat → Int32) (f29 : Nat → Int32) (f30 : Nat → Int32) (f31 : Nat → Int32) (f32 : Nat → Int32) (p0 : Int32) (p1 : Int32) (hghours : ghours ≤ 16) (hgrows : grows ≤ 4) (hgheads : gheads ≤ 12) (hgsayings : gsayings ≤ 8) (hgslugs : gslugs ≤ 4) (hgacts : gacts ≤ 30) : RO l yX10_often cX10_often 3 (some .int) 4 D k z [.ref (o 0), .int p0, .int p1] [((o 0), .inr (10, [.ref (o 1), .ref (o 2), .ref (o 3), .ref (o 4), .ref (o 5), .ref (o 6), .ref (o 7), .ref (o 8), .ref (o 9), .ref (o 10), .ref (o 11), .ref (o 12), .ref (o 13), .ref (o 14)])), ((o 7), .inr (7, [.ref (o 3), .ref (o 4), .ref (o 5)])), ((o 5), .inr (1, [.ref (o 3), .ref (o 4), .int clawNow, .int charder, .int ctold, .int creply, .int cwet, .ref (o 72)])), ((o 72), .inl (k 0, 17, .inl f72)), ((o 4), .inr (3, [.ref (o 69), .ref (o 70), .ref (o 71)])), ((o 69), .inl (k 0, 17, .inl f69)), ((o 70), .inl (k 0, 17, .inl f70)), ((o 71), .inl (k 0, 17, .inl f71)), ((o 3), .inr (2, [.int glines, .int (nI ghours), .int glaw, .int godds, .int (nI grows), .int (nI gheads), .int (nI gsayings), .int (nI gslugs), .int (nI gacts), .ref (o 26), .ref (o 27), .ref (o 28), .ref (o 29), .ref (o 30), .ref (o 31), .ref (o 32), .ref (o 33), .ref (o 34), .ref (o 35)])), ((o 26), .inl (k 0, 12, .inl f26)), ((o 29), .inl (k 0, 12, .inl f29)), ((o 30), .inl (k 0, 12, .inl f30)), ((o 31), .inl (k 0, 12, .inl f31)), ((o 32), .inl (k 0, 4, .inl f32))] (Qi (fun r : Int32 => True)) := by
  refine RO.of (by decide) (Nat.le_of_ble_eq_true rfl) ?_
  intro p e s m below meth c ls A B args Q S hr hlk hQ hK hP hDW hZ hAB hBA hA hS hl
  have hx := S.1
  have hb := S.2.1
  have hl : lv_has ls 3 [(0, .ref (o 0)), (1, .int p0), (2, .int p1)] := hl
  refine lv_aload_n hx hb dX10_often_0 rfl (lv_at hl 0 rfl) ?_
  refine lv_iload_n hx hb dX10_often_1 rfl (lv_at hl 1 rfl) ?_
  refine x_roVi (As := [.int p0]) S hK hP hDW hZ hAB hBA hS hA hl mwX10_isHead lkX10_135 (ctX10_isHead l D k z o glines ghours glaw godds grows gheads gsayings gslugs gacts p0 (by omega) (by omega) (by omega) (by omega) (by omega) (by omega)) [0, 8] rfl (by decide) rfl rfl rfl rfl rfl ⟨Nat.le_of_ble_eq_true rfl, Nat.le_of_ble_eq_true rfl, Nat.le_of_ble_eq_true rfl⟩ dX10_often_2 ⟨Nat.le_of_ble_eq_true rfl, Nat.le_of_ble_eq_true rfl⟩ (fun r_1 H locs hr_1 hP hS => ?_)
  have hp_3 := hr_1
  refine lv_if_eq (tgt := 27) hx hb dX10_often_5 (by decide) (fun c_4 => ?_) (fun c_4 => ?_)
  · skip
    refine lv_bipush (v := (-2)) hx hb dX10_often_27 (by decide) ?_
    exact x_reti S hr hlk hQ hS () trivial x_T dX10_often_29
  · skip
    obtain ⟨n_5, rfl, hn_5⟩ := hp_3.resolve_left c_4
    refine lv_iload_n hx hb dX10_often_8 rfl (lv_at hl 2 rfl) ?_
    refine x_roSi (As := [.int p1]) S hK hP hDW hZ hAB hBA hS hA hl mwX10_isView lkX10_184 (ctX10_isView l D k z p1 ) [] rfl (by decide) rfl rfl ⟨Nat.le_of_ble_eq_true rfl, Nat.le_of_ble_eq_true rfl, Nat.le_of_ble_eq_true rfl⟩ dX10_often_9 ⟨Nat.le_of_ble_eq_true rfl, Nat.le_of_ble_eq_true rfl⟩ (fun r_6 H locs hr_6 hP hS => ?_)
    have hp_8 := hr_6
    refine lv_if_eq (tgt := 27) hx hb dX10_often_12 (by decide) (fun c_9 => ?_) (fun c_9 => ?_)
    · skip
      refine lv_bipush (v := (-2)) hx hb dX10_often_27 (by decide) ?_
      exact x_reti S hr hlk hQ hS () trivial x_T dX10_often_29
    · skip
      obtain ⟨n_10, rfl, hn_10⟩ := hp_8.resolve_left c_9
      refine lv_aload_n hx hb dX10_often_15 rfl (lv_at hl 0 rfl) ?_
      refine x_get S hK hP 0 rfl cfX10 6 lkX10_50 (by decide) rfl dX10_often_16 ?_
      refine lv_iload_n hx hb dX10_often_19 rfl (lv_at hl 1 rfl) ?_
      refine lv_iload_n hx hb dX10_often_20 rfl (lv_at hl 2 rfl) ?_
      refine x_roVi (As := [.int (nI n_5), .int (nI n_10)]) S hK hP hDW hZ hAB hBA hS hA hl mwX7_hoursOf lkX10_190 (ctX7_hoursOf l D k z o clawNow charder ctold creply cwet f72 f69 f70 f71 glines ghours glaw godds grows gheads gsayings gslugs gacts f26 f29 f30 f31 f32 (nI n_5) (nI n_10) (by omega) (by omega) (by omega) (by omega) (by omega) (by omega)) [1, 2, 3, 4, 5, 6, 7, 8, 9, 10, 11, 12, 13] rfl (by decide) rfl rfl rfl rfl rfl ⟨Nat.le_of_ble_eq_true rfl, Nat.le_of_ble_eq_true rfl, Nat.le_of_ble_eq_true rfl⟩ dX10_often_21 ⟨Nat.le_of_ble_eq_true rfl, Nat.le_of_ble_eq_true rfl⟩ (fun r_11 H locs hr_11 hP hS => ?_)
      refine lv_goto (tgt := 29) hx hb dX10_often_24 (by decide) ?_
      exact x_reti S hr hlk hQ hS () trivial x_T dX10_often_29

set_option maxHeartbeats 4000000 in
set_option maxRecDepth 100000 in
theorem ctX10_heart (l : Launch) (D : va_G) (k : Nat → ClassId) (z : Nat → Nat) (o : Nat → Nat) (clawNow : Int32) (charder : Int32) (ctold : Int32) (creply : Int32) (cwet : Int32) (f72 : Nat → Int32) (f69 : Nat → Int32) (f70 : Nat → Int32) (f71 : Nat → Int32) (glines : Int32) (ghours : Nat) (glaw : Int32) (godds : Int32) (grows : Nat) (gheads : Nat) (gsayings : Nat) (gslugs : Nat) (gacts : Nat) (f26 : Nat → Int32) (f29 : Nat → Int32) (f30 : Nat → Int32) (f31 : Nat → Int32) (f32 : Nat → Int32) (p0 : Int32) (hghours : ghours ≤ 16) (hgrows : grows ≤ 4) (hgheads : gheads ≤ 12) (hgsayings : gsayings ≤ 8) (hgslugs : gslugs ≤ 4) (hgacts : gacts ≤ 30) : RO l yX10_heart cX10_heart 2 (some .int) 3 D k z [.ref (o 0), .int p0] [((o 0), .inr (10, [.ref (o 1), .ref (o 2), .ref (o 3), .ref (o 4), .ref (o 5), .ref (o 6), .ref (o 7), .ref (o 8), .ref (o 9), .ref (o 10), .ref (o 11), .ref (o 12), .ref (o 13), .ref (o 14)])), ((o 7), .inr (7, [.ref (o 3), .ref (o 4), .ref (o 5)])), ((o 5), .inr (1, [.ref (o 3), .ref (o 4), .int clawNow, .int charder, .int ctold, .int creply, .int cwet, .ref (o 72)])), ((o 72), .inl (k 0, 17, .inl f72)), ((o 4), .inr (3, [.ref (o 69), .ref (o 70), .ref (o 71)])), ((o 69), .inl (k 0, 17, .inl f69)), ((o 70), .inl (k 0, 17, .inl f70)), ((o 71), .inl (k 0, 17, .inl f71)), ((o 3), .inr (2, [.int glines, .int (nI ghours), .int glaw, .int godds, .int (nI grows), .int (nI gheads), .int (nI gsayings), .int (nI gslugs), .int (nI gacts), .ref (o 26), .ref (o 27), .ref (o 28), .ref (o 29), .ref (o 30), .ref (o 31), .ref (o 32), .ref (o 33), .ref (o 34), .ref (o 35)])), ((o 26), .inl (k 0, 12, .inl f26)), ((o 29), .inl (k 0, 12, .inl f29)), ((o 30), .inl (k 0, 12, .inl f30)), ((o 31), .inl (k 0, 12, .inl f31)), ((o 32), .inl (k 0, 4, .inl f32))] (Qi (fun r : Int32 => True)) := by
  refine RO.of (by decide) (Nat.le_of_ble_eq_true rfl) ?_
  intro p e s m below meth c ls A B args Q S hr hlk hQ hK hP hDW hZ hAB hBA hA hS hl
  have hx := S.1
  have hb := S.2.1
  have hl : lv_has ls 2 [(0, .ref (o 0)), (1, .int p0)] := hl
  refine lv_aload_n hx hb dX10_heart_0 rfl (lv_at hl 0 rfl) ?_
  refine lv_iload_n hx hb dX10_heart_1 rfl (lv_at hl 1 rfl) ?_
  refine x_roVi (As := [.int p0]) S hK hP hDW hZ hAB hBA hS hA hl mwX10_isHead lkX10_135 (ctX10_isHead l D k z o glines ghours glaw godds grows gheads gsayings gslugs gacts p0 (by omega) (by omega) (by omega) (by omega) (by omega) (by omega)) [0, 8] rfl (by decide) rfl rfl rfl rfl rfl ⟨Nat.le_of_ble_eq_true rfl, Nat.le_of_ble_eq_true rfl, Nat.le_of_ble_eq_true rfl⟩ dX10_heart_2 ⟨Nat.le_of_ble_eq_true rfl, Nat.le_of_ble_eq_true rfl⟩ (fun r_1 H locs hr_1 hP hS => ?_)
  have hp_3 := hr_1
  refine lv_if_eq (tgt := 19) hx hb dX10_heart_5 (by decide) (fun c_4 => ?_) (fun c_4 => ?_)
  · skip
    refine lv_bipush (v := (-2)) hx hb dX10_heart_19 (by decide) ?_
    exact x_reti S hr hlk hQ hS () trivial x_T dX10_heart_21
  · skip
    obtain ⟨n_5, rfl, hn_5⟩ := hp_3.resolve_left c_4
    refine lv_aload_n hx hb dX10_heart_8 rfl (lv_at hl 0 rfl) ?_
    refine x_get S hK hP 0 rfl cfX10 6 lkX10_50 (by decide) rfl dX10_heart_9 ?_
    refine lv_iload_n hx hb dX10_heart_12 rfl (lv_at hl 1 rfl) ?_
    refine x_roVi (As := [.int (nI n_5)]) S hK hP hDW hZ hAB hBA hS hA hl mwX7_firstView lkX10_193 (ctX7_firstView l D k z o clawNow charder ctold creply cwet f72 f69 f70 f71 glines ghours glaw godds grows gheads gsayings gslugs gacts f26 f29 f30 f31 f32 (nI n_5) (by omega) (by omega) (by omega) (by omega) (by omega) (by omega)) [1, 2, 3, 4, 5, 6, 7, 8, 9, 10, 11, 12, 13] rfl (by decide) rfl rfl rfl rfl rfl ⟨Nat.le_of_ble_eq_true rfl, Nat.le_of_ble_eq_true rfl, Nat.le_of_ble_eq_true rfl⟩ dX10_heart_13 ⟨Nat.le_of_ble_eq_true rfl, Nat.le_of_ble_eq_true rfl⟩ (fun r_6 H locs hr_6 hP hS => ?_)
    refine lv_goto (tgt := 21) hx hb dX10_heart_16 (by decide) ?_
    exact x_reti S hr hlk hQ hS () trivial x_T dX10_heart_21

set_option maxHeartbeats 4000000 in
set_option maxRecDepth 100000 in
theorem ctX10_fickle (l : Launch) (D : va_G) (k : Nat → ClassId) (z : Nat → Nat) (o : Nat → Nat) (clawNow : Int32) (charder : Int32) (ctold : Int32) (creply : Int32) (cwet : Int32) (f72 : Nat → Int32) (f69 : Nat → Int32) (f70 : Nat → Int32) (f71 : Nat → Int32) (glines : Int32) (ghours : Nat) (glaw : Int32) (godds : Int32) (grows : Nat) (gheads : Nat) (gsayings : Nat) (gslugs : Nat) (gacts : Nat) (f26 : Nat → Int32) (f29 : Nat → Int32) (f30 : Nat → Int32) (f31 : Nat → Int32) (f32 : Nat → Int32) (hghours : ghours ≤ 16) (hgrows : grows ≤ 4) (hgheads : gheads ≤ 12) (hgsayings : gsayings ≤ 8) (hgslugs : gslugs ≤ 4) (hgacts : gacts ≤ 30) : RO l yX10_fickle cX10_fickle 1 (some .int) 3 D k z [.ref (o 0)] [((o 0), .inr (10, [.ref (o 1), .ref (o 2), .ref (o 3), .ref (o 4), .ref (o 5), .ref (o 6), .ref (o 7), .ref (o 8), .ref (o 9), .ref (o 10), .ref (o 11), .ref (o 12), .ref (o 13), .ref (o 14)])), ((o 7), .inr (7, [.ref (o 3), .ref (o 4), .ref (o 5)])), ((o 5), .inr (1, [.ref (o 3), .ref (o 4), .int clawNow, .int charder, .int ctold, .int creply, .int cwet, .ref (o 72)])), ((o 72), .inl (k 0, 17, .inl f72)), ((o 4), .inr (3, [.ref (o 69), .ref (o 70), .ref (o 71)])), ((o 69), .inl (k 0, 17, .inl f69)), ((o 70), .inl (k 0, 17, .inl f70)), ((o 71), .inl (k 0, 17, .inl f71)), ((o 3), .inr (2, [.int glines, .int (nI ghours), .int glaw, .int godds, .int (nI grows), .int (nI gheads), .int (nI gsayings), .int (nI gslugs), .int (nI gacts), .ref (o 26), .ref (o 27), .ref (o 28), .ref (o 29), .ref (o 30), .ref (o 31), .ref (o 32), .ref (o 33), .ref (o 34), .ref (o 35)])), ((o 26), .inl (k 0, 12, .inl f26)), ((o 29), .inl (k 0, 12, .inl f29)), ((o 30), .inl (k 0, 12, .inl f30)), ((o 31), .inl (k 0, 12, .inl f31)), ((o 32), .inl (k 0, 4, .inl f32))] (Qi (fun r : Int32 => True)) := by
  refine RO.of (by decide) (Nat.le_of_ble_eq_true rfl) ?_
  intro p e s m below meth c ls A B args Q S hr hlk hQ hK hP hDW hZ hAB hBA hA hS hl
  have hx := S.1
  have hb := S.2.1
  have hl : lv_has ls 1 [(0, .ref (o 0))] := hl
  refine lv_aload_n hx hb dX10_fickle_0 rfl (lv_at hl 0 rfl) ?_
  refine x_roVi (As := []) S hK hP hDW hZ hAB hBA hS hA hl mwX10_isGarden lkX10_196 (ctX10_isGarden l D k z o glines ghours glaw godds grows gheads gsayings gslugs gacts (by omega) (by omega) (by omega) (by omega) (by omega) (by omega)) [0, 8] rfl (by decide) rfl rfl rfl rfl rfl ⟨Nat.le_of_ble_eq_true rfl, Nat.le_of_ble_eq_true rfl, Nat.le_of_ble_eq_true rfl⟩ dX10_fickle_1 ⟨Nat.le_of_ble_eq_true rfl, Nat.le_of_ble_eq_true rfl⟩ (fun r_1 H locs hr_1 hP hS => ?_)
  refine lv_if_eq (tgt := 17) hx hb dX10_fickle_4 (by decide) (fun c_3 => ?_) (fun c_3 => ?_)
  · skip
    refine lv_bipush (v := (-2)) hx hb dX10_fickle_17 (by decide) ?_
    exact x_reti S hr hlk hQ hS () trivial x_T dX10_fickle_19
  · skip
    refine lv_aload_n hx hb dX10_fickle_7 rfl (lv_at hl 0 rfl) ?_
    refine x_get S hK hP 0 rfl cfX10 6 lkX10_50 (by decide) rfl dX10_fickle_8 ?_
    refine x_roVi (As := []) S hK hP hDW hZ hAB hBA hS hA hl mwX7_mostFickle lkX10_199 (ctX7_mostFickle l D k z o clawNow charder ctold creply cwet f72 f69 f70 f71 glines ghours glaw godds grows gheads gsayings gslugs gacts f26 f29 f30 f31 f32 (by omega) (by omega) (by omega) (by omega) (by omega) (by omega)) [1, 2, 3, 4, 5, 6, 7, 8, 9, 10, 11, 12, 13] rfl (by decide) rfl rfl rfl rfl rfl ⟨Nat.le_of_ble_eq_true rfl, Nat.le_of_ble_eq_true rfl, Nat.le_of_ble_eq_true rfl⟩ dX10_fickle_11 ⟨Nat.le_of_ble_eq_true rfl, Nat.le_of_ble_eq_true rfl⟩ (fun r_4 H locs hr_4 hP hS => ?_)
    refine lv_goto (tgt := 19) hx hb dX10_fickle_14 (by decide) ?_
    exact x_reti S hr hlk hQ hS () trivial x_T dX10_fickle_19

set_option maxHeartbeats 4000000 in
set_option maxRecDepth 100000 in
theorem ctX10_agree (l : Launch) (D : va_G) (k : Nat → ClassId) (z : Nat → Nat) (o : Nat → Nat) (clawNow : Int32) (charder : Int32) (ctold : Int32) (creply : Int32) (cwet : Int32) (f72 : Nat → Int32) (f69 : Nat → Int32) (f70 : Nat → Int32) (f71 : Nat → Int32) (glines : Int32) (ghours : Nat) (glaw : Int32) (godds : Int32) (grows : Nat) (gheads : Nat) (gsayings : Nat) (gslugs : Nat) (gacts : Nat) (f26 : Nat → Int32) (f29 : Nat → Int32) (f30 : Nat → Int32) (f31 : Nat → Int32) (f32 : Nat → Int32) (hghours : ghours ≤ 16) (hgrows : grows ≤ 4) (hgheads : gheads ≤ 12) (hgsayings : gsayings ≤ 8) (hgslugs : gslugs ≤ 4) (hgacts : gacts ≤ 30) : RO l yX10_agree cX10_agree 1 (some .int) 4 D k z [.ref (o 0)] [((o 0), .inr (10, [.ref (o 1), .ref (o 2), .ref (o 3), .ref (o 4), .ref (o 5), .ref (o 6), .ref (o 7), .ref (o 8), .ref (o 9), .ref (o 10), .ref (o 11), .ref (o 12), .ref (o 13), .ref (o 14)])), ((o 7), .inr (7, [.ref (o 3), .ref (o 4), .ref (o 5)])), ((o 5), .inr (1, [.ref (o 3), .ref (o 4), .int clawNow, .int charder, .int ctold, .int creply, .int cwet, .ref (o 72)])), ((o 72), .inl (k 0, 17, .inl f72)), ((o 4), .inr (3, [.ref (o 69), .ref (o 70), .ref (o 71)])), ((o 69), .inl (k 0, 17, .inl f69)), ((o 70), .inl (k 0, 17, .inl f70)), ((o 71), .inl (k 0, 17, .inl f71)), ((o 3), .inr (2, [.int glines, .int (nI ghours), .int glaw, .int godds, .int (nI grows), .int (nI gheads), .int (nI gsayings), .int (nI gslugs), .int (nI gacts), .ref (o 26), .ref (o 27), .ref (o 28), .ref (o 29), .ref (o 30), .ref (o 31), .ref (o 32), .ref (o 33), .ref (o 34), .ref (o 35)])), ((o 26), .inl (k 0, 12, .inl f26)), ((o 29), .inl (k 0, 12, .inl f29)), ((o 30), .inl (k 0, 12, .inl f30)), ((o 31), .inl (k 0, 12, .inl f31)), ((o 32), .inl (k 0, 4, .inl f32))] (Qi (fun r : Int32 => True)) := by
  refine RO.of (by decide) (Nat.le_of_ble_eq_true rfl) ?_
  intro p e s m below meth c ls A B args Q S hr hlk hQ hK hP hDW hZ hAB hBA hA hS hl
  have hx := S.1
  have hb := S.2.1
  have hl : lv_has ls 1 [(0, .ref (o 0))] := hl
  refine lv_aload_n hx hb dX10_agree_0 rfl (lv_at hl 0 rfl) ?_
  refine x_roVi (As := []) S hK hP hDW hZ hAB hBA hS hA hl mwX10_isGarden lkX10_196 (ctX10_isGarden l D k z o glines ghours glaw godds grows gheads gsayings gslugs gacts (by omega) (by omega) (by omega) (by omega) (by omega) (by omega)) [0, 8] rfl (by decide) rfl rfl rfl rfl rfl ⟨Nat.le_of_ble_eq_true rfl, Nat.le_of_ble_eq_true rfl, Nat.le_of_ble_eq_true rfl⟩ dX10_agree_1 ⟨Nat.le_of_ble_eq_true rfl, Nat.le_of_ble_eq_true rfl⟩ (fun r_1 H locs hr_1 hP hS => ?_)
  refine lv_if_eq (tgt := 17) hx hb dX10_agree_4 (by decide) (fun c_3 => ?_) (fun c_3 => ?_)
  · skip
    refine lv_bipush (v := (-2)) hx hb dX10_agree_17 (by decide) ?_
    exact x_reti S hr hlk hQ hS () trivial x_T dX10_agree_19
  · skip
    refine lv_aload_n hx hb dX10_agree_7 rfl (lv_at hl 0 rfl) ?_
    refine x_get S hK hP 0 rfl cfX10 6 lkX10_50 (by decide) rfl dX10_agree_8 ?_
    refine x_roVi (As := []) S hK hP hDW hZ hAB hBA hS hA hl mwX7_firstAccord lkX10_203 (ctX7_firstAccord l D k z o clawNow charder ctold creply cwet f72 f69 f70 f71 glines ghours glaw godds grows gheads gsayings gslugs gacts f26 f29 f30 f31 f32 (by omega) (by omega) (by omega) (by omega) (by omega) (by omega)) [1, 2, 3, 4, 5, 6, 7, 8, 9, 10, 11, 12, 13] rfl (by decide) rfl rfl rfl rfl rfl ⟨Nat.le_of_ble_eq_true rfl, Nat.le_of_ble_eq_true rfl, Nat.le_of_ble_eq_true rfl⟩ dX10_agree_11 ⟨Nat.le_of_ble_eq_true rfl, Nat.le_of_ble_eq_true rfl⟩ (fun r_4 H locs hr_4 hP hS => ?_)
    refine lv_goto (tgt := 19) hx hb dX10_agree_14 (by decide) ?_
    exact x_reti S hr hlk hQ hS () trivial x_T dX10_agree_19

set_option maxHeartbeats 4000000 in
set_option maxRecDepth 100000 in
theorem ctX10_still (l : Launch) (D : va_G) (k : Nat → ClassId) (z : Nat → Nat) (o : Nat → Nat) (clawNow : Int32) (charder : Int32) (ctold : Int32) (creply : Int32) (cwet : Int32) (f72 : Nat → Int32) (f69 : Nat → Int32) (f70 : Nat → Int32) (f71 : Nat → Int32) (glines : Int32) (ghours : Nat) (glaw : Int32) (godds : Int32) (grows : Nat) (gheads : Nat) (gsayings : Nat) (gslugs : Nat) (gacts : Nat) (f26 : Nat → Int32) (f29 : Nat → Int32) (f30 : Nat → Int32) (f31 : Nat → Int32) (f32 : Nat → Int32) (hghours : ghours ≤ 16) (hgrows : grows ≤ 4) (hgheads : gheads ≤ 12) (hgsayings : gsayings ≤ 8) (hgslugs : gslugs ≤ 4) (hgacts : gacts ≤ 30) : RO l yX10_still cX10_still 1 (some .int) 2 D k z [.ref (o 0)] [((o 0), .inr (10, [.ref (o 1), .ref (o 2), .ref (o 3), .ref (o 4), .ref (o 5), .ref (o 6), .ref (o 7), .ref (o 8), .ref (o 9), .ref (o 10), .ref (o 11), .ref (o 12), .ref (o 13), .ref (o 14)])), ((o 7), .inr (7, [.ref (o 3), .ref (o 4), .ref (o 5)])), ((o 5), .inr (1, [.ref (o 3), .ref (o 4), .int clawNow, .int charder, .int ctold, .int creply, .int cwet, .ref (o 72)])), ((o 72), .inl (k 0, 17, .inl f72)), ((o 4), .inr (3, [.ref (o 69), .ref (o 70), .ref (o 71)])), ((o 69), .inl (k 0, 17, .inl f69)), ((o 70), .inl (k 0, 17, .inl f70)), ((o 71), .inl (k 0, 17, .inl f71)), ((o 3), .inr (2, [.int glines, .int (nI ghours), .int glaw, .int godds, .int (nI grows), .int (nI gheads), .int (nI gsayings), .int (nI gslugs), .int (nI gacts), .ref (o 26), .ref (o 27), .ref (o 28), .ref (o 29), .ref (o 30), .ref (o 31), .ref (o 32), .ref (o 33), .ref (o 34), .ref (o 35)])), ((o 26), .inl (k 0, 12, .inl f26)), ((o 29), .inl (k 0, 12, .inl f29)), ((o 30), .inl (k 0, 12, .inl f30)), ((o 31), .inl (k 0, 12, .inl f31)), ((o 32), .inl (k 0, 4, .inl f32))] (Qi (fun r : Int32 => True)) := by
  refine RO.of (by decide) (Nat.le_of_ble_eq_true rfl) ?_
  intro p e s m below meth c ls A B args Q S hr hlk hQ hK hP hDW hZ hAB hBA hA hS hl
  have hx := S.1
  have hb := S.2.1
  have hl : lv_has ls 1 [(0, .ref (o 0))] := hl
  refine lv_aload_n hx hb dX10_still_0 rfl (lv_at hl 0 rfl) ?_
  refine x_roVi (As := []) S hK hP hDW hZ hAB hBA hS hA hl mwX10_isGarden lkX10_196 (ctX10_isGarden l D k z o glines ghours glaw godds grows gheads gsayings gslugs gacts (by omega) (by omega) (by omega) (by omega) (by omega) (by omega)) [0, 8] rfl (by decide) rfl rfl rfl rfl rfl ⟨Nat.le_of_ble_eq_true rfl, Nat.le_of_ble_eq_true rfl, Nat.le_of_ble_eq_true rfl⟩ dX10_still_1 ⟨Nat.le_of_ble_eq_true rfl, Nat.le_of_ble_eq_true rfl⟩ (fun r_1 H locs hr_1 hP hS => ?_)
  refine lv_if_eq (tgt := 17) hx hb dX10_still_4 (by decide) (fun c_3 => ?_) (fun c_3 => ?_)
  · skip
    refine lv_bipush (v := (-2)) hx hb dX10_still_17 (by decide) ?_
    exact x_reti S hr hlk hQ hS () trivial x_T dX10_still_19
  · skip
    refine lv_aload_n hx hb dX10_still_7 rfl (lv_at hl 0 rfl) ?_
    refine x_get S hK hP 0 rfl cfX10 6 lkX10_50 (by decide) rfl dX10_still_8 ?_
    refine x_roVi (As := []) S hK hP hDW hZ hAB hBA hS hA hl mwX7_stillFrom lkX10_206 (ctX7_stillFrom l D k z o clawNow charder ctold creply cwet f72 f69 f70 f71 glines ghours glaw godds grows gheads gsayings gslugs gacts f26 f29 f30 f31 f32 (by omega) (by omega) (by omega) (by omega) (by omega) (by omega)) [1, 2, 3, 4, 5, 6, 7, 8, 9, 10, 11, 12, 13] rfl (by decide) rfl rfl rfl rfl rfl ⟨Nat.le_of_ble_eq_true rfl, Nat.le_of_ble_eq_true rfl, Nat.le_of_ble_eq_true rfl⟩ dX10_still_11 ⟨Nat.le_of_ble_eq_true rfl, Nat.le_of_ble_eq_true rfl⟩ (fun r_4 H locs hr_4 hP hS => ?_)
    refine lv_goto (tgt := 19) hx hb dX10_still_14 (by decide) ?_
    exact x_reti S hr hlk hQ hS () trivial x_T dX10_still_19

set_option maxHeartbeats 4000000 in
set_option maxRecDepth 100000 in
theorem ctX10_quiet (l : Launch) (D : va_G) (k : Nat → ClassId) (z : Nat → Nat) (o : Nat → Nat) (clawNow : Int32) (charder : Int32) (ctold : Int32) (creply : Int32) (cwet : Int32) (f72 : Nat → Int32) (f69 : Nat → Int32) (f70 : Nat → Int32) (f71 : Nat → Int32) (glines : Int32) (ghours : Nat) (glaw : Int32) (godds : Int32) (grows : Nat) (gheads : Nat) (gsayings : Nat) (gslugs : Nat) (gacts : Nat) (f26 : Nat → Int32) (f29 : Nat → Int32) (f30 : Nat → Int32) (f31 : Nat → Int32) (f32 : Nat → Int32) (hghours : ghours ≤ 16) (hgrows : grows ≤ 4) (hgheads : gheads ≤ 12) (hgsayings : gsayings ≤ 8) (hgslugs : gslugs ≤ 4) (hgacts : gacts ≤ 30) : RO l yX10_quiet cX10_quiet 1 (some .int) 2 D k z [.ref (o 0)] [((o 0), .inr (10, [.ref (o 1), .ref (o 2), .ref (o 3), .ref (o 4), .ref (o 5), .ref (o 6), .ref (o 7), .ref (o 8), .ref (o 9), .ref (o 10), .ref (o 11), .ref (o 12), .ref (o 13), .ref (o 14)])), ((o 7), .inr (7, [.ref (o 3), .ref (o 4), .ref (o 5)])), ((o 5), .inr (1, [.ref (o 3), .ref (o 4), .int clawNow, .int charder, .int ctold, .int creply, .int cwet, .ref (o 72)])), ((o 72), .inl (k 0, 17, .inl f72)), ((o 4), .inr (3, [.ref (o 69), .ref (o 70), .ref (o 71)])), ((o 69), .inl (k 0, 17, .inl f69)), ((o 70), .inl (k 0, 17, .inl f70)), ((o 71), .inl (k 0, 17, .inl f71)), ((o 3), .inr (2, [.int glines, .int (nI ghours), .int glaw, .int godds, .int (nI grows), .int (nI gheads), .int (nI gsayings), .int (nI gslugs), .int (nI gacts), .ref (o 26), .ref (o 27), .ref (o 28), .ref (o 29), .ref (o 30), .ref (o 31), .ref (o 32), .ref (o 33), .ref (o 34), .ref (o 35)])), ((o 26), .inl (k 0, 12, .inl f26)), ((o 29), .inl (k 0, 12, .inl f29)), ((o 30), .inl (k 0, 12, .inl f30)), ((o 31), .inl (k 0, 12, .inl f31)), ((o 32), .inl (k 0, 4, .inl f32))] (Qi (fun r : Int32 => True)) := by
  refine RO.of (by decide) (Nat.le_of_ble_eq_true rfl) ?_
  intro p e s m below meth c ls A B args Q S hr hlk hQ hK hP hDW hZ hAB hBA hA hS hl
  have hx := S.1
  have hb := S.2.1
  have hl : lv_has ls 1 [(0, .ref (o 0))] := hl
  refine lv_aload_n hx hb dX10_quiet_0 rfl (lv_at hl 0 rfl) ?_
  refine x_roVi (As := []) S hK hP hDW hZ hAB hBA hS hA hl mwX10_isGarden lkX10_196 (ctX10_isGarden l D k z o glines ghours glaw godds grows gheads gsayings gslugs gacts (by omega) (by omega) (by omega) (by omega) (by omega) (by omega)) [0, 8] rfl (by decide) rfl rfl rfl rfl rfl ⟨Nat.le_of_ble_eq_true rfl, Nat.le_of_ble_eq_true rfl, Nat.le_of_ble_eq_true rfl⟩ dX10_quiet_1 ⟨Nat.le_of_ble_eq_true rfl, Nat.le_of_ble_eq_true rfl⟩ (fun r_1 H locs hr_1 hP hS => ?_)
  refine lv_if_eq (tgt := 17) hx hb dX10_quiet_4 (by decide) (fun c_3 => ?_) (fun c_3 => ?_)
  · skip
    refine lv_bipush (v := (-2)) hx hb dX10_quiet_17 (by decide) ?_
    exact x_reti S hr hlk hQ hS () trivial x_T dX10_quiet_19
  · skip
    refine lv_aload_n hx hb dX10_quiet_7 rfl (lv_at hl 0 rfl) ?_
    refine x_get S hK hP 0 rfl cfX10 6 lkX10_50 (by decide) rfl dX10_quiet_8 ?_
    refine x_roVi (As := []) S hK hP hDW hZ hAB hBA hS hA hl mwX7_longestQuiet lkX10_209 (ctX7_longestQuiet l D k z o clawNow charder ctold creply cwet f72 f69 f70 f71 glines ghours glaw godds grows gheads gsayings gslugs gacts f26 f29 f30 f31 f32 (by omega) (by omega) (by omega) (by omega) (by omega) (by omega)) [1, 2, 3, 4, 5, 6, 7, 8, 9, 10, 11, 12, 13] rfl (by decide) rfl rfl rfl rfl rfl ⟨Nat.le_of_ble_eq_true rfl, Nat.le_of_ble_eq_true rfl, Nat.le_of_ble_eq_true rfl⟩ dX10_quiet_11 ⟨Nat.le_of_ble_eq_true rfl, Nat.le_of_ble_eq_true rfl⟩ (fun r_4 H locs hr_4 hP hS => ?_)
    refine lv_goto (tgt := 19) hx hb dX10_quiet_14 (by decide) ?_
    exact x_reti S hr hlk hQ hS () trivial x_T dX10_quiet_19

set_option maxHeartbeats 4000000 in
set_option maxRecDepth 100000 in
theorem ctX10_settles (l : Launch) (D : va_G) (k : Nat → ClassId) (z : Nat → Nat) (o : Nat → Nat) (clawNow : Int32) (charder : Int32) (ctold : Int32) (creply : Int32) (cwet : Int32) (f72 : Nat → Int32) (f69 : Nat → Int32) (f70 : Nat → Int32) (f71 : Nat → Int32) (glines : Int32) (ghours : Nat) (glaw : Int32) (godds : Int32) (grows : Nat) (gheads : Nat) (gsayings : Nat) (gslugs : Nat) (gacts : Nat) (f26 : Nat → Int32) (f29 : Nat → Int32) (f30 : Nat → Int32) (f31 : Nat → Int32) (f32 : Nat → Int32) (hghours : ghours ≤ 16) (hgrows : grows ≤ 4) (hgheads : gheads ≤ 12) (hgsayings : gsayings ≤ 8) (hgslugs : gslugs ≤ 4) (hgacts : gacts ≤ 30) : RO l yX10_settles cX10_settles 2 (some .int) 5 D k z [.ref (o 0)] [((o 0), .inr (10, [.ref (o 1), .ref (o 2), .ref (o 3), .ref (o 4), .ref (o 5), .ref (o 6), .ref (o 7), .ref (o 8), .ref (o 9), .ref (o 10), .ref (o 11), .ref (o 12), .ref (o 13), .ref (o 14)])), ((o 7), .inr (7, [.ref (o 3), .ref (o 4), .ref (o 5)])), ((o 5), .inr (1, [.ref (o 3), .ref (o 4), .int clawNow, .int charder, .int ctold, .int creply, .int cwet, .ref (o 72)])), ((o 72), .inl (k 0, 17, .inl f72)), ((o 4), .inr (3, [.ref (o 69), .ref (o 70), .ref (o 71)])), ((o 69), .inl (k 0, 17, .inl f69)), ((o 70), .inl (k 0, 17, .inl f70)), ((o 71), .inl (k 0, 17, .inl f71)), ((o 3), .inr (2, [.int glines, .int (nI ghours), .int glaw, .int godds, .int (nI grows), .int (nI gheads), .int (nI gsayings), .int (nI gslugs), .int (nI gacts), .ref (o 26), .ref (o 27), .ref (o 28), .ref (o 29), .ref (o 30), .ref (o 31), .ref (o 32), .ref (o 33), .ref (o 34), .ref (o 35)])), ((o 26), .inl (k 0, 12, .inl f26)), ((o 29), .inl (k 0, 12, .inl f29)), ((o 30), .inl (k 0, 12, .inl f30)), ((o 31), .inl (k 0, 12, .inl f31)), ((o 32), .inl (k 0, 4, .inl f32))] (Qi (fun r : Int32 => True)) := by
  refine RO.of (by decide) (Nat.le_of_ble_eq_true rfl) ?_
  intro p e s m below meth c ls A B args Q S hr hlk hQ hK hP hDW hZ hAB hBA hA hS hl
  have hx := S.1
  have hb := S.2.1
  have hl : lv_has ls 2 [(0, .ref (o 0))] := hl
  refine lv_aload_n hx hb dX10_settles_0 rfl (lv_at hl 0 rfl) ?_
  refine x_roVi (As := []) S hK hP hDW hZ hAB hBA hS hA hl mwX10_isGarden lkX10_196 (ctX10_isGarden l D k z o glines ghours glaw godds grows gheads gsayings gslugs gacts (by omega) (by omega) (by omega) (by omega) (by omega) (by omega)) [0, 8] rfl (by decide) rfl rfl rfl rfl rfl ⟨Nat.le_of_ble_eq_true rfl, Nat.le_of_ble_eq_true rfl, Nat.le_of_ble_eq_true rfl⟩ dX10_settles_1 ⟨Nat.le_of_ble_eq_true rfl, Nat.le_of_ble_eq_true rfl⟩ (fun r_1 H locs hr_1 hP hS => ?_)
  refine lv_if_ne (tgt := 10) hx hb dX10_settles_4 (by decide) (fun c_3 => ?_) (fun c_3 => ?_)
  · skip
    refine lv_aload_n hx hb dX10_settles_10 rfl (lv_at hl 0 rfl) ?_
    refine x_get S hK hP 0 rfl cfX10 6 lkX10_50 (by decide) rfl dX10_settles_11 ?_
    refine x_roVi (As := []) S hK hP hDW hZ hAB hBA hS hA hl mwX7_circleLength lkX10_212 (ctX7_circleLength l D k z o clawNow charder ctold creply cwet f72 f69 f70 f71 glines ghours glaw godds grows gheads gsayings gslugs gacts f26 f29 f30 f31 f32 (by omega) (by omega) (by omega) (by omega) (by omega) (by omega)) [1, 2, 3, 4, 5, 6, 7, 8, 9, 10, 11, 12, 13] rfl (by decide) rfl rfl rfl rfl rfl ⟨Nat.le_of_ble_eq_true rfl, Nat.le_of_ble_eq_true rfl, Nat.le_of_ble_eq_true rfl⟩ dX10_settles_14 ⟨Nat.le_of_ble_eq_true rfl, Nat.le_of_ble_eq_true rfl⟩ (fun r_4 H locs hr_4 hP hS => ?_)
    obtain ⟨n_6, rfl, hn_6⟩ := hr_4
    refine lv_istore_n (lv' := [(1, .int (nI n_6)), (0, .ref (o 0))]) hx hb dX10_settles_17 rfl hl (by decide) rfl (fun ls hl => ?_)
    refine lv_aload_n hx hb dX10_settles_18 rfl (lv_at hl 1 rfl) ?_
    refine x_get S hK hP 0 rfl cfX10 6 lkX10_50 (by decide) rfl dX10_settles_19 ?_
    refine lv_iload_n hx hb dX10_settles_22 rfl (lv_at hl 0 rfl) ?_
    refine x_roVi (As := [.int (nI n_6)]) S hK hP hDW hZ hAB hBA hS hA hl mwX7_circleEntry lkX10_215 (ctX7_circleEntry l D k z o clawNow charder ctold creply cwet f72 f69 f70 f71 glines ghours glaw godds grows gheads gsayings gslugs gacts f26 f29 f30 f31 f32 n_6 (by omega) (by omega) (by omega) (by omega) (by omega) (by omega) (by omega)) [1, 2, 3, 4, 5, 6, 7, 8, 9, 10, 11, 12, 13] rfl (by decide) rfl rfl rfl rfl rfl ⟨Nat.le_of_ble_eq_true rfl, Nat.le_of_ble_eq_true rfl, Nat.le_of_ble_eq_true rfl⟩ dX10_settles_23 ⟨Nat.le_of_ble_eq_true rfl, Nat.le_of_ble_eq_true rfl⟩ (fun r_7 H locs hr_7 hP hS => ?_)
    refine lv_iload_n hx hb dX10_settles_26 rfl (lv_at hl 0 rfl) ?_
    refine lv_iadd hx hb dX10_settles_27 ?_
    refine lv_topi (fun v_9 ev_9 => ?_)
    exact x_reti S hr hlk hQ hS () trivial x_T dX10_settles_28
  · skip
    refine lv_bipush (v := (-2)) hx hb dX10_settles_7 (by decide) ?_
    exact x_reti S hr hlk hQ hS () trivial x_T dX10_settles_9

set_option maxHeartbeats 4000000 in
set_option maxRecDepth 100000 in
theorem ctX10_round (l : Launch) (D : va_G) (k : Nat → ClassId) (z : Nat → Nat) (o : Nat → Nat) (clawNow : Int32) (charder : Int32) (ctold : Int32) (creply : Int32) (cwet : Int32) (f72 : Nat → Int32) (f69 : Nat → Int32) (f70 : Nat → Int32) (f71 : Nat → Int32) (glines : Int32) (ghours : Nat) (glaw : Int32) (godds : Int32) (grows : Nat) (gheads : Nat) (gsayings : Nat) (gslugs : Nat) (gacts : Nat) (f26 : Nat → Int32) (f29 : Nat → Int32) (f30 : Nat → Int32) (f31 : Nat → Int32) (f32 : Nat → Int32) (hghours : ghours ≤ 16) (hgrows : grows ≤ 4) (hgheads : gheads ≤ 12) (hgsayings : gsayings ≤ 8) (hgslugs : gslugs ≤ 4) (hgacts : gacts ≤ 30) : RO l yX10_round cX10_round 1 (some .int) 5 D k z [.ref (o 0)] [((o 0), .inr (10, [.ref (o 1), .ref (o 2), .ref (o 3), .ref (o 4), .ref (o 5), .ref (o 6), .ref (o 7), .ref (o 8), .ref (o 9), .ref (o 10), .ref (o 11), .ref (o 12), .ref (o 13), .ref (o 14)])), ((o 7), .inr (7, [.ref (o 3), .ref (o 4), .ref (o 5)])), ((o 5), .inr (1, [.ref (o 3), .ref (o 4), .int clawNow, .int charder, .int ctold, .int creply, .int cwet, .ref (o 72)])), ((o 72), .inl (k 0, 17, .inl f72)), ((o 4), .inr (3, [.ref (o 69), .ref (o 70), .ref (o 71)])), ((o 69), .inl (k 0, 17, .inl f69)), ((o 70), .inl (k 0, 17, .inl f70)), ((o 71), .inl (k 0, 17, .inl f71)), ((o 3), .inr (2, [.int glines, .int (nI ghours), .int glaw, .int godds, .int (nI grows), .int (nI gheads), .int (nI gsayings), .int (nI gslugs), .int (nI gacts), .ref (o 26), .ref (o 27), .ref (o 28), .ref (o 29), .ref (o 30), .ref (o 31), .ref (o 32), .ref (o 33), .ref (o 34), .ref (o 35)])), ((o 26), .inl (k 0, 12, .inl f26)), ((o 29), .inl (k 0, 12, .inl f29)), ((o 30), .inl (k 0, 12, .inl f30)), ((o 31), .inl (k 0, 12, .inl f31)), ((o 32), .inl (k 0, 4, .inl f32))] (Qi (fun r : Int32 => True)) := by
  refine RO.of (by decide) (Nat.le_of_ble_eq_true rfl) ?_
  intro p e s m below meth c ls A B args Q S hr hlk hQ hK hP hDW hZ hAB hBA hA hS hl
  have hx := S.1
  have hb := S.2.1
  have hl : lv_has ls 1 [(0, .ref (o 0))] := hl
  refine lv_aload_n hx hb dX10_round_0 rfl (lv_at hl 0 rfl) ?_
  refine x_roVi (As := []) S hK hP hDW hZ hAB hBA hS hA hl mwX10_isGarden lkX10_196 (ctX10_isGarden l D k z o glines ghours glaw godds grows gheads gsayings gslugs gacts (by omega) (by omega) (by omega) (by omega) (by omega) (by omega)) [0, 8] rfl (by decide) rfl rfl rfl rfl rfl ⟨Nat.le_of_ble_eq_true rfl, Nat.le_of_ble_eq_true rfl, Nat.le_of_ble_eq_true rfl⟩ dX10_round_1 ⟨Nat.le_of_ble_eq_true rfl, Nat.le_of_ble_eq_true rfl⟩ (fun r_1 H locs hr_1 hP hS => ?_)
  refine lv_if_eq (tgt := 17) hx hb dX10_round_4 (by decide) (fun c_3 => ?_) (fun c_3 => ?_)
  · skip
    refine lv_bipush (v := (-2)) hx hb dX10_round_17 (by decide) ?_
    exact x_reti S hr hlk hQ hS () trivial x_T dX10_round_19
  · skip
    refine lv_aload_n hx hb dX10_round_7 rfl (lv_at hl 0 rfl) ?_
    refine x_get S hK hP 0 rfl cfX10 6 lkX10_50 (by decide) rfl dX10_round_8 ?_
    refine x_roVi (As := []) S hK hP hDW hZ hAB hBA hS hA hl mwX7_circleLength lkX10_212 (ctX7_circleLength l D k z o clawNow charder ctold creply cwet f72 f69 f70 f71 glines ghours glaw godds grows gheads gsayings gslugs gacts f26 f29 f30 f31 f32 (by omega) (by omega) (by omega) (by omega) (by omega) (by omega)) [1, 2, 3, 4, 5, 6, 7, 8, 9, 10, 11, 12, 13] rfl (by decide) rfl rfl rfl rfl rfl ⟨Nat.le_of_ble_eq_true rfl, Nat.le_of_ble_eq_true rfl, Nat.le_of_ble_eq_true rfl⟩ dX10_round_11 ⟨Nat.le_of_ble_eq_true rfl, Nat.le_of_ble_eq_true rfl⟩ (fun r_4 H locs hr_4 hP hS => ?_)
    obtain ⟨n_6, rfl, hn_6⟩ := hr_4
    refine lv_goto (tgt := 19) hx hb dX10_round_14 (by decide) ?_
    exact x_reti S hr hlk hQ hS () trivial x_T dX10_round_19

set_option maxHeartbeats 4000000 in
set_option maxRecDepth 100000 in
theorem ctX10_mind (l : Launch) (D : va_G) (k : Nat → ClassId) (z : Nat → Nat) (o : Nat → Nat) (clawNow : Int32) (charder : Int32) (ctold : Int32) (creply : Int32) (cwet : Int32) (f72 : Nat → Int32) (f69 : Nat → Int32) (f70 : Nat → Int32) (f71 : Nat → Int32) (glines : Int32) (ghours : Nat) (glaw : Int32) (godds : Int32) (grows : Nat) (gheads : Nat) (gsayings : Nat) (gslugs : Nat) (gacts : Nat) (f26 : Nat → Int32) (f29 : Nat → Int32) (f30 : Nat → Int32) (f31 : Nat → Int32) (f32 : Nat → Int32) (p0 : Int32) (p1 : Int32) (hghours : ghours ≤ 16) (hgrows : grows ≤ 4) (hgheads : gheads ≤ 12) (hgsayings : gsayings ≤ 8) (hgslugs : gslugs ≤ 4) (hgacts : gacts ≤ 30) : RO l yX10_mind cX10_mind 3 (some .int) 4 D k z [.ref (o 0), .int p0, .int p1] [((o 0), .inr (10, [.ref (o 1), .ref (o 2), .ref (o 3), .ref (o 4), .ref (o 5), .ref (o 6), .ref (o 7), .ref (o 8), .ref (o 9), .ref (o 10), .ref (o 11), .ref (o 12), .ref (o 13), .ref (o 14)])), ((o 7), .inr (7, [.ref (o 3), .ref (o 4), .ref (o 5)])), ((o 5), .inr (1, [.ref (o 3), .ref (o 4), .int clawNow, .int charder, .int ctold, .int creply, .int cwet, .ref (o 72)])), ((o 72), .inl (k 0, 17, .inl f72)), ((o 4), .inr (3, [.ref (o 69), .ref (o 70), .ref (o 71)])), ((o 69), .inl (k 0, 17, .inl f69)), ((o 70), .inl (k 0, 17, .inl f70)), ((o 71), .inl (k 0, 17, .inl f71)), ((o 3), .inr (2, [.int glines, .int (nI ghours), .int glaw, .int godds, .int (nI grows), .int (nI gheads), .int (nI gsayings), .int (nI gslugs), .int (nI gacts), .ref (o 26), .ref (o 27), .ref (o 28), .ref (o 29), .ref (o 30), .ref (o 31), .ref (o 32), .ref (o 33), .ref (o 34), .ref (o 35)])), ((o 26), .inl (k 0, 12, .inl f26)), ((o 29), .inl (k 0, 12, .inl f29)), ((o 30), .inl (k 0, 12, .inl f30)), ((o 31), .inl (k 0, 12, .inl f31)), ((o 32), .inl (k 0, 4, .inl f32))] (Qi (fun r : Int32 => True)) := by
  refine RO.of (by decide) (Nat.le_of_ble_eq_true rfl) ?_
  intro p e s m below meth c ls A B args Q S hr hlk hQ hK hP hDW hZ hAB hBA hA hS hl
  have hx := S.1
  have hb := S.2.1
  have hl : lv_has ls 3 [(0, .ref (o 0)), (1, .int p0), (2, .int p1)] := hl
  refine lv_aload_n hx hb dX10_mind_0 rfl (lv_at hl 0 rfl) ?_
  refine lv_iload_n hx hb dX10_mind_1 rfl (lv_at hl 1 rfl) ?_
  refine x_roVi (As := [.int p0]) S hK hP hDW hZ hAB hBA hS hA hl mwX10_isRow lkX10_155 (ctX10_isRow l D k z o glines ghours glaw godds grows gheads gsayings gslugs gacts p0 (by omega) (by omega) (by omega) (by omega) (by omega) (by omega)) [0, 8] rfl (by decide) rfl rfl rfl rfl rfl ⟨Nat.le_of_ble_eq_true rfl, Nat.le_of_ble_eq_true rfl, Nat.le_of_ble_eq_true rfl⟩ dX10_mind_2 ⟨Nat.le_of_ble_eq_true rfl, Nat.le_of_ble_eq_true rfl⟩ (fun r_1 H locs hr_1 hP hS => ?_)
  have hp_3 := hr_1
  refine lv_if_eq (tgt := 28) hx hb dX10_mind_5 (by decide) (fun c_4 => ?_) (fun c_4 => ?_)
  · skip
    refine lv_bipush (v := (-2)) hx hb dX10_mind_28 (by decide) ?_
    exact x_reti S hr hlk hQ hS () trivial x_T dX10_mind_30
  · skip
    obtain ⟨n_5, rfl, hn_5⟩ := hp_3.resolve_left c_4
    refine lv_aload_n hx hb dX10_mind_8 rfl (lv_at hl 0 rfl) ?_
    refine lv_iload_n hx hb dX10_mind_9 rfl (lv_at hl 2 rfl) ?_
    refine x_roVi (As := [.int p1]) S hK hP hDW hZ hAB hBA hS hA hl mwX10_isHour lkX10_161 (ctX10_isHour l D k z o glines ghours glaw godds grows gheads gsayings gslugs gacts p1 (by omega) (by omega) (by omega) (by omega) (by omega) (by omega)) [0, 8] rfl (by decide) rfl rfl rfl rfl rfl ⟨Nat.le_of_ble_eq_true rfl, Nat.le_of_ble_eq_true rfl, Nat.le_of_ble_eq_true rfl⟩ dX10_mind_10 ⟨Nat.le_of_ble_eq_true rfl, Nat.le_of_ble_eq_true rfl⟩ (fun r_6 H locs hr_6 hP hS => ?_)
    have hp_8 := hr_6
    refine lv_if_eq (tgt := 28) hx hb dX10_mind_13 (by decide) (fun c_9 => ?_) (fun c_9 => ?_)
    · skip
      refine lv_bipush (v := (-2)) hx hb dX10_mind_28 (by decide) ?_
      exact x_reti S hr hlk hQ hS () trivial x_T dX10_mind_30
    · skip
      obtain ⟨n_10, rfl, hn_10⟩ := hp_8.resolve_left c_9
      refine lv_aload_n hx hb dX10_mind_16 rfl (lv_at hl 0 rfl) ?_
      refine x_get S hK hP 0 rfl cfX10 6 lkX10_50 (by decide) rfl dX10_mind_17 ?_
      refine lv_iload_n hx hb dX10_mind_20 rfl (lv_at hl 1 rfl) ?_
      refine lv_iload_n hx hb dX10_mind_21 rfl (lv_at hl 2 rfl) ?_
      refine x_roVi (As := [.int (nI n_5), .int (nI n_10)]) S hK hP hDW hZ hAB hBA hS hA hl mwX7_mindOf lkX10_218 (ctX7_mindOf l D k z o clawNow charder ctold creply cwet f72 f69 f70 f71 glines ghours glaw godds grows gheads gsayings gslugs gacts f26 f29 f30 f31 f32 n_5 n_10 (by omega) (by omega) (by omega) (by omega) (by omega) (by omega) (by omega) (by omega)) [1, 2, 3, 4, 5, 6, 7, 8, 9, 10, 11, 12, 13] rfl (by decide) rfl rfl rfl rfl rfl ⟨Nat.le_of_ble_eq_true rfl, Nat.le_of_ble_eq_true rfl, Nat.le_of_ble_eq_true rfl⟩ dX10_mind_22 ⟨Nat.le_of_ble_eq_true rfl, Nat.le_of_ble_eq_true rfl⟩ (fun r_11 H locs hr_11 hP hS => ?_)
      refine lv_goto (tgt := 30) hx hb dX10_mind_25 (by decide) ?_
      exact x_reti S hr hlk hQ hS () trivial x_T dX10_mind_30

set_option maxHeartbeats 4000000 in
set_option maxRecDepth 100000 in
theorem ctX10_rows (l : Launch) (D : va_G) (k : Nat → ClassId) (z : Nat → Nat) (o : Nat → Nat) (clawNow : Int32) (charder : Int32) (ctold : Int32) (creply : Int32) (cwet : Int32) (f72 : Nat → Int32) (f69 : Nat → Int32) (f70 : Nat → Int32) (f71 : Nat → Int32) (glines : Int32) (ghours : Nat) (glaw : Int32) (godds : Int32) (grows : Nat) (gheads : Nat) (gsayings : Nat) (gslugs : Nat) (gacts : Nat) (f26 : Nat → Int32) (f29 : Nat → Int32) (f30 : Nat → Int32) (f31 : Nat → Int32) (f32 : Nat → Int32) (p0 : Int32) (p1 : Int32) (hghours : ghours ≤ 16) (hgrows : grows ≤ 4) (hgheads : gheads ≤ 12) (hgsayings : gsayings ≤ 8) (hgslugs : gslugs ≤ 4) (hgacts : gacts ≤ 30) : RO l yX10_rows cX10_rows 3 (some .int) 5 D k z [.ref (o 0), .int p0, .int p1] [((o 0), .inr (10, [.ref (o 1), .ref (o 2), .ref (o 3), .ref (o 4), .ref (o 5), .ref (o 6), .ref (o 7), .ref (o 8), .ref (o 9), .ref (o 10), .ref (o 11), .ref (o 12), .ref (o 13), .ref (o 14)])), ((o 7), .inr (7, [.ref (o 3), .ref (o 4), .ref (o 5)])), ((o 5), .inr (1, [.ref (o 3), .ref (o 4), .int clawNow, .int charder, .int ctold, .int creply, .int cwet, .ref (o 72)])), ((o 72), .inl (k 0, 17, .inl f72)), ((o 4), .inr (3, [.ref (o 69), .ref (o 70), .ref (o 71)])), ((o 69), .inl (k 0, 17, .inl f69)), ((o 70), .inl (k 0, 17, .inl f70)), ((o 71), .inl (k 0, 17, .inl f71)), ((o 3), .inr (2, [.int glines, .int (nI ghours), .int glaw, .int godds, .int (nI grows), .int (nI gheads), .int (nI gsayings), .int (nI gslugs), .int (nI gacts), .ref (o 26), .ref (o 27), .ref (o 28), .ref (o 29), .ref (o 30), .ref (o 31), .ref (o 32), .ref (o 33), .ref (o 34), .ref (o 35)])), ((o 26), .inl (k 0, 12, .inl f26)), ((o 29), .inl (k 0, 12, .inl f29)), ((o 30), .inl (k 0, 12, .inl f30)), ((o 31), .inl (k 0, 12, .inl f31)), ((o 32), .inl (k 0, 4, .inl f32))] (Qi (fun r : Int32 => True)) := by
  refine RO.of (by decide) (Nat.le_of_ble_eq_true rfl) ?_
  intro p e s m below meth c ls A B args Q S hr hlk hQ hK hP hDW hZ hAB hBA hA hS hl
  have hx := S.1
  have hb := S.2.1
  have hl : lv_has ls 3 [(0, .ref (o 0)), (1, .int p0), (2, .int p1)] := hl
  refine lv_iload_n hx hb dX10_rows_0 rfl (lv_at hl 1 rfl) ?_
  refine x_roSi (As := [.int p0]) S hK hP hDW hZ hAB hBA hS hA hl mwX10_isView lkX10_184 (ctX10_isView l D k z p0 ) [] rfl (by decide) rfl rfl ⟨Nat.le_of_ble_eq_true rfl, Nat.le_of_ble_eq_true rfl, Nat.le_of_ble_eq_true rfl⟩ dX10_rows_1 ⟨Nat.le_of_ble_eq_true rfl, Nat.le_of_ble_eq_true rfl⟩ (fun r_1 H locs hr_1 hP hS => ?_)
  have hp_3 := hr_1
  refine lv_if_eq (tgt := 27) hx hb dX10_rows_4 (by decide) (fun c_4 => ?_) (fun c_4 => ?_)
  · skip
    refine lv_bipush (v := (-2)) hx hb dX10_rows_27 (by decide) ?_
    exact x_reti S hr hlk hQ hS () trivial x_T dX10_rows_29
  · skip
    obtain ⟨n_5, rfl, hn_5⟩ := hp_3.resolve_left c_4
    refine lv_aload_n hx hb dX10_rows_7 rfl (lv_at hl 0 rfl) ?_
    refine lv_iload_n hx hb dX10_rows_8 rfl (lv_at hl 2 rfl) ?_
    refine x_roVi (As := [.int p1]) S hK hP hDW hZ hAB hBA hS hA hl mwX10_isHour lkX10_161 (ctX10_isHour l D k z o glines ghours glaw godds grows gheads gsayings gslugs gacts p1 (by omega) (by omega) (by omega) (by omega) (by omega) (by omega)) [0, 8] rfl (by decide) rfl rfl rfl rfl rfl ⟨Nat.le_of_ble_eq_true rfl, Nat.le_of_ble_eq_true rfl, Nat.le_of_ble_eq_true rfl⟩ dX10_rows_9 ⟨Nat.le_of_ble_eq_true rfl, Nat.le_of_ble_eq_true rfl⟩ (fun r_6 H locs hr_6 hP hS => ?_)
    have hp_8 := hr_6
    refine lv_if_eq (tgt := 27) hx hb dX10_rows_12 (by decide) (fun c_9 => ?_) (fun c_9 => ?_)
    · skip
      refine lv_bipush (v := (-2)) hx hb dX10_rows_27 (by decide) ?_
      exact x_reti S hr hlk hQ hS () trivial x_T dX10_rows_29
    · skip
      obtain ⟨n_10, rfl, hn_10⟩ := hp_8.resolve_left c_9
      refine lv_aload_n hx hb dX10_rows_15 rfl (lv_at hl 0 rfl) ?_
      refine x_get S hK hP 0 rfl cfX10 6 lkX10_50 (by decide) rfl dX10_rows_16 ?_
      refine lv_iload_n hx hb dX10_rows_19 rfl (lv_at hl 1 rfl) ?_
      refine lv_iload_n hx hb dX10_rows_20 rfl (lv_at hl 2 rfl) ?_
      refine x_roVi (As := [.int (nI n_5), .int (nI n_10)]) S hK hP hDW hZ hAB hBA hS hA hl mwX7_rowsOfMind lkX10_221 (ctX7_rowsOfMind l D k z o clawNow charder ctold creply cwet f72 f69 f70 f71 glines ghours glaw godds grows gheads gsayings gslugs gacts f26 f29 f30 f31 f32 (nI n_5) n_10 (by omega) (by omega) (by omega) (by omega) (by omega) (by omega) (by omega)) [1, 2, 3, 4, 5, 6, 7, 8, 9, 10, 11, 12, 13] rfl (by decide) rfl rfl rfl rfl rfl ⟨Nat.le_of_ble_eq_true rfl, Nat.le_of_ble_eq_true rfl, Nat.le_of_ble_eq_true rfl⟩ dX10_rows_21 ⟨Nat.le_of_ble_eq_true rfl, Nat.le_of_ble_eq_true rfl⟩ (fun r_11 H locs hr_11 hP hS => ?_)
      refine lv_goto (tgt := 29) hx hb dX10_rows_24 (by decide) ?_
      exact x_reti S hr hlk hQ hS () trivial x_T dX10_rows_29

set_option maxHeartbeats 4000000 in
set_option maxRecDepth 100000 in
theorem ctX10_split (l : Launch) (D : va_G) (k : Nat → ClassId) (z : Nat → Nat) (o : Nat → Nat) (clawNow : Int32) (charder : Int32) (ctold : Int32) (creply : Int32) (cwet : Int32) (f72 : Nat → Int32) (f69 : Nat → Int32) (f70 : Nat → Int32) (f71 : Nat → Int32) (glines : Int32) (ghours : Nat) (glaw : Int32) (godds : Int32) (grows : Nat) (gheads : Nat) (gsayings : Nat) (gslugs : Nat) (gacts : Nat) (f26 : Nat → Int32) (f29 : Nat → Int32) (f30 : Nat → Int32) (f31 : Nat → Int32) (f32 : Nat → Int32) (p0 : Int32) (hghours : ghours ≤ 16) (hgrows : grows ≤ 4) (hgheads : gheads ≤ 12) (hgsayings : gsayings ≤ 8) (hgslugs : gslugs ≤ 4) (hgacts : gacts ≤ 30) : RO l yX10_split cX10_split 2 (some .int) 3 D k z [.ref (o 0), .int p0] [((o 0), .inr (10, [.ref (o 1), .ref (o 2), .ref (o 3), .ref (o 4), .ref (o 5), .ref (o 6), .ref (o 7), .ref (o 8), .ref (o 9), .ref (o 10), .ref (o 11), .ref (o 12), .ref (o 13), .ref (o 14)])), ((o 7), .inr (7, [.ref (o 3), .ref (o 4), .ref (o 5)])), ((o 5), .inr (1, [.ref (o 3), .ref (o 4), .int clawNow, .int charder, .int ctold, .int creply, .int cwet, .ref (o 72)])), ((o 72), .inl (k 0, 17, .inl f72)), ((o 4), .inr (3, [.ref (o 69), .ref (o 70), .ref (o 71)])), ((o 69), .inl (k 0, 17, .inl f69)), ((o 70), .inl (k 0, 17, .inl f70)), ((o 71), .inl (k 0, 17, .inl f71)), ((o 3), .inr (2, [.int glines, .int (nI ghours), .int glaw, .int godds, .int (nI grows), .int (nI gheads), .int (nI gsayings), .int (nI gslugs), .int (nI gacts), .ref (o 26), .ref (o 27), .ref (o 28), .ref (o 29), .ref (o 30), .ref (o 31), .ref (o 32), .ref (o 33), .ref (o 34), .ref (o 35)])), ((o 26), .inl (k 0, 12, .inl f26)), ((o 29), .inl (k 0, 12, .inl f29)), ((o 30), .inl (k 0, 12, .inl f30)), ((o 31), .inl (k 0, 12, .inl f31)), ((o 32), .inl (k 0, 4, .inl f32))] (Qi (fun r : Int32 => True)) := by
  refine RO.of (by decide) (Nat.le_of_ble_eq_true rfl) ?_
  intro p e s m below meth c ls A B args Q S hr hlk hQ hK hP hDW hZ hAB hBA hA hS hl
  have hx := S.1
  have hb := S.2.1
  have hl : lv_has ls 2 [(0, .ref (o 0)), (1, .int p0)] := hl
  refine lv_aload_n hx hb dX10_split_0 rfl (lv_at hl 0 rfl) ?_
  refine lv_iload_n hx hb dX10_split_1 rfl (lv_at hl 1 rfl) ?_
  refine x_roVi (As := [.int p0]) S hK hP hDW hZ hAB hBA hS hA hl mwX10_isHour lkX10_161 (ctX10_isHour l D k z o glines ghours glaw godds grows gheads gsayings gslugs gacts p0 (by omega) (by omega) (by omega) (by omega) (by omega) (by omega)) [0, 8] rfl (by decide) rfl rfl rfl rfl rfl ⟨Nat.le_of_ble_eq_true rfl, Nat.le_of_ble_eq_true rfl, Nat.le_of_ble_eq_true rfl⟩ dX10_split_2 ⟨Nat.le_of_ble_eq_true rfl, Nat.le_of_ble_eq_true rfl⟩ (fun r_1 H locs hr_1 hP hS => ?_)
  have hp_3 := hr_1
  refine lv_if_eq (tgt := 29) hx hb dX10_split_5 (by decide) (fun c_4 => ?_) (fun c_4 => ?_)
  · skip
    refine lv_bipush (v := (-2)) hx hb dX10_split_29 (by decide) ?_
    exact x_reti S hr hlk hQ hS () trivial x_T dX10_split_31
  · skip
    obtain ⟨n_5, rfl, hn_5⟩ := hp_3.resolve_left c_4
    refine lv_aload_n hx hb dX10_split_8 rfl (lv_at hl 0 rfl) ?_
    refine x_get S hK hP 0 rfl cfX10 6 lkX10_50 (by decide) rfl dX10_split_9 ?_
    refine lv_aload_n hx hb dX10_split_12 rfl (lv_at hl 0 rfl) ?_
    refine x_get S hK hP 0 rfl cfX10 2 lkX10_23 (by decide) rfl dX10_split_13 ?_
    refine x_roVi (As := []) S hK hP hDW hZ hAB hBA hS hA hl mwX2_everyone lkX10_224 (ctX2_everyone l D k z o glines ghours glaw godds grows gheads gsayings gslugs gacts (by omega) (by omega) (by omega) (by omega) (by omega) (by omega)) [8] rfl (by decide) rfl rfl rfl rfl rfl ⟨Nat.le_of_ble_eq_true rfl, Nat.le_of_ble_eq_true rfl, Nat.le_of_ble_eq_true rfl⟩ dX10_split_16 ⟨Nat.le_of_ble_eq_true rfl, Nat.le_of_ble_eq_true rfl⟩ (fun r_6 H locs hr_6 hP hS => ?_)
    obtain rfl := hr_6
    refine lv_iload_n hx hb dX10_split_19 rfl (lv_at hl 1 rfl) ?_
    refine x_roVi (As := [.int (nI (2 ^ gheads - 1)), .int (nI n_5)]) S hK hP hDW hZ hAB hBA hS hA hl mwX7_leadOfOne lkX10_227 (ctX7_leadOfOne l D k z o clawNow charder ctold creply cwet f72 f69 f70 f71 glines ghours glaw godds grows gheads gsayings gslugs gacts f26 f29 f30 f31 f32 (nI (2 ^ gheads - 1)) n_5 (by omega) (by omega) (by omega) (by omega) (by omega) (by omega) (by omega)) [1, 2, 3, 4, 5, 6, 7, 8, 9, 10, 11, 12, 13] rfl (by decide) rfl rfl rfl rfl rfl ⟨Nat.le_of_ble_eq_true rfl, Nat.le_of_ble_eq_true rfl, Nat.le_of_ble_eq_true rfl⟩ dX10_split_20 ⟨Nat.le_of_ble_eq_true rfl, Nat.le_of_ble_eq_true rfl⟩ (fun r_8 H locs hr_8 hP hS => ?_)
    refine x_mabs S hl lkX10_230 (Nat.le_of_ble_eq_true rfl) (Nat.le_of_ble_eq_true rfl) ⟨Nat.le_of_ble_eq_true rfl, Nat.le_of_ble_eq_true rfl⟩ dX10_split_23 (fun v_10 ev_10 => ?_)
    refine lv_goto (tgt := 31) hx hb dX10_split_26 (by decide) ?_
    exact x_reti S hr hlk hQ hS () trivial x_T dX10_split_31

set_option maxHeartbeats 4000000 in
set_option maxRecDepth 100000 in
theorem ctX10_main (l : Launch) (D : va_G) (k : Nat → ClassId) (z : Nat → Nat) (o : Nat → Nat) (clawNow : Int32) (charder : Int32) (ctold : Int32) (creply : Int32) (cwet : Int32) (f72 : Nat → Int32) (f69 : Nat → Int32) (f70 : Nat → Int32) (f71 : Nat → Int32) (glines : Int32) (ghours : Nat) (glaw : Int32) (godds : Int32) (grows : Nat) (gheads : Nat) (gsayings : Nat) (gslugs : Nat) (gacts : Nat) (f26 : Nat → Int32) (f29 : Nat → Int32) (f30 : Nat → Int32) (f31 : Nat → Int32) (f32 : Nat → Int32) (p0 : Int32) (hghours : ghours ≤ 16) (hgrows : grows ≤ 4) (hgheads : gheads ≤ 12) (hgsayings : gsayings ≤ 8) (hgslugs : gslugs ≤ 4) (hgacts : gacts ≤ 30) : RO l yX10_main cX10_main 2 (some .int) 3 D k z [.ref (o 0), .int p0] [((o 0), .inr (10, [.ref (o 1), .ref (o 2), .ref (o 3), .ref (o 4), .ref (o 5), .ref (o 6), .ref (o 7), .ref (o 8), .ref (o 9), .ref (o 10), .ref (o 11), .ref (o 12), .ref (o 13), .ref (o 14)])), ((o 7), .inr (7, [.ref (o 3), .ref (o 4), .ref (o 5)])), ((o 5), .inr (1, [.ref (o 3), .ref (o 4), .int clawNow, .int charder, .int ctold, .int creply, .int cwet, .ref (o 72)])), ((o 72), .inl (k 0, 17, .inl f72)), ((o 4), .inr (3, [.ref (o 69), .ref (o 70), .ref (o 71)])), ((o 69), .inl (k 0, 17, .inl f69)), ((o 70), .inl (k 0, 17, .inl f70)), ((o 71), .inl (k 0, 17, .inl f71)), ((o 3), .inr (2, [.int glines, .int (nI ghours), .int glaw, .int godds, .int (nI grows), .int (nI gheads), .int (nI gsayings), .int (nI gslugs), .int (nI gacts), .ref (o 26), .ref (o 27), .ref (o 28), .ref (o 29), .ref (o 30), .ref (o 31), .ref (o 32), .ref (o 33), .ref (o 34), .ref (o 35)])), ((o 26), .inl (k 0, 12, .inl f26)), ((o 29), .inl (k 0, 12, .inl f29)), ((o 30), .inl (k 0, 12, .inl f30)), ((o 31), .inl (k 0, 12, .inl f31)), ((o 32), .inl (k 0, 4, .inl f32))] (Qi (fun r : Int32 => True)) := by
  refine RO.of (by decide) (Nat.le_of_ble_eq_true rfl) ?_
  intro p e s m below meth c ls A B args Q S hr hlk hQ hK hP hDW hZ hAB hBA hA hS hl
  have hx := S.1
  have hb := S.2.1
  have hl : lv_has ls 2 [(0, .ref (o 0)), (1, .int p0)] := hl
  refine lv_aload_n hx hb dX10_main_0 rfl (lv_at hl 0 rfl) ?_
  refine lv_iload_n hx hb dX10_main_1 rfl (lv_at hl 1 rfl) ?_
  refine x_roVi (As := [.int p0]) S hK hP hDW hZ hAB hBA hS hA hl mwX10_isHour lkX10_161 (ctX10_isHour l D k z o glines ghours glaw godds grows gheads gsayings gslugs gacts p0 (by omega) (by omega) (by omega) (by omega) (by omega) (by omega)) [0, 8] rfl (by decide) rfl rfl rfl rfl rfl ⟨Nat.le_of_ble_eq_true rfl, Nat.le_of_ble_eq_true rfl, Nat.le_of_ble_eq_true rfl⟩ dX10_main_2 ⟨Nat.le_of_ble_eq_true rfl, Nat.le_of_ble_eq_true rfl⟩ (fun r_1 H locs hr_1 hP hS => ?_)
  have hp_3 := hr_1
  refine lv_if_eq (tgt := 29) hx hb dX10_main_5 (by decide) (fun c_4 => ?_) (fun c_4 => ?_)
  · skip
    refine lv_bipush (v := (-2)) hx hb dX10_main_29 (by decide) ?_
    exact x_reti S hr hlk hQ hS () trivial x_T dX10_main_31
  · skip
    obtain ⟨n_5, rfl, hn_5⟩ := hp_3.resolve_left c_4
    refine lv_aload_n hx hb dX10_main_8 rfl (lv_at hl 0 rfl) ?_
    refine x_get S hK hP 0 rfl cfX10 6 lkX10_50 (by decide) rfl dX10_main_9 ?_
    refine lv_aload_n hx hb dX10_main_12 rfl (lv_at hl 0 rfl) ?_
    refine x_get S hK hP 0 rfl cfX10 2 lkX10_23 (by decide) rfl dX10_main_13 ?_
    refine x_roVi (As := []) S hK hP hDW hZ hAB hBA hS hA hl mwX2_everyone lkX10_224 (ctX2_everyone l D k z o glines ghours glaw godds grows gheads gsayings gslugs gacts (by omega) (by omega) (by omega) (by omega) (by omega) (by omega)) [8] rfl (by decide) rfl rfl rfl rfl rfl ⟨Nat.le_of_ble_eq_true rfl, Nat.le_of_ble_eq_true rfl, Nat.le_of_ble_eq_true rfl⟩ dX10_main_16 ⟨Nat.le_of_ble_eq_true rfl, Nat.le_of_ble_eq_true rfl⟩ (fun r_6 H locs hr_6 hP hS => ?_)
    obtain rfl := hr_6
    refine lv_iload_n hx hb dX10_main_19 rfl (lv_at hl 1 rfl) ?_
    refine x_roVi (As := [.int (nI (2 ^ gheads - 1)), .int (nI n_5)]) S hK hP hDW hZ hAB hBA hS hA hl mwX7_leadOfOne lkX10_227 (ctX7_leadOfOne l D k z o clawNow charder ctold creply cwet f72 f69 f70 f71 glines ghours glaw godds grows gheads gsayings gslugs gacts f26 f29 f30 f31 f32 (nI (2 ^ gheads - 1)) n_5 (by omega) (by omega) (by omega) (by omega) (by omega) (by omega) (by omega)) [1, 2, 3, 4, 5, 6, 7, 8, 9, 10, 11, 12, 13] rfl (by decide) rfl rfl rfl rfl rfl ⟨Nat.le_of_ble_eq_true rfl, Nat.le_of_ble_eq_true rfl, Nat.le_of_ble_eq_true rfl⟩ dX10_main_20 ⟨Nat.le_of_ble_eq_true rfl, Nat.le_of_ble_eq_true rfl⟩ (fun r_8 H locs hr_8 hP hS => ?_)
    refine x_roSi (As := [.int r_8]) S hK hP hDW hZ hAB hBA hS hA hl mwX10_viewOfLead lkX10_235 (ctX10_viewOfLead l D k z r_8 ) [] rfl (by decide) rfl rfl ⟨Nat.le_of_ble_eq_true rfl, Nat.le_of_ble_eq_true rfl, Nat.le_of_ble_eq_true rfl⟩ dX10_main_23 ⟨Nat.le_of_ble_eq_true rfl, Nat.le_of_ble_eq_true rfl⟩ (fun r_10 H locs hr_10 hP hS => ?_)
    refine lv_goto (tgt := 31) hx hb dX10_main_26 (by decide) ?_
    exact x_reti S hr hlk hQ hS () trivial x_T dX10_main_31

set_option maxHeartbeats 4000000 in
set_option maxRecDepth 100000 in
theorem ctX10_first (l : Launch) (D : va_G) (k : Nat → ClassId) (z : Nat → Nat) (o : Nat → Nat) (clawNow : Int32) (charder : Int32) (ctold : Int32) (creply : Int32) (cwet : Int32) (f72 : Nat → Int32) (f69 : Nat → Int32) (f70 : Nat → Int32) (f71 : Nat → Int32) (glines : Int32) (ghours : Nat) (glaw : Int32) (godds : Int32) (grows : Nat) (gheads : Nat) (gsayings : Nat) (gslugs : Nat) (gacts : Nat) (f26 : Nat → Int32) (f29 : Nat → Int32) (f30 : Nat → Int32) (f31 : Nat → Int32) (f32 : Nat → Int32) (p0 : Int32) (hghours : ghours ≤ 16) (hgrows : grows ≤ 4) (hgheads : gheads ≤ 12) (hgsayings : gsayings ≤ 8) (hgslugs : gslugs ≤ 4) (hgacts : gacts ≤ 30) : RO l yX10_first cX10_first 2 (some .int) 4 D k z [.ref (o 0), .int p0] [((o 0), .inr (10, [.ref (o 1), .ref (o 2), .ref (o 3), .ref (o 4), .ref (o 5), .ref (o 6), .ref (o 7), .ref (o 8), .ref (o 9), .ref (o 10), .ref (o 11), .ref (o 12), .ref (o 13), .ref (o 14)])), ((o 7), .inr (7, [.ref (o 3), .ref (o 4), .ref (o 5)])), ((o 5), .inr (1, [.ref (o 3), .ref (o 4), .int clawNow, .int charder, .int ctold, .int creply, .int cwet, .ref (o 72)])), ((o 72), .inl (k 0, 17, .inl f72)), ((o 4), .inr (3, [.ref (o 69), .ref (o 70), .ref (o 71)])), ((o 69), .inl (k 0, 17, .inl f69)), ((o 70), .inl (k 0, 17, .inl f70)), ((o 71), .inl (k 0, 17, .inl f71)), ((o 3), .inr (2, [.int glines, .int (nI ghours), .int glaw, .int godds, .int (nI grows), .int (nI gheads), .int (nI gsayings), .int (nI gslugs), .int (nI gacts), .ref (o 26), .ref (o 27), .ref (o 28), .ref (o 29), .ref (o 30), .ref (o 31), .ref (o 32), .ref (o 33), .ref (o 34), .ref (o 35)])), ((o 26), .inl (k 0, 12, .inl f26)), ((o 29), .inl (k 0, 12, .inl f29)), ((o 30), .inl (k 0, 12, .inl f30)), ((o 31), .inl (k 0, 12, .inl f31)), ((o 32), .inl (k 0, 4, .inl f32))] (Qi (fun r : Int32 => True)) := by
  refine RO.of (by decide) (Nat.le_of_ble_eq_true rfl) ?_
  intro p e s m below meth c ls A B args Q S hr hlk hQ hK hP hDW hZ hAB hBA hA hS hl
  have hx := S.1
  have hb := S.2.1
  have hl : lv_has ls 2 [(0, .ref (o 0)), (1, .int p0)] := hl
  refine lv_aload_n hx hb dX10_first_0 rfl (lv_at hl 0 rfl) ?_
  refine x_roVi (As := []) S hK hP hDW hZ hAB hBA hS hA hl mwX10_isGarden lkX10_196 (ctX10_isGarden l D k z o glines ghours glaw godds grows gheads gsayings gslugs gacts (by omega) (by omega) (by omega) (by omega) (by omega) (by omega)) [0, 8] rfl (by decide) rfl rfl rfl rfl rfl ⟨Nat.le_of_ble_eq_true rfl, Nat.le_of_ble_eq_true rfl, Nat.le_of_ble_eq_true rfl⟩ dX10_first_1 ⟨Nat.le_of_ble_eq_true rfl, Nat.le_of_ble_eq_true rfl⟩ (fun r_1 H locs hr_1 hP hS => ?_)
  refine lv_if_eq (tgt := 32) hx hb dX10_first_4 (by decide) (fun c_3 => ?_) (fun c_3 => ?_)
  · skip
    refine lv_bipush (v := (-2)) hx hb dX10_first_32 (by decide) ?_
    exact x_reti S hr hlk hQ hS () trivial x_T dX10_first_34
  · skip
    refine lv_iload_n hx hb dX10_first_7 rfl (lv_at hl 1 rfl) ?_
    refine x_roSi (As := [.int p0]) S hK hP hDW hZ hAB hBA hS hA hl mwX10_isView lkX10_184 (ctX10_isView l D k z p0 ) [] rfl (by decide) rfl rfl ⟨Nat.le_of_ble_eq_true rfl, Nat.le_of_ble_eq_true rfl, Nat.le_of_ble_eq_true rfl⟩ dX10_first_8 ⟨Nat.le_of_ble_eq_true rfl, Nat.le_of_ble_eq_true rfl⟩ (fun r_4 H locs hr_4 hP hS => ?_)
    have hp_6 := hr_4
    refine lv_if_eq (tgt := 32) hx hb dX10_first_11 (by decide) (fun c_7 => ?_) (fun c_7 => ?_)
    · skip
      refine lv_bipush (v := (-2)) hx hb dX10_first_32 (by decide) ?_
      exact x_reti S hr hlk hQ hS () trivial x_T dX10_first_34
    · skip
      obtain ⟨n_8, rfl, hn_8⟩ := hp_6.resolve_left c_7
      refine lv_aload_n hx hb dX10_first_14 rfl (lv_at hl 0 rfl) ?_
      refine x_get S hK hP 0 rfl cfX10 6 lkX10_50 (by decide) rfl dX10_first_15 ?_
      refine lv_aload_n hx hb dX10_first_18 rfl (lv_at hl 0 rfl) ?_
      refine x_get S hK hP 0 rfl cfX10 2 lkX10_23 (by decide) rfl dX10_first_19 ?_
      refine x_roVi (As := []) S hK hP hDW hZ hAB hBA hS hA hl mwX2_everyone lkX10_224 (ctX2_everyone l D k z o glines ghours glaw godds grows gheads gsayings gslugs gacts (by omega) (by omega) (by omega) (by omega) (by omega) (by omega)) [8] rfl (by decide) rfl rfl rfl rfl rfl ⟨Nat.le_of_ble_eq_true rfl, Nat.le_of_ble_eq_true rfl, Nat.le_of_ble_eq_true rfl⟩ dX10_first_22 ⟨Nat.le_of_ble_eq_true rfl, Nat.le_of_ble_eq_true rfl⟩ (fun r_9 H locs hr_9 hP hS => ?_)
      obtain rfl := hr_9
      refine lv_iload_n hx hb dX10_first_25 rfl (lv_at hl 1 rfl) ?_
      refine x_roVi (As := [.int (nI (2 ^ gheads - 1)), .int (nI n_8)]) S hK hP hDW hZ hAB hBA hS hA hl mwX7_firstHour lkX10_187 (ctX7_firstHour l D k z o clawNow charder ctold creply cwet f72 f69 f70 f71 glines ghours glaw godds grows gheads gsayings gslugs gacts f26 f29 f30 f31 f32 (nI (2 ^ gheads - 1)) (nI n_8) (by omega) (by omega) (by omega) (by omega) (by omega) (by omega)) [1, 2, 3, 4, 5, 6, 7, 8, 9, 10, 11, 12, 13] rfl (by decide) rfl rfl rfl rfl rfl ⟨Nat.le_of_ble_eq_true rfl, Nat.le_of_ble_eq_true rfl, Nat.le_of_ble_eq_true rfl⟩ dX10_first_26 ⟨Nat.le_of_ble_eq_true rfl, Nat.le_of_ble_eq_true rfl⟩ (fun r_11 H locs hr_11 hP hS => ?_)
      refine lv_goto (tgt := 34) hx hb dX10_first_29 (by decide) ?_
      exact x_reti S hr hlk hQ hS () trivial x_T dX10_first_34

set_option maxHeartbeats 4000000 in
set_option maxRecDepth 100000 in
theorem ctX10_solid (l : Launch) (D : va_G) (k : Nat → ClassId) (z : Nat → Nat) (o : Nat → Nat) (clawNow : Int32) (charder : Int32) (ctold : Int32) (creply : Int32) (cwet : Int32) (f72 : Nat → Int32) (f69 : Nat → Int32) (f70 : Nat → Int32) (f71 : Nat → Int32) (glines : Int32) (ghours : Nat) (glaw : Int32) (godds : Int32) (grows : Nat) (gheads : Nat) (gsayings : Nat) (gslugs : Nat) (gacts : Nat) (f26 : Nat → Int32) (f29 : Nat → Int32) (f30 : Nat → Int32) (f31 : Nat → Int32) (f32 : Nat → Int32) (p0 : Int32) (hghours : ghours ≤ 16) (hgrows : grows ≤ 4) (hgheads : gheads ≤ 12) (hgsayings : gsayings ≤ 8) (hgslugs : gslugs ≤ 4) (hgacts : gacts ≤ 30) : RO l yX10_solid cX10_solid 2 (some .int) 4 D k z [.ref (o 0), .int p0] [((o 0), .inr (10, [.ref (o 1), .ref (o 2), .ref (o 3), .ref (o 4), .ref (o 5), .ref (o 6), .ref (o 7), .ref (o 8), .ref (o 9), .ref (o 10), .ref (o 11), .ref (o 12), .ref (o 13), .ref (o 14)])), ((o 7), .inr (7, [.ref (o 3), .ref (o 4), .ref (o 5)])), ((o 5), .inr (1, [.ref (o 3), .ref (o 4), .int clawNow, .int charder, .int ctold, .int creply, .int cwet, .ref (o 72)])), ((o 72), .inl (k 0, 17, .inl f72)), ((o 4), .inr (3, [.ref (o 69), .ref (o 70), .ref (o 71)])), ((o 69), .inl (k 0, 17, .inl f69)), ((o 70), .inl (k 0, 17, .inl f70)), ((o 71), .inl (k 0, 17, .inl f71)), ((o 3), .inr (2, [.int glines, .int (nI ghours), .int glaw, .int godds, .int (nI grows), .int (nI gheads), .int (nI gsayings), .int (nI gslugs), .int (nI gacts), .ref (o 26), .ref (o 27), .ref (o 28), .ref (o 29), .ref (o 30), .ref (o 31), .ref (o 32), .ref (o 33), .ref (o 34), .ref (o 35)])), ((o 26), .inl (k 0, 12, .inl f26)), ((o 29), .inl (k 0, 12, .inl f29)), ((o 30), .inl (k 0, 12, .inl f30)), ((o 31), .inl (k 0, 12, .inl f31)), ((o 32), .inl (k 0, 4, .inl f32))] (Qi (fun r : Int32 => True)) := by
  refine RO.of (by decide) (Nat.le_of_ble_eq_true rfl) ?_
  intro p e s m below meth c ls A B args Q S hr hlk hQ hK hP hDW hZ hAB hBA hA hS hl
  have hx := S.1
  have hb := S.2.1
  have hl : lv_has ls 2 [(0, .ref (o 0)), (1, .int p0)] := hl
  refine lv_aload_n hx hb dX10_solid_0 rfl (lv_at hl 0 rfl) ?_
  refine lv_iload_n hx hb dX10_solid_1 rfl (lv_at hl 1 rfl) ?_
  refine x_roVi (As := [.int p0]) S hK hP hDW hZ hAB hBA hS hA hl mwX10_isHour lkX10_161 (ctX10_isHour l D k z o glines ghours glaw godds grows gheads gsayings gslugs gacts p0 (by omega) (by omega) (by omega) (by omega) (by omega) (by omega)) [0, 8] rfl (by decide) rfl rfl rfl rfl rfl ⟨Nat.le_of_ble_eq_true rfl, Nat.le_of_ble_eq_true rfl, Nat.le_of_ble_eq_true rfl⟩ dX10_solid_2 ⟨Nat.le_of_ble_eq_true rfl, Nat.le_of_ble_eq_true rfl⟩ (fun r_1 H locs hr_1 hP hS => ?_)
  have hp_3 := hr_1
  refine lv_if_eq (tgt := 19) hx hb dX10_solid_5 (by decide) (fun c_4 => ?_) (fun c_4 => ?_)
  · skip
    refine lv_bipush (v := (-2)) hx hb dX10_solid_19 (by decide) ?_
    exact x_reti S hr hlk hQ hS () trivial x_T dX10_solid_21
  · skip
    obtain ⟨n_5, rfl, hn_5⟩ := hp_3.resolve_left c_4
    refine lv_aload_n hx hb dX10_solid_8 rfl (lv_at hl 0 rfl) ?_
    refine x_get S hK hP 0 rfl cfX10 6 lkX10_50 (by decide) rfl dX10_solid_9 ?_
    refine lv_iload_n hx hb dX10_solid_12 rfl (lv_at hl 1 rfl) ?_
    refine x_roVi (As := [.int (nI n_5)]) S hK hP hDW hZ hAB hBA hS hA hl mwX7_solidRows lkX10_238 (ctX7_solidRows l D k z o clawNow charder ctold creply cwet f72 f69 f70 f71 glines ghours glaw godds grows gheads gsayings gslugs gacts f26 f29 f30 f31 f32 n_5 (by omega) (by omega) (by omega) (by omega) (by omega) (by omega) (by omega)) [1, 2, 3, 4, 5, 6, 7, 8, 9, 10, 11, 12, 13] rfl (by decide) rfl rfl rfl rfl rfl ⟨Nat.le_of_ble_eq_true rfl, Nat.le_of_ble_eq_true rfl, Nat.le_of_ble_eq_true rfl⟩ dX10_solid_13 ⟨Nat.le_of_ble_eq_true rfl, Nat.le_of_ble_eq_true rfl⟩ (fun r_6 H locs hr_6 hP hS => ?_)
    refine lv_goto (tgt := 21) hx hb dX10_solid_16 (by decide) ?_
    exact x_reti S hr hlk hQ hS () trivial x_T dX10_solid_21

set_option maxHeartbeats 4000000 in
set_option maxRecDepth 100000 in
theorem ctX10_longest (l : Launch) (D : va_G) (k : Nat → ClassId) (z : Nat → Nat) (o : Nat → Nat) (clawNow : Int32) (charder : Int32) (ctold : Int32) (creply : Int32) (cwet : Int32) (f72 : Nat → Int32) (f69 : Nat → Int32) (f70 : Nat → Int32) (f71 : Nat → Int32) (glines : Int32) (ghours : Nat) (glaw : Int32) (godds : Int32) (grows : Nat) (gheads : Nat) (gsayings : Nat) (gslugs : Nat) (gacts : Nat) (f26 : Nat → Int32) (f29 : Nat → Int32) (f30 : Nat → Int32) (f31 : Nat → Int32) (f32 : Nat → Int32) (p0 : Int32) (p1 : Int32) (hghours : ghours ≤ 16) (hgrows : grows ≤ 4) (hgheads : gheads ≤ 12) (hgsayings : gsayings ≤ 8) (hgslugs : gslugs ≤ 4) (hgacts : gacts ≤ 30) : RO l yX10_longest cX10_longest 3 (some .int) 4 D k z [.ref (o 0), .int p0, .int p1] [((o 0), .inr (10, [.ref (o 1), .ref (o 2), .ref (o 3), .ref (o 4), .ref (o 5), .ref (o 6), .ref (o 7), .ref (o 8), .ref (o 9), .ref (o 10), .ref (o 11), .ref (o 12), .ref (o 13), .ref (o 14)])), ((o 7), .inr (7, [.ref (o 3), .ref (o 4), .ref (o 5)])), ((o 5), .inr (1, [.ref (o 3), .ref (o 4), .int clawNow, .int charder, .int ctold, .int creply, .int cwet, .ref (o 72)])), ((o 72), .inl (k 0, 17, .inl f72)), ((o 4), .inr (3, [.ref (o 69), .ref (o 70), .ref (o 71)])), ((o 69), .inl (k 0, 17, .inl f69)), ((o 70), .inl (k 0, 17, .inl f70)), ((o 71), .inl (k 0, 17, .inl f71)), ((o 3), .inr (2, [.int glines, .int (nI ghours), .int glaw, .int godds, .int (nI grows), .int (nI gheads), .int (nI gsayings), .int (nI gslugs), .int (nI gacts), .ref (o 26), .ref (o 27), .ref (o 28), .ref (o 29), .ref (o 30), .ref (o 31), .ref (o 32), .ref (o 33), .ref (o 34), .ref (o 35)])), ((o 26), .inl (k 0, 12, .inl f26)), ((o 29), .inl (k 0, 12, .inl f29)), ((o 30), .inl (k 0, 12, .inl f30)), ((o 31), .inl (k 0, 12, .inl f31)), ((o 32), .inl (k 0, 4, .inl f32))] (Qi (fun r : Int32 => True)) := by
  refine RO.of (by decide) (Nat.le_of_ble_eq_true rfl) ?_
  intro p e s m below meth c ls A B args Q S hr hlk hQ hK hP hDW hZ hAB hBA hA hS hl
  have hx := S.1
  have hb := S.2.1
  have hl : lv_has ls 3 [(0, .ref (o 0)), (1, .int p0), (2, .int p1)] := hl
  refine lv_iload_n hx hb dX10_longest_0 rfl (lv_at hl 1 rfl) ?_
  refine x_roSi (As := [.int p0]) S hK hP hDW hZ hAB hBA hS hA hl mwX10_isAnyView lkX10_168 (ctX10_isAnyView l D k z p0 ) [] rfl (by decide) rfl rfl ⟨Nat.le_of_ble_eq_true rfl, Nat.le_of_ble_eq_true rfl, Nat.le_of_ble_eq_true rfl⟩ dX10_longest_1 ⟨Nat.le_of_ble_eq_true rfl, Nat.le_of_ble_eq_true rfl⟩ (fun r_1 H locs hr_1 hP hS => ?_)
  refine lv_if_eq (tgt := 27) hx hb dX10_longest_4 (by decide) (fun c_3 => ?_) (fun c_3 => ?_)
  · skip
    refine lv_bipush (v := (-2)) hx hb dX10_longest_27 (by decide) ?_
    exact x_reti S hr hlk hQ hS () trivial x_T dX10_longest_29
  · skip
    refine lv_aload_n hx hb dX10_longest_7 rfl (lv_at hl 0 rfl) ?_
    refine lv_iload_n hx hb dX10_longest_8 rfl (lv_at hl 2 rfl) ?_
    refine x_roVi (As := [.int p1]) S hK hP hDW hZ hAB hBA hS hA hl mwX10_isHour lkX10_161 (ctX10_isHour l D k z o glines ghours glaw godds grows gheads gsayings gslugs gacts p1 (by omega) (by omega) (by omega) (by omega) (by omega) (by omega)) [0, 8] rfl (by decide) rfl rfl rfl rfl rfl ⟨Nat.le_of_ble_eq_true rfl, Nat.le_of_ble_eq_true rfl, Nat.le_of_ble_eq_true rfl⟩ dX10_longest_9 ⟨Nat.le_of_ble_eq_true rfl, Nat.le_of_ble_eq_true rfl⟩ (fun r_4 H locs hr_4 hP hS => ?_)
    have hp_6 := hr_4
    refine lv_if_eq (tgt := 27) hx hb dX10_longest_12 (by decide) (fun c_7 => ?_) (fun c_7 => ?_)
    · skip
      refine lv_bipush (v := (-2)) hx hb dX10_longest_27 (by decide) ?_
      exact x_reti S hr hlk hQ hS () trivial x_T dX10_longest_29
    · skip
      obtain ⟨n_8, rfl, hn_8⟩ := hp_6.resolve_left c_7
      refine lv_aload_n hx hb dX10_longest_15 rfl (lv_at hl 0 rfl) ?_
      refine x_get S hK hP 0 rfl cfX10 6 lkX10_50 (by decide) rfl dX10_longest_16 ?_
      refine lv_iload_n hx hb dX10_longest_19 rfl (lv_at hl 1 rfl) ?_
      refine lv_iload_n hx hb dX10_longest_20 rfl (lv_at hl 2 rfl) ?_
      refine x_roVi (As := [.int p0, .int (nI n_8)]) S hK hP hDW hZ hAB hBA hS hA hl mwX7_longestRun lkX10_241 (ctX7_longestRun l D k z o clawNow charder ctold creply cwet f72 f69 f70 f71 glines ghours glaw godds grows gheads gsayings gslugs gacts f26 f29 f30 f31 f32 p0 n_8 (by omega) (by omega) (by omega) (by omega) (by omega) (by omega) (by omega)) [1, 2, 3, 4, 5, 6, 7, 8, 9, 10, 11, 12, 13] rfl (by decide) rfl rfl rfl rfl rfl ⟨Nat.le_of_ble_eq_true rfl, Nat.le_of_ble_eq_true rfl, Nat.le_of_ble_eq_true rfl⟩ dX10_longest_21 ⟨Nat.le_of_ble_eq_true rfl, Nat.le_of_ble_eq_true rfl⟩ (fun r_9 H locs hr_9 hP hS => ?_)
      refine lv_goto (tgt := 29) hx hb dX10_longest_24 (by decide) ?_
      exact x_reti S hr hlk hQ hS () trivial x_T dX10_longest_29

set_option maxHeartbeats 4000000 in
set_option maxRecDepth 100000 in
theorem ctX10_pull (l : Launch) (D : va_G) (k : Nat → ClassId) (z : Nat → Nat) (o : Nat → Nat) (clawNow : Int32) (charder : Int32) (ctold : Int32) (creply : Int32) (cwet : Int32) (f72 : Nat → Int32) (f69 : Nat → Int32) (f70 : Nat → Int32) (f71 : Nat → Int32) (glines : Int32) (ghours : Nat) (glaw : Int32) (godds : Int32) (grows : Nat) (gheads : Nat) (gsayings : Nat) (gslugs : Nat) (gacts : Nat) (f26 : Nat → Int32) (f29 : Nat → Int32) (f30 : Nat → Int32) (f31 : Nat → Int32) (f32 : Nat → Int32) (p0 : Int32) (p1 : Int32) (hghours : ghours ≤ 16) (hgrows : grows ≤ 4) (hgheads : gheads ≤ 12) (hgsayings : gsayings ≤ 8) (hgslugs : gslugs ≤ 4) (hgacts : gacts ≤ 30) : RO l yX10_pull cX10_pull 3 (some .int) 2 D k z [.ref (o 0), .int p0, .int p1] [((o 0), .inr (10, [.ref (o 1), .ref (o 2), .ref (o 3), .ref (o 4), .ref (o 5), .ref (o 6), .ref (o 7), .ref (o 8), .ref (o 9), .ref (o 10), .ref (o 11), .ref (o 12), .ref (o 13), .ref (o 14)])), ((o 7), .inr (7, [.ref (o 3), .ref (o 4), .ref (o 5)])), ((o 5), .inr (1, [.ref (o 3), .ref (o 4), .int clawNow, .int charder, .int ctold, .int creply, .int cwet, .ref (o 72)])), ((o 72), .inl (k 0, 17, .inl f72)), ((o 4), .inr (3, [.ref (o 69), .ref (o 70), .ref (o 71)])), ((o 69), .inl (k 0, 17, .inl f69)), ((o 70), .inl (k 0, 17, .inl f70)), ((o 71), .inl (k 0, 17, .inl f71)), ((o 3), .inr (2, [.int glines, .int (nI ghours), .int glaw, .int godds, .int (nI grows), .int (nI gheads), .int (nI gsayings), .int (nI gslugs), .int (nI gacts), .ref (o 26), .ref (o 27), .ref (o 28), .ref (o 29), .ref (o 30), .ref (o 31), .ref (o 32), .ref (o 33), .ref (o 34), .ref (o 35)])), ((o 26), .inl (k 0, 12, .inl f26)), ((o 29), .inl (k 0, 12, .inl f29)), ((o 30), .inl (k 0, 12, .inl f30)), ((o 31), .inl (k 0, 12, .inl f31)), ((o 32), .inl (k 0, 4, .inl f32))] (Qi (fun r : Int32 => True)) := by
  refine RO.of (by decide) (Nat.le_of_ble_eq_true rfl) ?_
  intro p e s m below meth c ls A B args Q S hr hlk hQ hK hP hDW hZ hAB hBA hA hS hl
  have hx := S.1
  have hb := S.2.1
  have hl : lv_has ls 3 [(0, .ref (o 0)), (1, .int p0), (2, .int p1)] := hl
  refine lv_aload_n hx hb dX10_pull_0 rfl (lv_at hl 0 rfl) ?_
  refine lv_iload_n hx hb dX10_pull_1 rfl (lv_at hl 1 rfl) ?_
  refine x_roVi (As := [.int p0]) S hK hP hDW hZ hAB hBA hS hA hl mwX10_isHead lkX10_135 (ctX10_isHead l D k z o glines ghours glaw godds grows gheads gsayings gslugs gacts p0 (by omega) (by omega) (by omega) (by omega) (by omega) (by omega)) [0, 8] rfl (by decide) rfl rfl rfl rfl rfl ⟨Nat.le_of_ble_eq_true rfl, Nat.le_of_ble_eq_true rfl, Nat.le_of_ble_eq_true rfl⟩ dX10_pull_2 ⟨Nat.le_of_ble_eq_true rfl, Nat.le_of_ble_eq_true rfl⟩ (fun r_1 H locs hr_1 hP hS => ?_)
  have hp_3 := hr_1
  refine lv_if_eq (tgt := 36) hx hb dX10_pull_5 (by decide) (fun c_4 => ?_) (fun c_4 => ?_)
  · skip
    refine lv_sipush (v := (-1000)) hx hb dX10_pull_36 (by decide) ?_
    exact x_reti S hr hlk hQ hS () trivial x_T dX10_pull_39
  · skip
    obtain ⟨n_5, rfl, hn_5⟩ := hp_3.resolve_left c_4
    refine lv_aload_n hx hb dX10_pull_8 rfl (lv_at hl 0 rfl) ?_
    refine lv_iload_n hx hb dX10_pull_9 rfl (lv_at hl 2 rfl) ?_
    refine x_roVi (As := [.int p1]) S hK hP hDW hZ hAB hBA hS hA hl mwX10_isHour lkX10_161 (ctX10_isHour l D k z o glines ghours glaw godds grows gheads gsayings gslugs gacts p1 (by omega) (by omega) (by omega) (by omega) (by omega) (by omega)) [0, 8] rfl (by decide) rfl rfl rfl rfl rfl ⟨Nat.le_of_ble_eq_true rfl, Nat.le_of_ble_eq_true rfl, Nat.le_of_ble_eq_true rfl⟩ dX10_pull_10 ⟨Nat.le_of_ble_eq_true rfl, Nat.le_of_ble_eq_true rfl⟩ (fun r_6 H locs hr_6 hP hS => ?_)
    have hp_8 := hr_6
    refine lv_if_eq (tgt := 36) hx hb dX10_pull_13 (by decide) (fun c_9 => ?_) (fun c_9 => ?_)
    · skip
      refine lv_sipush (v := (-1000)) hx hb dX10_pull_36 (by decide) ?_
      exact x_reti S hr hlk hQ hS () trivial x_T dX10_pull_39
    · skip
      obtain ⟨n_10, rfl, hn_10⟩ := hp_8.resolve_left c_9
      refine lv_aload_n hx hb dX10_pull_16 rfl (lv_at hl 0 rfl) ?_
      refine x_get S hK hP 0 rfl cfX10 4 lkX10_38 (by decide) rfl dX10_pull_17 ?_
      refine lv_iload_n hx hb dX10_pull_20 rfl (lv_at hl 1 rfl) ?_
      refine lv_aload_n hx hb dX10_pull_21 rfl (lv_at hl 0 rfl) ?_
      refine x_get S hK hP 0 rfl cfX10 4 lkX10_38 (by decide) rfl dX10_pull_22 ?_
      refine x_get S hK hP 2 rfl cfX1 7 lkX10_244 (by decide) rfl dX10_pull_25 ?_
      refine lv_iload_n hx hb dX10_pull_28 rfl (lv_at hl 2 rfl) ?_
      refine x_iald S hK hP 3 rfl (vp_in_nI (by omega) (by decide)) dX10_pull_29 ?_
      refine lv_topi (fun v_11 ev_11 => ?_)
      refine x_roVi (As := [.int (nI n_5), .int v_11]) S hK hP hDW hZ hAB hBA hS hA hl mwX1_lean lkX10_247 (ctX1_lean_c l D k z o clawNow charder ctold creply cwet f72 f69 f70 f71 glines ghours glaw godds grows gheads gsayings gslugs gacts f26 f30 f31 n_5 v_11 (by omega) (by omega) (by omega) (by omega) (by omega) (by omega) (by omega)) [2, 3, 4, 5, 6, 7, 8, 9, 11, 12] rfl (by decide) rfl rfl rfl rfl rfl ⟨Nat.le_of_ble_eq_true rfl, Nat.le_of_ble_eq_true rfl, Nat.le_of_ble_eq_true rfl⟩ dX10_pull_30 ⟨Nat.le_of_ble_eq_true rfl, Nat.le_of_ble_eq_true rfl⟩ (fun r_12 H locs hr_12 hP hS => ?_)
      refine lv_goto (tgt := 39) hx hb dX10_pull_33 (by decide) ?_
      exact x_reti S hr hlk hQ hS () trivial x_T dX10_pull_39

set_option maxHeartbeats 4000000 in
set_option maxRecDepth 100000 in
theorem ctX10_tied (l : Launch) (D : va_G) (k : Nat → ClassId) (z : Nat → Nat) (o : Nat → Nat) (clawNow : Int32) (charder : Int32) (ctold : Int32) (creply : Int32) (cwet : Int32) (f72 : Nat → Int32) (f69 : Nat → Int32) (f70 : Nat → Int32) (f71 : Nat → Int32) (glines : Int32) (ghours : Nat) (glaw : Int32) (godds : Int32) (grows : Nat) (gheads : Nat) (gsayings : Nat) (gslugs : Nat) (gacts : Nat) (f26 : Nat → Int32) (f29 : Nat → Int32) (f30 : Nat → Int32) (f31 : Nat → Int32) (f32 : Nat → Int32) (p0 : Int32) (hghours : ghours ≤ 16) (hgrows : grows ≤ 4) (hgheads : gheads ≤ 12) (hgsayings : gsayings ≤ 8) (hgslugs : gslugs ≤ 4) (hgacts : gacts ≤ 30) : RO l yX10_tied cX10_tied 2 (some .int) 3 D k z [.ref (o 0), .int p0] [((o 0), .inr (10, [.ref (o 1), .ref (o 2), .ref (o 3), .ref (o 4), .ref (o 5), .ref (o 6), .ref (o 7), .ref (o 8), .ref (o 9), .ref (o 10), .ref (o 11), .ref (o 12), .ref (o 13), .ref (o 14)])), ((o 7), .inr (7, [.ref (o 3), .ref (o 4), .ref (o 5)])), ((o 5), .inr (1, [.ref (o 3), .ref (o 4), .int clawNow, .int charder, .int ctold, .int creply, .int cwet, .ref (o 72)])), ((o 72), .inl (k 0, 17, .inl f72)), ((o 4), .inr (3, [.ref (o 69), .ref (o 70), .ref (o 71)])), ((o 69), .inl (k 0, 17, .inl f69)), ((o 70), .inl (k 0, 17, .inl f70)), ((o 71), .inl (k 0, 17, .inl f71)), ((o 3), .inr (2, [.int glines, .int (nI ghours), .int glaw, .int godds, .int (nI grows), .int (nI gheads), .int (nI gsayings), .int (nI gslugs), .int (nI gacts), .ref (o 26), .ref (o 27), .ref (o 28), .ref (o 29), .ref (o 30), .ref (o 31), .ref (o 32), .ref (o 33), .ref (o 34), .ref (o 35)])), ((o 26), .inl (k 0, 12, .inl f26)), ((o 29), .inl (k 0, 12, .inl f29)), ((o 30), .inl (k 0, 12, .inl f30)), ((o 31), .inl (k 0, 12, .inl f31)), ((o 32), .inl (k 0, 4, .inl f32))] (Qi (fun r : Int32 => True)) := by
  refine RO.of (by decide) (Nat.le_of_ble_eq_true rfl) ?_
  intro p e s m below meth c ls A B args Q S hr hlk hQ hK hP hDW hZ hAB hBA hA hS hl
  have hx := S.1
  have hb := S.2.1
  have hl : lv_has ls 2 [(0, .ref (o 0)), (1, .int p0)] := hl
  refine lv_aload_n hx hb dX10_tied_0 rfl (lv_at hl 0 rfl) ?_
  refine lv_iload_n hx hb dX10_tied_1 rfl (lv_at hl 1 rfl) ?_
  refine x_roVi (As := [.int p0]) S hK hP hDW hZ hAB hBA hS hA hl mwX10_isHour lkX10_161 (ctX10_isHour l D k z o glines ghours glaw godds grows gheads gsayings gslugs gacts p0 (by omega) (by omega) (by omega) (by omega) (by omega) (by omega)) [0, 8] rfl (by decide) rfl rfl rfl rfl rfl ⟨Nat.le_of_ble_eq_true rfl, Nat.le_of_ble_eq_true rfl, Nat.le_of_ble_eq_true rfl⟩ dX10_tied_2 ⟨Nat.le_of_ble_eq_true rfl, Nat.le_of_ble_eq_true rfl⟩ (fun r_1 H locs hr_1 hP hS => ?_)
  have hp_3 := hr_1
  refine lv_if_eq (tgt := 19) hx hb dX10_tied_5 (by decide) (fun c_4 => ?_) (fun c_4 => ?_)
  · skip
    refine lv_bipush (v := (-2)) hx hb dX10_tied_19 (by decide) ?_
    exact x_reti S hr hlk hQ hS () trivial x_T dX10_tied_21
  · skip
    obtain ⟨n_5, rfl, hn_5⟩ := hp_3.resolve_left c_4
    refine lv_aload_n hx hb dX10_tied_8 rfl (lv_at hl 0 rfl) ?_
    refine x_get S hK hP 0 rfl cfX10 6 lkX10_50 (by decide) rfl dX10_tied_9 ?_
    refine lv_iload_n hx hb dX10_tied_12 rfl (lv_at hl 1 rfl) ?_
    refine x_roVi (As := [.int (nI n_5)]) S hK hP hDW hZ hAB hBA hS hA hl mwX7_tiedAt lkX10_250 (ctX7_tiedAt l D k z o clawNow charder ctold creply cwet f72 f69 f70 f71 glines ghours glaw godds grows gheads gsayings gslugs gacts f26 f29 f30 f31 f32 n_5 (by omega) (by omega) (by omega) (by omega) (by omega) (by omega) (by omega)) [1, 2, 3, 4, 5, 6, 7, 8, 9, 10, 11, 12, 13] rfl (by decide) rfl rfl rfl rfl rfl ⟨Nat.le_of_ble_eq_true rfl, Nat.le_of_ble_eq_true rfl, Nat.le_of_ble_eq_true rfl⟩ dX10_tied_13 ⟨Nat.le_of_ble_eq_true rfl, Nat.le_of_ble_eq_true rfl⟩ (fun r_6 H locs hr_6 hP hS => ?_)
    refine lv_goto (tgt := 21) hx hb dX10_tied_16 (by decide) ?_
    exact x_reti S hr hlk hQ hS () trivial x_T dX10_tied_21

set_option maxHeartbeats 4000000 in
set_option maxRecDepth 100000 in
theorem ctX10_since (l : Launch) (D : va_G) (k : Nat → ClassId) (z : Nat → Nat) (o : Nat → Nat) (clawNow : Int32) (charder : Int32) (ctold : Int32) (creply : Int32) (cwet : Int32) (f72 : Nat → Int32) (f69 : Nat → Int32) (f70 : Nat → Int32) (f71 : Nat → Int32) (glines : Int32) (ghours : Nat) (glaw : Int32) (godds : Int32) (grows : Nat) (gheads : Nat) (gsayings : Nat) (gslugs : Nat) (gacts : Nat) (f26 : Nat → Int32) (f29 : Nat → Int32) (f30 : Nat → Int32) (f31 : Nat → Int32) (f32 : Nat → Int32) (p0 : Int32) (hghours : ghours ≤ 16) (hgrows : grows ≤ 4) (hgheads : gheads ≤ 12) (hgsayings : gsayings ≤ 8) (hgslugs : gslugs ≤ 4) (hgacts : gacts ≤ 30) : RO l yX10_since cX10_since 2 (some .int) 2 D k z [.ref (o 0), .int p0] [((o 0), .inr (10, [.ref (o 1), .ref (o 2), .ref (o 3), .ref (o 4), .ref (o 5), .ref (o 6), .ref (o 7), .ref (o 8), .ref (o 9), .ref (o 10), .ref (o 11), .ref (o 12), .ref (o 13), .ref (o 14)])), ((o 7), .inr (7, [.ref (o 3), .ref (o 4), .ref (o 5)])), ((o 5), .inr (1, [.ref (o 3), .ref (o 4), .int clawNow, .int charder, .int ctold, .int creply, .int cwet, .ref (o 72)])), ((o 72), .inl (k 0, 17, .inl f72)), ((o 4), .inr (3, [.ref (o 69), .ref (o 70), .ref (o 71)])), ((o 69), .inl (k 0, 17, .inl f69)), ((o 70), .inl (k 0, 17, .inl f70)), ((o 71), .inl (k 0, 17, .inl f71)), ((o 3), .inr (2, [.int glines, .int (nI ghours), .int glaw, .int godds, .int (nI grows), .int (nI gheads), .int (nI gsayings), .int (nI gslugs), .int (nI gacts), .ref (o 26), .ref (o 27), .ref (o 28), .ref (o 29), .ref (o 30), .ref (o 31), .ref (o 32), .ref (o 33), .ref (o 34), .ref (o 35)])), ((o 26), .inl (k 0, 12, .inl f26)), ((o 29), .inl (k 0, 12, .inl f29)), ((o 30), .inl (k 0, 12, .inl f30)), ((o 31), .inl (k 0, 12, .inl f31)), ((o 32), .inl (k 0, 4, .inl f32))] (Qi (fun r : Int32 => True)) := by
  refine RO.of (by decide) (Nat.le_of_ble_eq_true rfl) ?_
  intro p e s m below meth c ls A B args Q S hr hlk hQ hK hP hDW hZ hAB hBA hA hS hl
  have hx := S.1
  have hb := S.2.1
  have hl : lv_has ls 2 [(0, .ref (o 0)), (1, .int p0)] := hl
  refine lv_aload_n hx hb dX10_since_0 rfl (lv_at hl 0 rfl) ?_
  refine lv_iload_n hx hb dX10_since_1 rfl (lv_at hl 1 rfl) ?_
  refine x_roVi (As := [.int p0]) S hK hP hDW hZ hAB hBA hS hA hl mwX10_isHead lkX10_135 (ctX10_isHead l D k z o glines ghours glaw godds grows gheads gsayings gslugs gacts p0 (by omega) (by omega) (by omega) (by omega) (by omega) (by omega)) [0, 8] rfl (by decide) rfl rfl rfl rfl rfl ⟨Nat.le_of_ble_eq_true rfl, Nat.le_of_ble_eq_true rfl, Nat.le_of_ble_eq_true rfl⟩ dX10_since_2 ⟨Nat.le_of_ble_eq_true rfl, Nat.le_of_ble_eq_true rfl⟩ (fun r_1 H locs hr_1 hP hS => ?_)
  have hp_3 := hr_1
  refine lv_if_eq (tgt := 19) hx hb dX10_since_5 (by decide) (fun c_4 => ?_) (fun c_4 => ?_)
  · skip
    refine lv_bipush (v := (-2)) hx hb dX10_since_19 (by decide) ?_
    exact x_reti S hr hlk hQ hS () trivial x_T dX10_since_21
  · skip
    obtain ⟨n_5, rfl, hn_5⟩ := hp_3.resolve_left c_4
    refine lv_aload_n hx hb dX10_since_8 rfl (lv_at hl 0 rfl) ?_
    refine x_get S hK hP 0 rfl cfX10 6 lkX10_50 (by decide) rfl dX10_since_9 ?_
    refine lv_iload_n hx hb dX10_since_12 rfl (lv_at hl 1 rfl) ?_
    refine x_roVi (As := [.int (nI n_5)]) S hK hP hDW hZ hAB hBA hS hA hl mwX7_steadySince lkX10_253 (ctX7_steadySince l D k z o clawNow charder ctold creply cwet f72 f69 f70 f71 glines ghours glaw godds grows gheads gsayings gslugs gacts f26 f29 f30 f31 f32 (nI n_5) (by omega) (by omega) (by omega) (by omega) (by omega) (by omega)) [1, 2, 3, 4, 5, 6, 7, 8, 9, 10, 11, 12, 13] rfl (by decide) rfl rfl rfl rfl rfl ⟨Nat.le_of_ble_eq_true rfl, Nat.le_of_ble_eq_true rfl, Nat.le_of_ble_eq_true rfl⟩ dX10_since_13 ⟨Nat.le_of_ble_eq_true rfl, Nat.le_of_ble_eq_true rfl⟩ (fun r_6 H locs hr_6 hP hS => ?_)
    refine lv_goto (tgt := 21) hx hb dX10_since_16 (by decide) ?_
    exact x_reti S hr hlk hQ hS () trivial x_T dX10_since_21

set_option maxHeartbeats 4000000 in
set_option maxRecDepth 100000 in
theorem ctX10_held (l : Launch) (D : va_G) (k : Nat → ClassId) (z : Nat → Nat) (o : Nat → Nat) (clawNow : Int32) (charder : Int32) (ctold : Int32) (creply : Int32) (cwet : Int32) (f72 : Nat → Int32) (f69 : Nat → Int32) (f70 : Nat → Int32) (f71 : Nat → Int32) (glines : Int32) (ghours : Nat) (glaw : Int32) (godds : Int32) (grows : Nat) (gheads : Nat) (gsayings : Nat) (gslugs : Nat) (gacts : Nat) (f26 : Nat → Int32) (f29 : Nat → Int32) (f30 : Nat → Int32) (f31 : Nat → Int32) (f32 : Nat → Int32) (p0 : Int32) (hghours : ghours ≤ 16) (hgrows : grows ≤ 4) (hgheads : gheads ≤ 12) (hgsayings : gsayings ≤ 8) (hgslugs : gslugs ≤ 4) (hgacts : gacts ≤ 30) : RO l yX10_held cX10_held 2 (some .int) 3 D k z [.ref (o 0), .int p0] [((o 0), .inr (10, [.ref (o 1), .ref (o 2), .ref (o 3), .ref (o 4), .ref (o 5), .ref (o 6), .ref (o 7), .ref (o 8), .ref (o 9), .ref (o 10), .ref (o 11), .ref (o 12), .ref (o 13), .ref (o 14)])), ((o 7), .inr (7, [.ref (o 3), .ref (o 4), .ref (o 5)])), ((o 5), .inr (1, [.ref (o 3), .ref (o 4), .int clawNow, .int charder, .int ctold, .int creply, .int cwet, .ref (o 72)])), ((o 72), .inl (k 0, 17, .inl f72)), ((o 4), .inr (3, [.ref (o 69), .ref (o 70), .ref (o 71)])), ((o 69), .inl (k 0, 17, .inl f69)), ((o 70), .inl (k 0, 17, .inl f70)), ((o 71), .inl (k 0, 17, .inl f71)), ((o 3), .inr (2, [.int glines, .int (nI ghours), .int glaw, .int godds, .int (nI grows), .int (nI gheads), .int (nI gsayings), .int (nI gslugs), .int (nI gacts), .ref (o 26), .ref (o 27), .ref (o 28), .ref (o 29), .ref (o 30), .ref (o 31), .ref (o 32), .ref (o 33), .ref (o 34), .ref (o 35)])), ((o 26), .inl (k 0, 12, .inl f26)), ((o 29), .inl (k 0, 12, .inl f29)), ((o 30), .inl (k 0, 12, .inl f30)), ((o 31), .inl (k 0, 12, .inl f31)), ((o 32), .inl (k 0, 4, .inl f32))] (Qi (fun r : Int32 => True)) := by
  refine RO.of (by decide) (Nat.le_of_ble_eq_true rfl) ?_
  intro p e s m below meth c ls A B args Q S hr hlk hQ hK hP hDW hZ hAB hBA hA hS hl
  have hx := S.1
  have hb := S.2.1
  have hl : lv_has ls 2 [(0, .ref (o 0)), (1, .int p0)] := hl
  refine lv_aload_n hx hb dX10_held_0 rfl (lv_at hl 0 rfl) ?_
  refine lv_iload_n hx hb dX10_held_1 rfl (lv_at hl 1 rfl) ?_
  refine x_roVi (As := [.int p0]) S hK hP hDW hZ hAB hBA hS hA hl mwX10_isHead lkX10_135 (ctX10_isHead l D k z o glines ghours glaw godds grows gheads gsayings gslugs gacts p0 (by omega) (by omega) (by omega) (by omega) (by omega) (by omega)) [0, 8] rfl (by decide) rfl rfl rfl rfl rfl ⟨Nat.le_of_ble_eq_true rfl, Nat.le_of_ble_eq_true rfl, Nat.le_of_ble_eq_true rfl⟩ dX10_held_2 ⟨Nat.le_of_ble_eq_true rfl, Nat.le_of_ble_eq_true rfl⟩ (fun r_1 H locs hr_1 hP hS => ?_)
  have hp_3 := hr_1
  refine lv_if_eq (tgt := 19) hx hb dX10_held_5 (by decide) (fun c_4 => ?_) (fun c_4 => ?_)
  · skip
    refine lv_bipush (v := (-2)) hx hb dX10_held_19 (by decide) ?_
    exact x_reti S hr hlk hQ hS () trivial x_T dX10_held_21
  · skip
    obtain ⟨n_5, rfl, hn_5⟩ := hp_3.resolve_left c_4
    refine lv_aload_n hx hb dX10_held_8 rfl (lv_at hl 0 rfl) ?_
    refine x_get S hK hP 0 rfl cfX10 6 lkX10_50 (by decide) rfl dX10_held_9 ?_
    refine lv_iload_n hx hb dX10_held_12 rfl (lv_at hl 1 rfl) ?_
    refine x_roVi (As := [.int (nI n_5)]) S hK hP hDW hZ hAB hBA hS hA hl mwX7_longestHeld lkX10_256 (ctX7_longestHeld l D k z o clawNow charder ctold creply cwet f72 f69 f70 f71 glines ghours glaw godds grows gheads gsayings gslugs gacts f26 f29 f30 f31 f32 (nI n_5) (by omega) (by omega) (by omega) (by omega) (by omega) (by omega)) [1, 2, 3, 4, 5, 6, 7, 8, 9, 10, 11, 12, 13] rfl (by decide) rfl rfl rfl rfl rfl ⟨Nat.le_of_ble_eq_true rfl, Nat.le_of_ble_eq_true rfl, Nat.le_of_ble_eq_true rfl⟩ dX10_held_13 ⟨Nat.le_of_ble_eq_true rfl, Nat.le_of_ble_eq_true rfl⟩ (fun r_6 H locs hr_6 hP hS => ?_)
    refine lv_goto (tgt := 21) hx hb dX10_held_16 (by decide) ?_
    exact x_reti S hr hlk hQ hS () trivial x_T dX10_held_21

set_option maxHeartbeats 4000000 in
set_option maxRecDepth 100000 in
theorem ctX10_hush (l : Launch) (D : va_G) (k : Nat → ClassId) (z : Nat → Nat) (o : Nat → Nat) (clawNow : Int32) (charder : Int32) (ctold : Int32) (creply : Int32) (cwet : Int32) (f72 : Nat → Int32) (f69 : Nat → Int32) (f70 : Nat → Int32) (f71 : Nat → Int32) (glines : Int32) (ghours : Nat) (glaw : Int32) (godds : Int32) (grows : Nat) (gheads : Nat) (gsayings : Nat) (gslugs : Nat) (gacts : Nat) (f26 : Nat → Int32) (f29 : Nat → Int32) (f30 : Nat → Int32) (f31 : Nat → Int32) (f32 : Nat → Int32) (p0 : Int32) (hghours : ghours ≤ 16) (hgrows : grows ≤ 4) (hgheads : gheads ≤ 12) (hgsayings : gsayings ≤ 8) (hgslugs : gslugs ≤ 4) (hgacts : gacts ≤ 30) : RO l yX10_hush cX10_hush 2 (some .int) 4 D k z [.ref (o 0), .int p0] [((o 0), .inr (10, [.ref (o 1), .ref (o 2), .ref (o 3), .ref (o 4), .ref (o 5), .ref (o 6), .ref (o 7), .ref (o 8), .ref (o 9), .ref (o 10), .ref (o 11), .ref (o 12), .ref (o 13), .ref (o 14)])), ((o 7), .inr (7, [.ref (o 3), .ref (o 4), .ref (o 5)])), ((o 5), .inr (1, [.ref (o 3), .ref (o 4), .int clawNow, .int charder, .int ctold, .int creply, .int cwet, .ref (o 72)])), ((o 72), .inl (k 0, 17, .inl f72)), ((o 4), .inr (3, [.ref (o 69), .ref (o 70), .ref (o 71)])), ((o 69), .inl (k 0, 17, .inl f69)), ((o 70), .inl (k 0, 17, .inl f70)), ((o 71), .inl (k 0, 17, .inl f71)), ((o 3), .inr (2, [.int glines, .int (nI ghours), .int glaw, .int godds, .int (nI grows), .int (nI gheads), .int (nI gsayings), .int (nI gslugs), .int (nI gacts), .ref (o 26), .ref (o 27), .ref (o 28), .ref (o 29), .ref (o 30), .ref (o 31), .ref (o 32), .ref (o 33), .ref (o 34), .ref (o 35)])), ((o 26), .inl (k 0, 12, .inl f26)), ((o 29), .inl (k 0, 12, .inl f29)), ((o 30), .inl (k 0, 12, .inl f30)), ((o 31), .inl (k 0, 12, .inl f31)), ((o 32), .inl (k 0, 4, .inl f32))] (Qi (fun r : Int32 => True)) := by
  refine RO.of (by decide) (Nat.le_of_ble_eq_true rfl) ?_
  intro p e s m below meth c ls A B args Q S hr hlk hQ hK hP hDW hZ hAB hBA hA hS hl
  have hx := S.1
  have hb := S.2.1
  have hl : lv_has ls 2 [(0, .ref (o 0)), (1, .int p0)] := hl
  refine lv_aload_n hx hb dX10_hush_0 rfl (lv_at hl 0 rfl) ?_
  refine lv_iload_n hx hb dX10_hush_1 rfl (lv_at hl 1 rfl) ?_
  refine x_roVi (As := [.int p0]) S hK hP hDW hZ hAB hBA hS hA hl mwX10_isHour lkX10_161 (ctX10_isHour l D k z o glines ghours glaw godds grows gheads gsayings gslugs gacts p0 (by omega) (by omega) (by omega) (by omega) (by omega) (by omega)) [0, 8] rfl (by decide) rfl rfl rfl rfl rfl ⟨Nat.le_of_ble_eq_true rfl, Nat.le_of_ble_eq_true rfl, Nat.le_of_ble_eq_true rfl⟩ dX10_hush_2 ⟨Nat.le_of_ble_eq_true rfl, Nat.le_of_ble_eq_true rfl⟩ (fun r_1 H locs hr_1 hP hS => ?_)
  have hp_3 := hr_1
  refine lv_if_eq (tgt := 19) hx hb dX10_hush_5 (by decide) (fun c_4 => ?_) (fun c_4 => ?_)
  · skip
    refine lv_bipush (v := (-2)) hx hb dX10_hush_19 (by decide) ?_
    exact x_reti S hr hlk hQ hS () trivial x_T dX10_hush_21
  · skip
    obtain ⟨n_5, rfl, hn_5⟩ := hp_3.resolve_left c_4
    refine lv_aload_n hx hb dX10_hush_8 rfl (lv_at hl 0 rfl) ?_
    refine x_get S hK hP 0 rfl cfX10 6 lkX10_50 (by decide) rfl dX10_hush_9 ?_
    refine lv_iload_n hx hb dX10_hush_12 rfl (lv_at hl 1 rfl) ?_
    refine x_roVi (As := [.int (nI n_5)]) S hK hP hDW hZ hAB hBA hS hA hl mwX7_hushAt lkX10_259 (ctX7_hushAt l D k z o clawNow charder ctold creply cwet f72 f69 f70 f71 glines ghours glaw godds grows gheads gsayings gslugs gacts f26 f29 f30 f31 f32 n_5 (by omega) (by omega) (by omega) (by omega) (by omega) (by omega) (by omega)) [1, 2, 3, 4, 5, 6, 7, 8, 9, 10, 11, 12, 13] rfl (by decide) rfl rfl rfl rfl rfl ⟨Nat.le_of_ble_eq_true rfl, Nat.le_of_ble_eq_true rfl, Nat.le_of_ble_eq_true rfl⟩ dX10_hush_13 ⟨Nat.le_of_ble_eq_true rfl, Nat.le_of_ble_eq_true rfl⟩ (fun r_6 H locs hr_6 hP hS => ?_)
    refine lv_goto (tgt := 21) hx hb dX10_hush_16 (by decide) ?_
    exact x_reti S hr hlk hQ hS () trivial x_T dX10_hush_21

set_option maxHeartbeats 4000000 in
set_option maxRecDepth 100000 in
theorem ctX10_lonely (l : Launch) (D : va_G) (k : Nat → ClassId) (z : Nat → Nat) (o : Nat → Nat) (clawNow : Int32) (charder : Int32) (ctold : Int32) (creply : Int32) (cwet : Int32) (f72 : Nat → Int32) (f69 : Nat → Int32) (f70 : Nat → Int32) (f71 : Nat → Int32) (glines : Int32) (ghours : Nat) (glaw : Int32) (godds : Int32) (grows : Nat) (gheads : Nat) (gsayings : Nat) (gslugs : Nat) (gacts : Nat) (f26 : Nat → Int32) (f29 : Nat → Int32) (f30 : Nat → Int32) (f31 : Nat → Int32) (f32 : Nat → Int32) (p0 : Int32) (hghours : ghours ≤ 16) (hgrows : grows ≤ 4) (hgheads : gheads ≤ 12) (hgsayings : gsayings ≤ 8) (hgslugs : gslugs ≤ 4) (hgacts : gacts ≤ 30) : RO l yX10_lonely cX10_lonely 2 (some .int) 4 D k z [.ref (o 0), .int p0] [((o 0), .inr (10, [.ref (o 1), .ref (o 2), .ref (o 3), .ref (o 4), .ref (o 5), .ref (o 6), .ref (o 7), .ref (o 8), .ref (o 9), .ref (o 10), .ref (o 11), .ref (o 12), .ref (o 13), .ref (o 14)])), ((o 7), .inr (7, [.ref (o 3), .ref (o 4), .ref (o 5)])), ((o 5), .inr (1, [.ref (o 3), .ref (o 4), .int clawNow, .int charder, .int ctold, .int creply, .int cwet, .ref (o 72)])), ((o 72), .inl (k 0, 17, .inl f72)), ((o 4), .inr (3, [.ref (o 69), .ref (o 70), .ref (o 71)])), ((o 69), .inl (k 0, 17, .inl f69)), ((o 70), .inl (k 0, 17, .inl f70)), ((o 71), .inl (k 0, 17, .inl f71)), ((o 3), .inr (2, [.int glines, .int (nI ghours), .int glaw, .int godds, .int (nI grows), .int (nI gheads), .int (nI gsayings), .int (nI gslugs), .int (nI gacts), .ref (o 26), .ref (o 27), .ref (o 28), .ref (o 29), .ref (o 30), .ref (o 31), .ref (o 32), .ref (o 33), .ref (o 34), .ref (o 35)])), ((o 26), .inl (k 0, 12, .inl f26)), ((o 29), .inl (k 0, 12, .inl f29)), ((o 30), .inl (k 0, 12, .inl f30)), ((o 31), .inl (k 0, 12, .inl f31)), ((o 32), .inl (k 0, 4, .inl f32))] (Qi (fun r : Int32 => True)) := by
  refine RO.of (by decide) (Nat.le_of_ble_eq_true rfl) ?_
  intro p e s m below meth c ls A B args Q S hr hlk hQ hK hP hDW hZ hAB hBA hA hS hl
  have hx := S.1
  have hb := S.2.1
  have hl : lv_has ls 2 [(0, .ref (o 0)), (1, .int p0)] := hl
  refine lv_aload_n hx hb dX10_lonely_0 rfl (lv_at hl 0 rfl) ?_
  refine lv_iload_n hx hb dX10_lonely_1 rfl (lv_at hl 1 rfl) ?_
  refine x_roVi (As := [.int p0]) S hK hP hDW hZ hAB hBA hS hA hl mwX10_isHour lkX10_161 (ctX10_isHour l D k z o glines ghours glaw godds grows gheads gsayings gslugs gacts p0 (by omega) (by omega) (by omega) (by omega) (by omega) (by omega)) [0, 8] rfl (by decide) rfl rfl rfl rfl rfl ⟨Nat.le_of_ble_eq_true rfl, Nat.le_of_ble_eq_true rfl, Nat.le_of_ble_eq_true rfl⟩ dX10_lonely_2 ⟨Nat.le_of_ble_eq_true rfl, Nat.le_of_ble_eq_true rfl⟩ (fun r_1 H locs hr_1 hP hS => ?_)
  have hp_3 := hr_1
  refine lv_if_eq (tgt := 19) hx hb dX10_lonely_5 (by decide) (fun c_4 => ?_) (fun c_4 => ?_)
  · skip
    refine lv_bipush (v := (-2)) hx hb dX10_lonely_19 (by decide) ?_
    exact x_reti S hr hlk hQ hS () trivial x_T dX10_lonely_21
  · skip
    obtain ⟨n_5, rfl, hn_5⟩ := hp_3.resolve_left c_4
    refine lv_aload_n hx hb dX10_lonely_8 rfl (lv_at hl 0 rfl) ?_
    refine x_get S hK hP 0 rfl cfX10 6 lkX10_50 (by decide) rfl dX10_lonely_9 ?_
    refine lv_iload_n hx hb dX10_lonely_12 rfl (lv_at hl 1 rfl) ?_
    refine x_roVi (As := [.int (nI n_5)]) S hK hP hDW hZ hAB hBA hS hA hl mwX7_lonelyAt lkX10_262 (ctX7_lonelyAt l D k z o clawNow charder ctold creply cwet f72 f69 f70 f71 glines ghours glaw godds grows gheads gsayings gslugs gacts f26 f29 f30 f31 f32 n_5 (by omega) (by omega) (by omega) (by omega) (by omega) (by omega) (by omega)) [1, 2, 3, 4, 5, 6, 7, 8, 9, 10, 11, 12, 13] rfl (by decide) rfl rfl rfl rfl rfl ⟨Nat.le_of_ble_eq_true rfl, Nat.le_of_ble_eq_true rfl, Nat.le_of_ble_eq_true rfl⟩ dX10_lonely_13 ⟨Nat.le_of_ble_eq_true rfl, Nat.le_of_ble_eq_true rfl⟩ (fun r_6 H locs hr_6 hP hS => ?_)
    refine lv_goto (tgt := 21) hx hb dX10_lonely_16 (by decide) ?_
    exact x_reti S hr hlk hQ hS () trivial x_T dX10_lonely_21

set_option maxHeartbeats 4000000 in
set_option maxRecDepth 100000 in
theorem ctX10_quarrels (l : Launch) (D : va_G) (k : Nat → ClassId) (z : Nat → Nat) (o : Nat → Nat) (clawNow : Int32) (charder : Int32) (ctold : Int32) (creply : Int32) (cwet : Int32) (f72 : Nat → Int32) (f69 : Nat → Int32) (f70 : Nat → Int32) (f71 : Nat → Int32) (glines : Int32) (ghours : Nat) (glaw : Int32) (godds : Int32) (grows : Nat) (gheads : Nat) (gsayings : Nat) (gslugs : Nat) (gacts : Nat) (f26 : Nat → Int32) (f29 : Nat → Int32) (f30 : Nat → Int32) (f31 : Nat → Int32) (f32 : Nat → Int32) (p0 : Int32) (hghours : ghours ≤ 16) (hgrows : grows ≤ 4) (hgheads : gheads ≤ 12) (hgsayings : gsayings ≤ 8) (hgslugs : gslugs ≤ 4) (hgacts : gacts ≤ 30) : RO l yX10_quarrels cX10_quarrels 2 (some .int) 4 D k z [.ref (o 0), .int p0] [((o 0), .inr (10, [.ref (o 1), .ref (o 2), .ref (o 3), .ref (o 4), .ref (o 5), .ref (o 6), .ref (o 7), .ref (o 8), .ref (o 9), .ref (o 10), .ref (o 11), .ref (o 12), .ref (o 13), .ref (o 14)])), ((o 7), .inr (7, [.ref (o 3), .ref (o 4), .ref (o 5)])), ((o 5), .inr (1, [.ref (o 3), .ref (o 4), .int clawNow, .int charder, .int ctold, .int creply, .int cwet, .ref (o 72)])), ((o 72), .inl (k 0, 17, .inl f72)), ((o 4), .inr (3, [.ref (o 69), .ref (o 70), .ref (o 71)])), ((o 69), .inl (k 0, 17, .inl f69)), ((o 70), .inl (k 0, 17, .inl f70)), ((o 71), .inl (k 0, 17, .inl f71)), ((o 3), .inr (2, [.int glines, .int (nI ghours), .int glaw, .int godds, .int (nI grows), .int (nI gheads), .int (nI gsayings), .int (nI gslugs), .int (nI gacts), .ref (o 26), .ref (o 27), .ref (o 28), .ref (o 29), .ref (o 30), .ref (o 31), .ref (o 32), .ref (o 33), .ref (o 34), .ref (o 35)])), ((o 26), .inl (k 0, 12, .inl f26)), ((o 29), .inl (k 0, 12, .inl f29)), ((o 30), .inl (k 0, 12, .inl f30)), ((o 31), .inl (k 0, 12, .inl f31)), ((o 32), .inl (k 0, 4, .inl f32))] (Qi (fun r : Int32 => True)) := by
  refine RO.of (by decide) (Nat.le_of_ble_eq_true rfl) ?_
  intro p e s m below meth c ls A B args Q S hr hlk hQ hK hP hDW hZ hAB hBA hA hS hl
  have hx := S.1
  have hb := S.2.1
  have hl : lv_has ls 2 [(0, .ref (o 0)), (1, .int p0)] := hl
  refine lv_aload_n hx hb dX10_quarrels_0 rfl (lv_at hl 0 rfl) ?_
  refine lv_iload_n hx hb dX10_quarrels_1 rfl (lv_at hl 1 rfl) ?_
  refine x_roVi (As := [.int p0]) S hK hP hDW hZ hAB hBA hS hA hl mwX10_isHour lkX10_161 (ctX10_isHour l D k z o glines ghours glaw godds grows gheads gsayings gslugs gacts p0 (by omega) (by omega) (by omega) (by omega) (by omega) (by omega)) [0, 8] rfl (by decide) rfl rfl rfl rfl rfl ⟨Nat.le_of_ble_eq_true rfl, Nat.le_of_ble_eq_true rfl, Nat.le_of_ble_eq_true rfl⟩ dX10_quarrels_2 ⟨Nat.le_of_ble_eq_true rfl, Nat.le_of_ble_eq_true rfl⟩ (fun r_1 H locs hr_1 hP hS => ?_)
  have hp_3 := hr_1
  refine lv_if_eq (tgt := 19) hx hb dX10_quarrels_5 (by decide) (fun c_4 => ?_) (fun c_4 => ?_)
  · skip
    refine lv_bipush (v := (-2)) hx hb dX10_quarrels_19 (by decide) ?_
    exact x_reti S hr hlk hQ hS () trivial x_T dX10_quarrels_21
  · skip
    obtain ⟨n_5, rfl, hn_5⟩ := hp_3.resolve_left c_4
    refine lv_aload_n hx hb dX10_quarrels_8 rfl (lv_at hl 0 rfl) ?_
    refine x_get S hK hP 0 rfl cfX10 6 lkX10_50 (by decide) rfl dX10_quarrels_9 ?_
    refine lv_iload_n hx hb dX10_quarrels_12 rfl (lv_at hl 1 rfl) ?_
    refine x_roVi (As := [.int (nI n_5)]) S hK hP hDW hZ hAB hBA hS hA hl mwX7_quarrelsAt lkX10_265 (ctX7_quarrelsAt l D k z o clawNow charder ctold creply cwet f72 f69 f70 f71 glines ghours glaw godds grows gheads gsayings gslugs gacts f26 f29 f30 f31 f32 n_5 (by omega) (by omega) (by omega) (by omega) (by omega) (by omega) (by omega)) [1, 2, 3, 4, 5, 6, 7, 8, 9, 10, 11, 12, 13] rfl (by decide) rfl rfl rfl rfl rfl ⟨Nat.le_of_ble_eq_true rfl, Nat.le_of_ble_eq_true rfl, Nat.le_of_ble_eq_true rfl⟩ dX10_quarrels_13 ⟨Nat.le_of_ble_eq_true rfl, Nat.le_of_ble_eq_true rfl⟩ (fun r_6 H locs hr_6 hP hS => ?_)
    refine lv_goto (tgt := 21) hx hb dX10_quarrels_16 (by decide) ?_
    exact x_reti S hr hlk hQ hS () trivial x_T dX10_quarrels_21

set_option maxHeartbeats 4000000 in
set_option maxRecDepth 100000 in
theorem ctX10_never (l : Launch) (D : va_G) (k : Nat → ClassId) (z : Nat → Nat) (o : Nat → Nat) (clawNow : Int32) (charder : Int32) (ctold : Int32) (creply : Int32) (cwet : Int32) (f72 : Nat → Int32) (f69 : Nat → Int32) (f70 : Nat → Int32) (f71 : Nat → Int32) (glines : Int32) (ghours : Nat) (glaw : Int32) (godds : Int32) (grows : Nat) (gheads : Nat) (gsayings : Nat) (gslugs : Nat) (gacts : Nat) (f26 : Nat → Int32) (f29 : Nat → Int32) (f30 : Nat → Int32) (f31 : Nat → Int32) (f32 : Nat → Int32) (p0 : Int32) (hghours : ghours ≤ 16) (hgrows : grows ≤ 4) (hgheads : gheads ≤ 12) (hgsayings : gsayings ≤ 8) (hgslugs : gslugs ≤ 4) (hgacts : gacts ≤ 30) : RO l yX10_never cX10_never 2 (some .int) 4 D k z [.ref (o 0), .int p0] [((o 0), .inr (10, [.ref (o 1), .ref (o 2), .ref (o 3), .ref (o 4), .ref (o 5), .ref (o 6), .ref (o 7), .ref (o 8), .ref (o 9), .ref (o 10), .ref (o 11), .ref (o 12), .ref (o 13), .ref (o 14)])), ((o 7), .inr (7, [.ref (o 3), .ref (o 4), .ref (o 5)])), ((o 5), .inr (1, [.ref (o 3), .ref (o 4), .int clawNow, .int charder, .int ctold, .int creply, .int cwet, .ref (o 72)])), ((o 72), .inl (k 0, 17, .inl f72)), ((o 4), .inr (3, [.ref (o 69), .ref (o 70), .ref (o 71)])), ((o 69), .inl (k 0, 17, .inl f69)), ((o 70), .inl (k 0, 17, .inl f70)), ((o 71), .inl (k 0, 17, .inl f71)), ((o 3), .inr (2, [.int glines, .int (nI ghours), .int glaw, .int godds, .int (nI grows), .int (nI gheads), .int (nI gsayings), .int (nI gslugs), .int (nI gacts), .ref (o 26), .ref (o 27), .ref (o 28), .ref (o 29), .ref (o 30), .ref (o 31), .ref (o 32), .ref (o 33), .ref (o 34), .ref (o 35)])), ((o 26), .inl (k 0, 12, .inl f26)), ((o 29), .inl (k 0, 12, .inl f29)), ((o 30), .inl (k 0, 12, .inl f30)), ((o 31), .inl (k 0, 12, .inl f31)), ((o 32), .inl (k 0, 4, .inl f32))] (Qi (fun r : Int32 => True)) := by
  refine RO.of (by decide) (Nat.le_of_ble_eq_true rfl) ?_
  intro p e s m below meth c ls A B args Q S hr hlk hQ hK hP hDW hZ hAB hBA hA hS hl
  have hx := S.1
  have hb := S.2.1
  have hl : lv_has ls 2 [(0, .ref (o 0)), (1, .int p0)] := hl
  refine lv_aload_n hx hb dX10_never_0 rfl (lv_at hl 0 rfl) ?_
  refine x_roVi (As := []) S hK hP hDW hZ hAB hBA hS hA hl mwX10_isGarden lkX10_196 (ctX10_isGarden l D k z o glines ghours glaw godds grows gheads gsayings gslugs gacts (by omega) (by omega) (by omega) (by omega) (by omega) (by omega)) [0, 8] rfl (by decide) rfl rfl rfl rfl rfl ⟨Nat.le_of_ble_eq_true rfl, Nat.le_of_ble_eq_true rfl, Nat.le_of_ble_eq_true rfl⟩ dX10_never_1 ⟨Nat.le_of_ble_eq_true rfl, Nat.le_of_ble_eq_true rfl⟩ (fun r_1 H locs hr_1 hP hS => ?_)
  refine lv_if_eq (tgt := 25) hx hb dX10_never_4 (by decide) (fun c_3 => ?_) (fun c_3 => ?_)
  · skip
    refine lv_bipush (v := (-2)) hx hb dX10_never_25 (by decide) ?_
    exact x_reti S hr hlk hQ hS () trivial x_T dX10_never_27
  · skip
    refine lv_iload_n hx hb dX10_never_7 rfl (lv_at hl 1 rfl) ?_
    refine x_roSi (As := [.int p0]) S hK hP hDW hZ hAB hBA hS hA hl mwX10_isView lkX10_184 (ctX10_isView l D k z p0 ) [] rfl (by decide) rfl rfl ⟨Nat.le_of_ble_eq_true rfl, Nat.le_of_ble_eq_true rfl, Nat.le_of_ble_eq_true rfl⟩ dX10_never_8 ⟨Nat.le_of_ble_eq_true rfl, Nat.le_of_ble_eq_true rfl⟩ (fun r_4 H locs hr_4 hP hS => ?_)
    have hp_6 := hr_4
    refine lv_if_eq (tgt := 25) hx hb dX10_never_11 (by decide) (fun c_7 => ?_) (fun c_7 => ?_)
    · skip
      refine lv_bipush (v := (-2)) hx hb dX10_never_25 (by decide) ?_
      exact x_reti S hr hlk hQ hS () trivial x_T dX10_never_27
    · skip
      obtain ⟨n_8, rfl, hn_8⟩ := hp_6.resolve_left c_7
      refine lv_aload_n hx hb dX10_never_14 rfl (lv_at hl 0 rfl) ?_
      refine x_get S hK hP 0 rfl cfX10 6 lkX10_50 (by decide) rfl dX10_never_15 ?_
      refine lv_iload_n hx hb dX10_never_18 rfl (lv_at hl 1 rfl) ?_
      refine x_roVi (As := [.int (nI n_8)]) S hK hP hDW hZ hAB hBA hS hA hl mwX7_neverHeld lkX10_268 (ctX7_neverHeld l D k z o clawNow charder ctold creply cwet f72 f69 f70 f71 glines ghours glaw godds grows gheads gsayings gslugs gacts f26 f29 f30 f31 f32 (nI n_8) (by omega) (by omega) (by omega) (by omega) (by omega) (by omega)) [1, 2, 3, 4, 5, 6, 7, 8, 9, 10, 11, 12, 13] rfl (by decide) rfl rfl rfl rfl rfl ⟨Nat.le_of_ble_eq_true rfl, Nat.le_of_ble_eq_true rfl, Nat.le_of_ble_eq_true rfl⟩ dX10_never_19 ⟨Nat.le_of_ble_eq_true rfl, Nat.le_of_ble_eq_true rfl⟩ (fun r_9 H locs hr_9 hP hS => ?_)
      refine lv_goto (tgt := 27) hx hb dX10_never_22 (by decide) ?_
      exact x_reti S hr hlk hQ hS () trivial x_T dX10_never_27

set_option maxHeartbeats 4000000 in
set_option maxRecDepth 100000 in
theorem ctX10_most (l : Launch) (D : va_G) (k : Nat → ClassId) (z : Nat → Nat) (o : Nat → Nat) (clawNow : Int32) (charder : Int32) (ctold : Int32) (creply : Int32) (cwet : Int32) (f72 : Nat → Int32) (f69 : Nat → Int32) (f70 : Nat → Int32) (f71 : Nat → Int32) (glines : Int32) (ghours : Nat) (glaw : Int32) (godds : Int32) (grows : Nat) (gheads : Nat) (gsayings : Nat) (gslugs : Nat) (gacts : Nat) (f26 : Nat → Int32) (f29 : Nat → Int32) (f30 : Nat → Int32) (f31 : Nat → Int32) (f32 : Nat → Int32) (p0 : Int32) (hghours : ghours ≤ 16) (hgrows : grows ≤ 4) (hgheads : gheads ≤ 12) (hgsayings : gsayings ≤ 8) (hgslugs : gslugs ≤ 4) (hgacts : gacts ≤ 30) : RO l yX10_most cX10_most 2 (some .int) 4 D k z [.ref (o 0), .int p0] [((o 0), .inr (10, [.ref (o 1), .ref (o 2), .ref (o 3), .ref (o 4), .ref (o 5), .ref (o 6), .ref (o 7), .ref (o 8), .ref (o 9), .ref (o 10), .ref (o 11), .ref (o 12), .ref (o 13), .ref (o 14)])), ((o 7), .inr (7, [.ref (o 3), .ref (o 4), .ref (o 5)])), ((o 5), .inr (1, [.ref (o 3), .ref (o 4), .int clawNow, .int charder, .int ctold, .int creply, .int cwet, .ref (o 72)])), ((o 72), .inl (k 0, 17, .inl f72)), ((o 4), .inr (3, [.ref (o 69), .ref (o 70), .ref (o 71)])), ((o 69), .inl (k 0, 17, .inl f69)), ((o 70), .inl (k 0, 17, .inl f70)), ((o 71), .inl (k 0, 17, .inl f71)), ((o 3), .inr (2, [.int glines, .int (nI ghours), .int glaw, .int godds, .int (nI grows), .int (nI gheads), .int (nI gsayings), .int (nI gslugs), .int (nI gacts), .ref (o 26), .ref (o 27), .ref (o 28), .ref (o 29), .ref (o 30), .ref (o 31), .ref (o 32), .ref (o 33), .ref (o 34), .ref (o 35)])), ((o 26), .inl (k 0, 12, .inl f26)), ((o 29), .inl (k 0, 12, .inl f29)), ((o 30), .inl (k 0, 12, .inl f30)), ((o 31), .inl (k 0, 12, .inl f31)), ((o 32), .inl (k 0, 4, .inl f32))] (Qi (fun r : Int32 => True)) := by
  refine RO.of (by decide) (Nat.le_of_ble_eq_true rfl) ?_
  intro p e s m below meth c ls A B args Q S hr hlk hQ hK hP hDW hZ hAB hBA hA hS hl
  have hx := S.1
  have hb := S.2.1
  have hl : lv_has ls 2 [(0, .ref (o 0)), (1, .int p0)] := hl
  refine lv_aload_n hx hb dX10_most_0 rfl (lv_at hl 0 rfl) ?_
  refine x_roVi (As := []) S hK hP hDW hZ hAB hBA hS hA hl mwX10_isGarden lkX10_196 (ctX10_isGarden l D k z o glines ghours glaw godds grows gheads gsayings gslugs gacts (by omega) (by omega) (by omega) (by omega) (by omega) (by omega)) [0, 8] rfl (by decide) rfl rfl rfl rfl rfl ⟨Nat.le_of_ble_eq_true rfl, Nat.le_of_ble_eq_true rfl, Nat.le_of_ble_eq_true rfl⟩ dX10_most_1 ⟨Nat.le_of_ble_eq_true rfl, Nat.le_of_ble_eq_true rfl⟩ (fun r_1 H locs hr_1 hP hS => ?_)
  refine lv_if_eq (tgt := 25) hx hb dX10_most_4 (by decide) (fun c_3 => ?_) (fun c_3 => ?_)
  · skip
    refine lv_bipush (v := (-2)) hx hb dX10_most_25 (by decide) ?_
    exact x_reti S hr hlk hQ hS () trivial x_T dX10_most_27
  · skip
    refine lv_iload_n hx hb dX10_most_7 rfl (lv_at hl 1 rfl) ?_
    refine x_roSi (As := [.int p0]) S hK hP hDW hZ hAB hBA hS hA hl mwX10_isView lkX10_184 (ctX10_isView l D k z p0 ) [] rfl (by decide) rfl rfl ⟨Nat.le_of_ble_eq_true rfl, Nat.le_of_ble_eq_true rfl, Nat.le_of_ble_eq_true rfl⟩ dX10_most_8 ⟨Nat.le_of_ble_eq_true rfl, Nat.le_of_ble_eq_true rfl⟩ (fun r_4 H locs hr_4 hP hS => ?_)
    have hp_6 := hr_4
    refine lv_if_eq (tgt := 25) hx hb dX10_most_11 (by decide) (fun c_7 => ?_) (fun c_7 => ?_)
    · skip
      refine lv_bipush (v := (-2)) hx hb dX10_most_25 (by decide) ?_
      exact x_reti S hr hlk hQ hS () trivial x_T dX10_most_27
    · skip
      obtain ⟨n_8, rfl, hn_8⟩ := hp_6.resolve_left c_7
      refine lv_aload_n hx hb dX10_most_14 rfl (lv_at hl 0 rfl) ?_
      refine x_get S hK hP 0 rfl cfX10 6 lkX10_50 (by decide) rfl dX10_most_15 ?_
      refine lv_iload_n hx hb dX10_most_18 rfl (lv_at hl 1 rfl) ?_
      refine x_roVi (As := [.int (nI n_8)]) S hK hP hDW hZ hAB hBA hS hA hl mwX7_fullestHour lkX10_271 (ctX7_fullestHour l D k z o clawNow charder ctold creply cwet f72 f69 f70 f71 glines ghours glaw godds grows gheads gsayings gslugs gacts f26 f29 f30 f31 f32 (nI n_8) (by omega) (by omega) (by omega) (by omega) (by omega) (by omega)) [1, 2, 3, 4, 5, 6, 7, 8, 9, 10, 11, 12, 13] rfl (by decide) rfl rfl rfl rfl rfl ⟨Nat.le_of_ble_eq_true rfl, Nat.le_of_ble_eq_true rfl, Nat.le_of_ble_eq_true rfl⟩ dX10_most_19 ⟨Nat.le_of_ble_eq_true rfl, Nat.le_of_ble_eq_true rfl⟩ (fun r_9 H locs hr_9 hP hS => ?_)
      refine lv_goto (tgt := 27) hx hb dX10_most_22 (by decide) ?_
      exact x_reti S hr hlk hQ hS () trivial x_T dX10_most_27

