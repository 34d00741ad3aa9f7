theorem dX10_fewest_0 : decode cX10_fewest 0 = .ok (.aload_n 0, 1) := by decide +kernel
theorem dX10_fewest_1 : decode cX10_fewest 1 = .ok (.invokevirtual 196, 3) := by decide +kernel
theorem dX10_fewest_4 : decode cX10_fewest 4 = .ok (.ifCond .eq 10, 3) := by decide +kernel
theorem dX10_fewest_7 : decode cX10_fewest 7 = .ok (.iload_n 1, 1) := by decide +kernel
theorem dX10_fewest_8 : decode cX10_fewest 8 = .ok (.invokestatic 184, 3) := by decide +kernel
theorem dX10_fewest_11 : decode cX10_fewest 11 = .ok (.ifCond .ne 6, 3) := by decide +kernel
theorem dX10_fewest_14 : decode cX10_fewest 14 = .ok (.bipush (-2), 2) := by decide +kernel
theorem dX10_fewest_16 : decode cX10_fewest 16 = .ok (.ireturn, 1) := by decide +kernel
theorem dX10_fewest_17 : decode cX10_fewest 17 = .ok (.aload_n 0, 1) := by decide +kernel
theorem dX10_fewest_18 : decode cX10_fewest 18 = .ok (.getfield 57, 3) := by decide +kernel
theorem dX10_fewest_21 : decode cX10_fewest 21 = .ok (.iload_n 1, 1) := by decide +kernel
theorem dX10_fewest_22 : decode cX10_fewest 22 = .ok (.invokevirtual 274, 3) := by decide +kernel
theorem dX10_fewest_25 : decode cX10_fewest 25 = .ok (.istore_n 2, 1) := by decide +kernel
theorem dX10_fewest_26 : decode cX10_fewest 26 = .ok (.iload_n 2, 1) := by decide +kernel
theorem dX10_fewest_27 : decode cX10_fewest 27 = .ok (.iconst (-1), 1) := by decide +kernel
theorem dX10_fewest_28 : decode cX10_fewest 28 = .ok (.if_icmp .ne 7, 3) := by decide +kernel
theorem dX10_fewest_31 : decode cX10_fewest 31 = .ok (.iconst (-1), 1) := by decide +kernel
theorem dX10_fewest_32 : decode cX10_fewest 32 = .ok (.goto 7, 3) := by decide +kernel
theorem dX10_fewest_35 : decode cX10_fewest 35 = .ok (.iload_n 2, 1) := by decide +kernel
theorem dX10_fewest_36 : decode cX10_fewest 36 = .ok (.invokestatic 277, 3) := by decide +kernel
theorem dX10_fewest_39 : decode cX10_fewest 39 = .ok (.ireturn, 1) := by decide +kernel
theorem dX10_tell_0 : decode cX10_tell 0 = .ok (.aload_n 0, 1) := by decide +kernel
theorem dX10_tell_1 : decode cX10_tell 1 = .ok (.invokevirtual 196, 3) := by decide +kernel
theorem dX10_tell_4 : decode cX10_tell 4 = .ok (.ifCond .eq 21, 3) := by decide +kernel
theorem dX10_tell_7 : decode cX10_tell 7 = .ok (.iload_n 1, 1) := by decide +kernel
theorem dX10_tell_8 : decode cX10_tell 8 = .ok (.invokestatic 184, 3) := by decide +kernel
theorem dX10_tell_11 : decode cX10_tell 11 = .ok (.ifCond .eq 14, 3) := by decide +kernel
theorem dX10_tell_14 : decode cX10_tell 14 = .ok (.aload_n 0, 1) := by decide +kernel
theorem dX10_tell_15 : decode cX10_tell 15 = .ok (.getfield 57, 3) := by decide +kernel
theorem dX10_tell_18 : decode cX10_tell 18 = .ok (.iload_n 1, 1) := by decide +kernel
theorem dX10_tell_19 : decode cX10_tell 19 = .ok (.invokevirtual 274, 3) := by decide +kernel
theorem dX10_tell_22 : decode cX10_tell 22 = .ok (.goto 5, 3) := by decide +kernel
theorem dX10_tell_25 : decode cX10_tell 25 = .ok (.bipush (-2), 2) := by decide +kernel
theorem dX10_tell_27 : decode cX10_tell 27 = .ok (.ireturn, 1) := by decide +kernel
theorem dX10_brings_0 : decode cX10_brings 0 = .ok (.aload_n 0, 1) := by decide +kernel
theorem dX10_brings_1 : decode cX10_brings 1 = .ok (.invokevirtual 196, 3) := by decide +kernel
theorem dX10_brings_4 : decode cX10_brings 4 = .ok (.ifCond .eq 28, 3) := by decide +kernel
theorem dX10_brings_7 : decode cX10_brings 7 = .ok (.iload_n 1, 1) := by decide +kernel
theorem dX10_brings_8 : decode cX10_brings 8 = .ok (.invokestatic 184, 3) := by decide +kernel
theorem dX10_brings_11 : decode cX10_brings 11 = .ok (.ifCond .eq 21, 3) := by decide +kernel
theorem dX10_brings_14 : decode cX10_brings 14 = .ok (.iload_n 2, 1) := by decide +kernel
theorem dX10_brings_15 : decode cX10_brings 15 = .ok (.aload_n 0, 1) := by decide +kernel
theorem dX10_brings_16 : decode cX10_brings 16 = .ok (.getfield 23, 3) := by decide +kernel
theorem dX10_brings_19 : decode cX10_brings 19 = .ok (.invokevirtual 224, 3) := by decide +kernel
theorem dX10_brings_22 : decode cX10_brings 22 = .ok (.iconst (-1), 1) := by decide +kernel
theorem dX10_brings_23 : decode cX10_brings 23 = .ok (.ixor, 1) := by decide +kernel
theorem dX10_brings_24 : decode cX10_brings 24 = .ok (.iand, 1) := by decide +kernel
theorem dX10_brings_25 : decode cX10_brings 25 = .ok (.ifCond .ne 7, 3) := by decide +kernel
theorem dX10_brings_28 : decode cX10_brings 28 = .ok (.iconst 1, 1) := by decide +kernel
theorem dX10_brings_29 : decode cX10_brings 29 = .ok (.goto 4, 3) := by decide +kernel
theorem dX10_brings_32 : decode cX10_brings 32 = .ok (.iconst 0, 1) := by decide +kernel
theorem dX10_brings_33 : decode cX10_brings 33 = .ok (.istore_n 3, 1) := by decide +kernel
theorem dX10_brings_34 : decode cX10_brings 34 = .ok (.iload_n 3, 1) := by decide +kernel
theorem dX10_brings_35 : decode cX10_brings 35 = .ok (.ifCond .eq 18, 3) := by decide +kernel
theorem dX10_brings_38 : decode cX10_brings 38 = .ok (.aload_n 0, 1) := by decide +kernel
theorem dX10_brings_39 : decode cX10_brings 39 = .ok (.getfield 57, 3) := by decide +kernel
theorem dX10_brings_42 : decode cX10_brings 42 = .ok (.iload_n 1, 1) := by decide +kernel
theorem dX10_brings_43 : decode cX10_brings 43 = .ok (.iload_n 2, 1) := by decide +kernel
theorem dX10_brings_44 : decode cX10_brings 44 = .ok (.invokevirtual 282, 3) := by decide +kernel
theorem dX10_brings_47 : decode cX10_brings 47 = .ok (.invokestatic 277, 3) := by decide +kernel
theorem dX10_brings_50 : decode cX10_brings 50 = .ok (.goto 5, 3) := by decide +kernel
theorem dX10_brings_53 : decode cX10_brings 53 = .ok (.bipush (-2), 2) := by decide +kernel
theorem dX10_brings_55 : decode cX10_brings 55 = .ok (.ireturn, 1) := by decide +kernel
theorem dX10_loud_0 : decode cX10_loud 0 = .ok (.aload_n 0, 1) := by decide +kernel
theorem dX10_loud_1 : decode cX10_loud 1 = .ok (.invokevirtual 196, 3) := by decide +kernel
theorem dX10_loud_4 : decode cX10_loud 4 = .ok (.ifCond .eq 21, 3) := by decide +kernel
theorem dX10_loud_7 : decode cX10_loud 7 = .ok (.iload_n 1, 1) := by decide +kernel
theorem dX10_loud_8 : decode cX10_loud 8 = .ok (.invokestatic 184, 3) := by decide +kernel
theorem dX10_loud_11 : decode cX10_loud 11 = .ok (.ifCond .eq 14, 3) := by decide +kernel
theorem dX10_loud_14 : decode cX10_loud 14 = .ok (.aload_n 0, 1) := by decide +kernel
theorem dX10_loud_15 : decode cX10_loud 15 = .ok (.getfield 57, 3) := by decide +kernel
theorem dX10_loud_18 : decode cX10_loud 18 = .ok (.iload_n 1, 1) := by decide +kernel
theorem dX10_loud_19 : decode cX10_loud 19 = .ok (.invokevirtual 285, 3) := by decide +kernel
theorem dX10_loud_22 : decode cX10_loud 22 = .ok (.goto 5, 3) := by decide +kernel
theorem dX10_loud_25 : decode cX10_loud 25 = .ok (.bipush (-2), 2) := by decide +kernel
theorem dX10_loud_27 : decode cX10_loud 27 = .ok (.ireturn, 1) := by decide +kernel
theorem dX10_firm_0 : decode cX10_firm 0 = .ok (.aload_n 0, 1) := by decide +kernel
theorem dX10_firm_1 : decode cX10_firm 1 = .ok (.invokevirtual 196, 3) := by decide +kernel
theorem dX10_firm_4 : decode cX10_firm 4 = .ok (.ifCond .eq 21, 3) := by decide +kernel
theorem dX10_firm_7 : decode cX10_firm 7 = .ok (.iload_n 1, 1) := by decide +kernel
theorem dX10_firm_8 : decode cX10_firm 8 = .ok (.invokestatic 184, 3) := by decide +kernel
theorem dX10_firm_11 : decode cX10_firm 11 = .ok (.ifCond .eq 14, 3) := by decide +kernel
theorem dX10_firm_14 : decode cX10_firm 14 = .ok (.aload_n 0, 1) := by decide +kernel
theorem dX10_firm_15 : decode cX10_firm 15 = .ok (.getfield 57, 3) := by decide +kernel
theorem dX10_firm_18 : decode cX10_firm 18 = .ok (.iload_n 1, 1) := by decide +kernel
theorem dX10_firm_19 : decode cX10_firm 19 = .ok (.invokevirtual 288, 3) := by decide +kernel
theorem dX10_firm_22 : decode cX10_firm 22 = .ok (.goto 5, 3) := by decide +kernel
theorem dX10_firm_25 : decode cX10_firm 25 = .ok (.bipush (-2), 2) := by decide +kernel
theorem dX10_firm_27 : decode cX10_firm 27 = .ok (.ireturn, 1) := by decide +kernel
theorem dX10_share_0 : decode cX10_share 0 = .ok (.aload_n 0, 1) := by decide +kernel
theorem dX10_share_1 : decode cX10_share 1 = .ok (.iload_n 1, 1) := by decide +kernel
theorem dX10_share_2 : decode cX10_share 2 = .ok (.invokevirtual 135, 3) := by decide +kernel
theorem dX10_share_5 : decode cX10_share 5 = .ok (.ifCond .eq 17, 3) := by decide +kernel
theorem dX10_share_8 : decode cX10_share 8 = .ok (.iload_n 2, 1) := by decide +kernel
theorem dX10_share_9 : decode cX10_share 9 = .ok (.invokestatic 184, 3) := by decide +kernel
theorem dX10_share_12 : decode cX10_share 12 = .ok (.ifCond .eq 10, 3) := by decide +kernel
theorem dX10_share_15 : decode cX10_share 15 = .ok (.iload_n 3, 1) := by decide +kernel
theorem dX10_share_16 : decode cX10_share 16 = .ok (.invokestatic 291, 3) := by decide +kernel
theorem dX10_share_19 : decode cX10_share 19 = .ok (.ifCond .ne 7, 3) := by decide +kernel
theorem dX10_share_22 : decode cX10_share 22 = .ok (.ldc2_w 294, 3) := by decide +kernel
theorem dX10_share_25 : decode cX10_share 25 = .ok (.lreturn, 1) := by decide +kernel
theorem dX10_share_26 : decode cX10_share 26 = .ok (.aload_n 0, 1) := by decide +kernel
theorem dX10_share_27 : decode cX10_share 27 = .ok (.getfield 23, 3) := by decide +kernel
theorem dX10_share_30 : decode cX10_share 30 = .ok (.getfield 296, 3) := by decide +kernel
theorem dX10_share_33 : decode cX10_share 33 = .ok (.bipush 8, 2) := by decide +kernel
theorem dX10_share_35 : decode cX10_share 35 = .ok (.if_icmp .le 7, 3) := by decide +kernel
theorem dX10_share_38 : decode cX10_share 38 = .ok (.ldc2_w 299, 3) := by decide +kernel
theorem dX10_share_41 : decode cX10_share 41 = .ok (.lreturn, 1) := by decide +kernel
theorem dX10_share_42 : decode cX10_share 42 = .ok (.aload_n 0, 1) := by decide +kernel
theorem dX10_share_43 : decode cX10_share 43 = .ok (.getfield 57, 3) := by decide +kernel
theorem dX10_share_46 : decode cX10_share 46 = .ok (.iload_n 1, 1) := by decide +kernel
theorem dX10_share_47 : decode cX10_share 47 = .ok (.iload_n 2, 1) := by decide +kernel
theorem dX10_share_48 : decode cX10_share 48 = .ok (.invokevirtual 301, 3) := by decide +kernel
theorem dX10_share_51 : decode cX10_share 51 = .ok (.aload_n 0, 1) := by decide +kernel
theorem dX10_share_52 : decode cX10_share 52 = .ok (.getfield 23, 3) := by decide +kernel
theorem dX10_share_55 : decode cX10_share 55 = .ok (.getfield 296, 3) := by decide +kernel
theorem dX10_share_58 : decode cX10_share 58 = .ok (.invokestatic 305, 3) := by decide +kernel
theorem dX10_share_61 : decode cX10_share 61 = .ok (.iload_n 3, 1) := by decide +kernel
theorem dX10_share_62 : decode cX10_share 62 = .ok (.invokestatic 309, 3) := by decide +kernel
theorem dX10_share_65 : decode cX10_share 65 = .ok (.lreturn, 1) := by decide +kernel
theorem dX10_sample_0 : decode cX10_sample 0 = .ok (.aload_n 0, 1) := by decide +kernel
theorem dX10_sample_1 : decode cX10_sample 1 = .ok (.iload_n 1, 1) := by decide +kernel
theorem dX10_sample_2 : decode cX10_sample 2 = .ok (.invokevirtual 161, 3) := by decide +kernel
theorem dX10_sample_5 : decode cX10_sample 5 = .ok (.ifCond .eq 31, 3) := by decide +kernel
theorem dX10_sample_8 : decode cX10_sample 8 = .ok (.iload_n 3, 1) := by decide +kernel
theorem dX10_sample_9 : decode cX10_sample 9 = .ok (.invokestatic 291, 3) := by decide +kernel
theorem dX10_sample_12 : decode cX10_sample 12 = .ok (.ifCond .eq 24, 3) := by decide +kernel
theorem dX10_sample_15 : decode cX10_sample 15 = .ok (.iload_n 2, 1) := by decide +kernel
theorem dX10_sample_16 : decode cX10_sample 16 = .ok (.iconst 1, 1) := by decide +kernel
theorem dX10_sample_17 : decode cX10_sample 17 = .ok (.if_icmp .lt 19, 3) := by decide +kernel
theorem dX10_sample_20 : decode cX10_sample 20 = .ok (.iload_n 2, 1) := by decide +kernel
theorem dX10_sample_21 : decode cX10_sample 21 = .ok (.aload_n 0, 1) := by decide +kernel
theorem dX10_sample_22 : decode cX10_sample 22 = .ok (.getfield 50, 3) := by decide +kernel
theorem dX10_sample_25 : decode cX10_sample 25 = .ok (.iload_n 1, 1) := by decide +kernel
theorem dX10_sample_26 : decode cX10_sample 26 = .ok (.invokevirtual 313, 3) := by decide +kernel
theorem dX10_sample_29 : decode cX10_sample 29 = .ok (.if_icmp .gt 7, 3) := by decide +kernel
theorem dX10_sample_32 : decode cX10_sample 32 = .ok (.iconst 1, 1) := by decide +kernel
theorem dX10_sample_33 : decode cX10_sample 33 = .ok (.goto 4, 3) := by decide +kernel
theorem dX10_sample_36 : decode cX10_sample 36 = .ok (.iconst 0, 1) := by decide +kernel
theorem dX10_sample_37 : decode cX10_sample 37 = .ok (.istore 4, 2) := by decide +kernel
theorem dX10_sample_39 : decode cX10_sample 39 = .ok (.iload 4, 2) := by decide +kernel
theorem dX10_sample_41 : decode cX10_sample 41 = .ok (.ifCond .eq 31, 3) := by decide +kernel
theorem dX10_sample_44 : decode cX10_sample 44 = .ok (.aload_n 0, 1) := by decide +kernel
theorem dX10_sample_45 : decode cX10_sample 45 = .ok (.getfield 50, 3) := by decide +kernel
theorem dX10_sample_48 : decode cX10_sample 48 = .ok (.iload_n 1, 1) := by decide +kernel
theorem dX10_sample_49 : decode cX10_sample 49 = .ok (.iload_n 2, 1) := by decide +kernel
theorem dX10_sample_50 : decode cX10_sample 50 = .ok (.invokevirtual 316, 3) := by decide +kernel
theorem dX10_sample_53 : decode cX10_sample 53 = .ok (.aload_n 0, 1) := by decide +kernel
theorem dX10_sample_54 : decode cX10_sample 54 = .ok (.getfield 50, 3) := by decide +kernel
theorem dX10_sample_57 : decode cX10_sample 57 = .ok (.iload_n 1, 1) := by decide +kernel
theorem dX10_sample_58 : decode cX10_sample 58 = .ok (.invokevirtual 313, 3) := by decide +kernel
theorem dX10_sample_61 : decode cX10_sample 61 = .ok (.iload_n 2, 1) := by decide +kernel
theorem dX10_sample_62 : decode cX10_sample 62 = .ok (.invokestatic 319, 3) := by decide +kernel
theorem dX10_sample_65 : decode cX10_sample 65 = .ok (.iload_n 3, 1) := by decide +kernel
theorem dX10_sample_66 : decode cX10_sample 66 = .ok (.invokestatic 309, 3) := by decide +kernel
theorem dX10_sample_69 : decode cX10_sample 69 = .ok (.goto 6, 3) := by decide +kernel
theorem dX10_sample_72 : decode cX10_sample 72 = .ok (.ldc2_w 294, 3) := by decide +kernel
theorem dX10_sample_75 : decode cX10_sample 75 = .ok (.lreturn, 1) := by decide +kernel
theorem dX10_sure_0 : decode cX10_sure 0 = .ok (.aload_n 0, 1) := by decide +kernel
theorem dX10_sure_1 : decode cX10_sure 1 = .ok (.iload_n 1, 1) := by decide +kernel
theorem dX10_sure_2 : decode cX10_sure 2 = .ok (.invokevirtual 161, 3) := by decide +kernel
theorem dX10_sure_5 : decode cX10_sure 5 = .ok (.ifCond .eq 14, 3) := by decide +kernel
theorem dX10_sure_8 : decode cX10_sure 8 = .ok (.aload_n 0, 1) := by decide +kernel
theorem dX10_sure_9 : decode cX10_sure 9 = .ok (.getfield 50, 3) := by decide +kernel
theorem dX10_sure_12 : decode cX10_sure 12 = .ok (.iload_n 1, 1) := by decide +kernel
theorem dX10_sure_13 : decode cX10_sure 13 = .ok (.invokevirtual 322, 3) := by decide +kernel
theorem dX10_sure_16 : decode cX10_sure 16 = .ok (.goto 5, 3) := by decide +kernel
theorem dX10_sure_19 : decode cX10_sure 19 = .ok (.bipush (-2), 2) := by decide +kernel
theorem dX10_sure_21 : decode cX10_sure 21 = .ok (.ireturn, 1) := by decide +kernel
theorem dX10_worth_0 : decode cX10_worth 0 = .ok (.aload_n 0, 1) := by decide +kernel
theorem dX10_worth_1 : decode cX10_worth 1 = .ok (.getfield 23, 3) := by decide +kernel
theorem dX10_worth_4 : decode cX10_worth 4 = .ok (.getfield 296, 3) := by decide +kernel
theorem dX10_worth_7 : decode cX10_worth 7 = .ok (.ifCond .ne 7, 3) := by decide +kernel
theorem dX10_worth_10 : decode cX10_worth 10 = .ok (.sipush (-1000), 3) := by decide +kernel
theorem dX10_worth_13 : decode cX10_worth 13 = .ok (.ireturn, 1) := by decide +kernel
theorem dX10_worth_14 : decode cX10_worth 14 = .ok (.aload_n 0, 1) := by decide +kernel
theorem dX10_worth_15 : decode cX10_worth 15 = .ok (.getfield 66, 3) := by decide +kernel
theorem dX10_worth_18 : decode cX10_worth 18 = .ok (.invokevirtual 325, 3) := by decide +kernel
theorem dX10_worth_21 : decode cX10_worth 21 = .ok (.aload_n 0, 1) := by decide +kernel
theorem dX10_worth_22 : decode cX10_worth 22 = .ok (.getfield 66, 3) := by decide +kernel
theorem dX10_worth_25 : decode cX10_worth 25 = .ok (.getfield 328, 3) := by decide +kernel
theorem dX10_worth_28 : decode cX10_worth 28 = .ok (.ireturn, 1) := by decide +kernel
theorem dX10_opens_0 : decode cX10_opens 0 = .ok (.aload_n 0, 1) := by decide +kernel
theorem dX10_opens_1 : decode cX10_opens 1 = .ok (.invokevirtual 196, 3) := by decide +kernel
theorem dX10_opens_4 : decode cX10_opens 4 = .ok (.ifCond .ne 6, 3) := by decide +kernel
theorem dX10_opens_7 : decode cX10_opens 7 = .ok (.bipush (-2), 2) := by decide +kernel
theorem dX10_opens_9 : decode cX10_opens 9 = .ok (.ireturn, 1) := by decide +kernel
theorem dX10_opens_10 : decode cX10_opens 10 = .ok (.aload_n 0, 1) := by decide +kernel
theorem dX10_opens_11 : decode cX10_opens 11 = .ok (.getfield 66, 3) := by decide +kernel
theorem dX10_opens_14 : decode cX10_opens 14 = .ok (.invokevirtual 325, 3) := by decide +kernel
theorem dX10_opens_17 : decode cX10_opens 17 = .ok (.aload_n 0, 1) := by decide +kernel
theorem dX10_opens_18 : decode cX10_opens 18 = .ok (.getfield 66, 3) := by decide +kernel
theorem dX10_opens_21 : decode cX10_opens 21 = .ok (.getfield 331, 3) := by decide +kernel
theorem dX10_opens_24 : decode cX10_opens 24 = .ok (.ireturn, 1) := by decide +kernel
theorem dX10_replies_0 : decode cX10_replies 0 = .ok (.aload_n 0, 1) := by decide +kernel
theorem dX10_replies_1 : decode cX10_replies 1 = .ok (.iload_n 1, 1) := by decide +kernel
theorem dX10_replies_2 : decode cX10_replies 2 = .ok (.invokevirtual 135, 3) := by decide +kernel
theorem dX10_replies_5 : decode cX10_replies 5 = .ok (.ifCond .eq 14, 3) := by decide +kernel
theorem dX10_replies_8 : decode cX10_replies 8 = .ok (.aload_n 0, 1) := by decide +kernel
theorem dX10_replies_9 : decode cX10_replies 9 = .ok (.getfield 66, 3) := by decide +kernel
theorem dX10_replies_12 : decode cX10_replies 12 = .ok (.iload_n 1, 1) := by decide +kernel
theorem dX10_replies_13 : decode cX10_replies 13 = .ok (.invokevirtual 334, 3) := by decide +kernel
theorem dX10_replies_16 : decode cX10_replies 16 = .ok (.goto 5, 3) := by decide +kernel
theorem dX10_replies_19 : decode cX10_replies 19 = .ok (.bipush (-2), 2) := by decide +kernel
theorem dX10_replies_21 : decode cX10_replies 21 = .ok (.ireturn, 1) := by decide +kernel
theorem dX10_by_0 : decode cX10_by 0 = .ok (.aload_n 0, 1) := by decide +kernel
theorem dX10_by_1 : decode cX10_by 1 = .ok (.invokevirtual 196, 3) := by decide +kernel
theorem dX10_by_4 : decode cX10_by 4 = .ok (.ifCond .eq 12, 3) := by decide +kernel
theorem dX10_by_7 : decode cX10_by 7 = .ok (.iload_n 1, 1) := by decide +kernel
theorem dX10_by_8 : decode cX10_by 8 = .ok (.ifCond .lt 8, 3) := by decide +kernel
theorem dX10_by_11 : decode cX10_by 11 = .ok (.iload_n 1, 1) := by decide +kernel
theorem dX10_by_12 : decode cX10_by 12 = .ok (.iconst 4, 1) := by decide +kernel
theorem dX10_by_13 : decode cX10_by 13 = .ok (.if_icmp .lt 6, 3) := by decide +kernel
theorem dX10_by_16 : decode cX10_by 16 = .ok (.bipush (-2), 2) := by decide +kernel
theorem dX10_by_18 : decode cX10_by 18 = .ok (.ireturn, 1) := by decide +kernel
theorem dX10_by_19 : decode cX10_by 19 = .ok (.aload_n 0, 1) := by decide +kernel
theorem dX10_by_20 : decode cX10_by 20 = .ok (.getfield 42, 3) := by decide +kernel
theorem dX10_by_23 : decode cX10_by 23 = .ok (.iload_n 1, 1) := by decide +kernel
theorem dX10_by_24 : decode cX10_by 24 = .ok (.invokevirtual 356, 3) := by decide +kernel
theorem dX10_by_27 : decode cX10_by 27 = .ok (.aload_n 0, 1) := by decide +kernel
theorem dX10_by_28 : decode cX10_by 28 = .ok (.getfield 42, 3) := by decide +kernel
theorem dX10_by_31 : decode cX10_by 31 = .ok (.invokevirtual 359, 3) := by decide +kernel
theorem dX10_by_34 : decode cX10_by 34 = .ok (.aload_n 0, 1) := by decide +kernel
theorem dX10_by_35 : decode cX10_by 35 = .ok (.getfield 42, 3) := by decide +kernel
theorem dX10_by_38 : decode cX10_by 38 = .ok (.invokevirtual 362, 3) := by decide +kernel
theorem dX10_by_41 : decode cX10_by 41 = .ok (.iconst 1, 1) := by decide +kernel
theorem dX10_by_42 : decode cX10_by 42 = .ok (.invokestatic 365, 3) := by decide +kernel
theorem dX10_by_45 : decode cX10_by 45 = .ok (.ireturn, 1) := by decide +kernel
theorem dX10_law_0 : decode cX10_law 0 = .ok (.aload_n 0, 1) := by decide +kernel
theorem dX10_law_1 : decode cX10_law 1 = .ok (.invokevirtual 196, 3) := by decide +kernel
theorem dX10_law_4 : decode cX10_law 4 = .ok (.ifCond .eq 13, 3) := by decide +kernel
theorem dX10_law_7 : decode cX10_law 7 = .ok (.aload_n 0, 1) := by decide +kernel
theorem dX10_law_8 : decode cX10_law 8 = .ok (.getfield 66, 3) := by decide +kernel
theorem dX10_law_11 : decode cX10_law 11 = .ok (.invokevirtual 368, 3) := by decide +kernel
theorem dX10_law_14 : decode cX10_law 14 = .ok (.goto 5, 3) := by decide +kernel
theorem dX10_law_17 : decode cX10_law 17 = .ok (.bipush (-2), 2) := by decide +kernel
theorem dX10_law_19 : decode cX10_law 19 = .ok (.ireturn, 1) := by decide +kernel
theorem dX10_rests_0 : decode cX10_rests 0 = .ok (.aload_n 0, 1) := by decide +kernel
theorem dX10_rests_1 : decode cX10_rests 1 = .ok (.iload_n 1, 1) := by decide +kernel
theorem dX10_rests_2 : decode cX10_rests 2 = .ok (.iload_n 2, 1) := by decide +kernel
theorem dX10_rests_3 : decode cX10_rests 3 = .ok (.invokevirtual 371, 3) := by decide +kernel
theorem dX10_rests_6 : decode cX10_rests 6 = .ok (.ifCond .eq 15, 3) := by decide +kernel
theorem dX10_rests_9 : decode cX10_rests 9 = .ok (.aload_n 0, 1) := by decide +kernel
theorem dX10_rests_10 : decode cX10_rests 10 = .ok (.getfield 66, 3) := by decide +kernel
theorem dX10_rests_13 : decode cX10_rests 13 = .ok (.iload_n 1, 1) := by decide +kernel
theorem dX10_rests_14 : decode cX10_rests 14 = .ok (.iload_n 2, 1) := by decide +kernel
theorem dX10_rests_15 : decode cX10_rests 15 = .ok (.invokevirtual 375, 3) := by decide +kernel
theorem dX10_rests_18 : decode cX10_rests 18 = .ok (.goto 5, 3) := by decide +kernel
theorem dX10_rests_21 : decode cX10_rests 21 = .ok (.bipush (-2), 2) := by decide +kernel
theorem dX10_rests_23 : decode cX10_rests 23 = .ok (.ireturn, 1) := by decide +kernel
theorem dX10_gets_0 : decode cX10_gets 0 = .ok (.aload_n 0, 1) := by decide +kernel
theorem dX10_gets_1 : decode cX10_gets 1 = .ok (.iload_n 1, 1) := by decide +kernel
theorem dX10_gets_2 : decode cX10_gets 2 = .ok (.iload_n 2, 1) := by decide +kernel
theorem dX10_gets_3 : decode cX10_gets 3 = .ok (.invokevirtual 371, 3) := by decide +kernel
theorem dX10_gets_6 : decode cX10_gets 6 = .ok (.ifCond .eq 22, 3) := by decide +kernel
theorem dX10_gets_9 : decode cX10_gets 9 = .ok (.iload_n 3, 1) := by decide +kernel
theorem dX10_gets_10 : decode cX10_gets 10 = .ok (.invokestatic 291, 3) := by decide +kernel
theorem dX10_gets_13 : decode cX10_gets 13 = .ok (.ifCond .eq 15, 3) := by decide +kernel
theorem dX10_gets_16 : decode cX10_gets 16 = .ok (.iload 4, 2) := by decide +kernel
theorem dX10_gets_18 : decode cX10_gets 18 = .ok (.invokestatic 291, 3) := by decide +kernel
theorem dX10_gets_21 : decode cX10_gets 21 = .ok (.ifCond .eq 7, 3) := by decide +kernel
theorem dX10_gets_24 : decode cX10_gets 24 = .ok (.iconst 1, 1) := by decide +kernel
theorem dX10_gets_25 : decode cX10_gets 25 = .ok (.goto 4, 3) := by decide +kernel
theorem dX10_gets_28 : decode cX10_gets 28 = .ok (.iconst 0, 1) := by decide +kernel
theorem dX10_gets_29 : decode cX10_gets 29 = .ok (.istore 5, 2) := by decide +kernel
theorem dX10_gets_31 : decode cX10_gets 31 = .ok (.iload 5, 2) := by decide +kernel
theorem dX10_gets_33 : decode cX10_gets 33 = .ok (.ifCond .eq 22, 3) := by decide +kernel
theorem dX10_gets_36 : decode cX10_gets 36 = .ok (.aload_n 0, 1) := by decide +kernel
theorem dX10_gets_37 : decode cX10_gets 37 = .ok (.getfield 66, 3) := by decide +kernel
theorem dX10_gets_40 : decode cX10_gets 40 = .ok (.iload_n 1, 1) := by decide +kernel
theorem dX10_gets_41 : decode cX10_gets 41 = .ok (.iload_n 3, 1) := by decide +kernel
theorem dX10_gets_42 : decode cX10_gets 42 = .ok (.iload_n 1, 1) := by decide +kernel
theorem dX10_gets_43 : decode cX10_gets 43 = .ok (.ishl, 1) := by decide +kernel
theorem dX10_gets_44 : decode cX10_gets 44 = .ok (.iload 4, 2) := by decide +kernel
theorem dX10_gets_46 : decode cX10_gets 46 = .ok (.iload_n 2, 1) := by decide +kernel
theorem dX10_gets_47 : decode cX10_gets 47 = .ok (.ishl, 1) := by decide +kernel
theorem dX10_gets_48 : decode cX10_gets 48 = .ok (.ior, 1) := by decide +kernel
theorem dX10_gets_49 : decode cX10_gets 49 = .ok (.invokevirtual 378, 3) := by decide +kernel
theorem dX10_gets_52 : decode cX10_gets 52 = .ok (.goto 6, 3) := by decide +kernel
theorem dX10_gets_55 : decode cX10_gets 55 = .ok (.sipush (-1000), 3) := by decide +kernel
theorem dX10_gets_58 : decode cX10_gets 58 = .ok (.ireturn, 1) := by decide +kernel
theorem dX10_chance_0 : decode cX10_chance 0 = .ok (.aload_n 0, 1) := by decide +kernel
theorem dX10_chance_1 : decode cX10_chance 1 = .ok (.iload_n 1, 1) := by decide +kernel
theorem dX10_chance_2 : decode cX10_chance 2 = .ok (.invokevirtual 135, 3) := by decide +kernel
theorem dX10_chance_5 : decode cX10_chance 5 = .ok (.ifCond .eq 26, 3) := by decide +kernel
theorem dX10_chance_8 : decode cX10_chance 8 = .ok (.iload_n 2, 1) := by decide +kernel
theorem dX10_chance_9 : decode cX10_chance 9 = .ok (.invokestatic 168, 3) := by decide +kernel
theorem dX10_chance_12 : decode cX10_chance 12 = .ok (.ifCond .eq 19, 3) := by decide +kernel
theorem dX10_chance_15 : decode cX10_chance 15 = .ok (.aload_n 0, 1) := by decide +kernel
theorem dX10_chance_16 : decode cX10_chance 16 = .ok (.iload_n 3, 1) := by decide +kernel
theorem dX10_chance_17 : decode cX10_chance 17 = .ok (.invokevirtual 381, 3) := by decide +kernel
theorem dX10_chance_20 : decode cX10_chance 20 = .ok (.ifCond .eq 11, 3) := by decide +kernel
theorem dX10_chance_23 : decode cX10_chance 23 = .ok (.iload 4, 2) := by decide +kernel
theorem dX10_chance_25 : decode cX10_chance 25 = .ok (.invokestatic 291, 3) := by decide +kernel
theorem dX10_chance_28 : decode cX10_chance 28 = .ok (.ifCond .ne 7, 3) := by decide +kernel
theorem dX10_chance_31 : decode cX10_chance 31 = .ok (.ldc2_w 294, 3) := by decide +kernel
theorem dX10_chance_34 : decode cX10_chance 34 = .ok (.lreturn, 1) := by decide +kernel
theorem dX10_chance_35 : decode cX10_chance 35 = .ok (.aload_n 0, 1) := by decide +kernel
theorem dX10_chance_36 : decode cX10_chance 36 = .ok (.getfield 91, 3) := by decide +kernel
theorem dX10_chance_39 : decode cX10_chance 39 = .ok (.iload_n 1, 1) := by decide +kernel
theorem dX10_chance_40 : decode cX10_chance 40 = .ok (.iload_n 2, 1) := by decide +kernel
theorem dX10_chance_41 : decode cX10_chance 41 = .ok (.iload_n 3, 1) := by decide +kernel
theorem dX10_chance_42 : decode cX10_chance 42 = .ok (.invokevirtual 384, 3) := by decide +kernel
theorem dX10_chance_45 : decode cX10_chance 45 = .ok (.aload_n 0, 1) := by decide +kernel
theorem dX10_chance_46 : decode cX10_chance 46 = .ok (.getfield 91, 3) := by decide +kernel
theorem dX10_chance_49 : decode cX10_chance 49 = .ok (.iload_n 3, 1) := by decide +kernel
theorem dX10_chance_50 : decode cX10_chance 50 = .ok (.invokevirtual 388, 3) := by decide +kernel
theorem dX10_chance_53 : decode cX10_chance 53 = .ok (.iload 4, 2) := by decide +kernel
theorem dX10_chance_55 : decode cX10_chance 55 = .ok (.invokestatic 309, 3) := by decide +kernel
theorem dX10_chance_58 : decode cX10_chance 58 = .ok (.lreturn, 1) := by decide +kernel
theorem dX10_mean_0 : decode cX10_mean 0 = .ok (.aload_n 0, 1) := by decide +kernel
theorem dX10_mean_1 : decode cX10_mean 1 = .ok (.iload_n 1, 1) := by decide +kernel
theorem dX10_mean_2 : decode cX10_mean 2 = .ok (.invokevirtual 381, 3) := by decide +kernel
theorem dX10_mean_5 : decode cX10_mean 5 = .ok (.ifCond .eq 10, 3) := by decide +kernel
theorem dX10_mean_8 : decode cX10_mean 8 = .ok (.iload_n 2, 1) := by decide +kernel
theorem dX10_mean_9 : decode cX10_mean 9 = .ok (.invokestatic 291, 3) := by decide +kernel
theorem dX10_mean_12 : decode cX10_mean 12 = .ok (.ifCond .ne 7, 3) := by decide +kernel
theorem dX10_mean_15 : decode cX10_mean 15 = .ok (.ldc2_w 294, 3) := by decide +kernel
theorem dX10_mean_18 : decode cX10_mean 18 = .ok (.lreturn, 1) := by decide +kernel
theorem dX10_mean_19 : decode cX10_mean 19 = .ok (.aload_n 0, 1) := by decide +kernel
theorem dX10_mean_20 : decode cX10_mean 20 = .ok (.getfield 91, 3) := by decide +kernel
theorem dX10_mean_23 : decode cX10_mean 23 = .ok (.iload_n 1, 1) := by decide +kernel
theorem dX10_mean_24 : decode cX10_mean 24 = .ok (.invokevirtual 391, 3) := by decide +kernel
theorem dX10_mean_27 : decode cX10_mean 27 = .ok (.aload_n 0, 1) := by decide +kernel
theorem dX10_mean_28 : decode cX10_mean 28 = .ok (.getfield 91, 3) := by decide +kernel
theorem dX10_mean_31 : decode cX10_mean 31 = .ok (.iload_n 1, 1) := by decide +kernel
theorem dX10_mean_32 : decode cX10_mean 32 = .ok (.invokevirtual 388, 3) := by decide +kernel
theorem dX10_mean_35 : decode cX10_mean 35 = .ok (.iload_n 2, 1) := by decide +kernel
theorem dX10_mean_36 : decode cX10_mean 36 = .ok (.invokestatic 309, 3) := by decide +kernel
theorem dX10_mean_39 : decode cX10_mean 39 = .ok (.lreturn, 1) := by decide +kernel
theorem dX10_say_0 : decode cX10_say 0 = .ok (.iload_n 1, 1) := by decide +kernel
theorem dX10_say_1 : decode cX10_say 1 = .ok (.invokestatic 184, 3) := by decide +kernel
theorem dX10_say_4 : decode cX10_say 4 = .ok (.ifCond .eq 19, 3) := by decide +kernel
theorem dX10_say_7 : decode cX10_say 7 = .ok (.aload_n 0, 1) := by decide +kernel
theorem dX10_say_8 : decode cX10_say 8 = .ok (.iload_n 2, 1) := by decide +kernel
theorem dX10_say_9 : decode cX10_say 9 = .ok (.invokevirtual 135, 3) := by decide +kernel
theorem dX10_say_12 : decode cX10_say 12 = .ok (.ifCond .eq 11, 3) := by decide +kernel
theorem dX10_say_15 : decode cX10_say 15 = .ok (.aload_n 0, 1) := by decide +kernel
theorem dX10_say_16 : decode cX10_say 16 = .ok (.iload_n 3, 1) := by decide +kernel
theorem dX10_say_17 : decode cX10_say 17 = .ok (.invokevirtual 161, 3) := by decide +kernel
theorem dX10_say_20 : decode cX10_say 20 = .ok (.ifCond .ne 6, 3) := by decide +kernel
theorem dX10_say_23 : decode cX10_say 23 = .ok (.bipush (-2), 2) := by decide +kernel
theorem dX10_say_25 : decode cX10_say 25 = .ok (.ireturn, 1) := by decide +kernel
theorem dX10_say_26 : decode cX10_say 26 = .ok (.aload_n 0, 1) := by decide +kernel
theorem dX10_say_27 : decode cX10_say 27 = .ok (.getfield 23, 3) := by decide +kernel
theorem dX10_say_30 : decode cX10_say 30 = .ok (.getfield 394, 3) := by decide +kernel
theorem dX10_say_33 : decode cX10_say 33 = .ok (.bipush 30, 2) := by decide +kernel
theorem dX10_say_35 : decode cX10_say 35 = .ok (.if_icmp .lt 6, 3) := by decide +kernel
theorem dX10_say_38 : decode cX10_say 38 = .ok (.bipush (-5), 2) := by decide +kernel
theorem dX10_say_40 : decode cX10_say 40 = .ok (.ireturn, 1) := by decide +kernel
theorem dX10_say_41 : decode cX10_say 41 = .ok (.aload_n 0, 1) := by decide +kernel
theorem dX10_say_42 : decode cX10_say 42 = .ok (.getfield 23, 3) := by decide +kernel
theorem dX10_say_45 : decode cX10_say 45 = .ok (.iload_n 1, 1) := by decide +kernel
theorem dX10_say_46 : decode cX10_say 46 = .ok (.iload_n 2, 1) := by decide +kernel
theorem dX10_say_47 : decode cX10_say 47 = .ok (.iload_n 3, 1) := by decide +kernel
theorem dX10_say_48 : decode cX10_say 48 = .ok (.invokevirtual 397, 3) := by decide +kernel
theorem dX10_say_51 : decode cX10_say 51 = .ok (.aload_n 0, 1) := by decide +kernel
theorem dX10_say_52 : decode cX10_say 52 = .ok (.invokevirtual 103, 3) := by decide +kernel
theorem dX10_say_55 : decode cX10_say 55 = .ok (.aload_n 0, 1) := by decide +kernel
theorem dX10_say_56 : decode cX10_say 56 = .ok (.getfield 38, 3) := by decide +kernel
theorem dX10_say_59 : decode cX10_say 59 = .ok (.invokevirtual 362, 3) := by decide +kernel
theorem dX10_say_62 : decode cX10_say 62 = .ok (.iload_n 1, 1) := by decide +kernel
theorem dX10_say_63 : decode cX10_say 63 = .ok (.invokestatic 365, 3) := by decide +kernel
theorem dX10_say_66 : decode cX10_say 66 = .ok (.invokestatic 277, 3) := by decide +kernel
theorem dX10_say_69 : decode cX10_say 69 = .ok (.ireturn, 1) := by decide +kernel
theorem dX10_slug_0 : decode cX10_slug 0 = .ok (.aload_n 0, 1) := by decide +kernel
theorem dX10_slug_1 : decode cX10_slug 1 = .ok (.iload_n 1, 1) := by decide +kernel
theorem dX10_slug_2 : decode cX10_slug 2 = .ok (.invokevirtual 135, 3) := by decide +kernel
theorem dX10_slug_5 : decode cX10_slug 5 = .ok (.ifCond .eq 11, 3) := by decide +kernel
theorem dX10_slug_8 : decode cX10_slug 8 = .ok (.aload_n 0, 1) := by decide +kernel
theorem dX10_slug_9 : decode cX10_slug 9 = .ok (.iload_n 2, 1) := by decide +kernel
theorem dX10_slug_10 : decode cX10_slug 10 = .ok (.invokevirtual 161, 3) := by decide +kernel
theorem dX10_slug_13 : decode cX10_slug 13 = .ok (.ifCond .ne 6, 3) := by decide +kernel
theorem dX10_slug_16 : decode cX10_slug 16 = .ok (.bipush (-2), 2) := by decide +kernel
theorem dX10_slug_18 : decode cX10_slug 18 = .ok (.ireturn, 1) := by decide +kernel
theorem dX10_slug_19 : decode cX10_slug 19 = .ok (.aload_n 0, 1) := by decide +kernel
theorem dX10_slug_20 : decode cX10_slug 20 = .ok (.getfield 23, 3) := by decide +kernel
theorem dX10_slug_23 : decode cX10_slug 23 = .ok (.getfield 394, 3) := by decide +kernel
theorem dX10_slug_26 : decode cX10_slug 26 = .ok (.bipush 30, 2) := by decide +kernel
theorem dX10_slug_28 : decode cX10_slug 28 = .ok (.if_icmp .lt 6, 3) := by decide +kernel
theorem dX10_slug_31 : decode cX10_slug 31 = .ok (.bipush (-5), 2) := by decide +kernel
theorem dX10_slug_33 : decode cX10_slug 33 = .ok (.ireturn, 1) := by decide +kernel
theorem dX10_slug_34 : decode cX10_slug 34 = .ok (.aload_n 0, 1) := by decide +kernel
theorem dX10_slug_35 : decode cX10_slug 35 = .ok (.getfield 23, 3) := by decide +kernel
theorem dX10_slug_38 : decode cX10_slug 38 = .ok (.iconst 0, 1) := by decide +kernel
theorem dX10_slug_39 : decode cX10_slug 39 = .ok (.iload_n 1, 1) := by decide +kernel
theorem dX10_slug_40 : decode cX10_slug 40 = .ok (.iload_n 2, 1) := by decide +kernel
theorem dX10_slug_41 : decode cX10_slug 41 = .ok (.invokevirtual 397, 3) := by decide +kernel
theorem dX10_slug_44 : decode cX10_slug 44 = .ok (.aload_n 0, 1) := by decide +kernel
theorem dX10_slug_45 : decode cX10_slug 45 = .ok (.invokevirtual 103, 3) := by decide +kernel
theorem dX10_slug_48 : decode cX10_slug 48 = .ok (.aload_n 0, 1) := by decide +kernel
theorem dX10_slug_49 : decode cX10_slug 49 = .ok (.getfield 29, 3) := by decide +kernel
theorem dX10_slug_52 : decode cX10_slug 52 = .ok (.getfield 174, 3) := by decide +kernel
theorem dX10_slug_55 : decode cX10_slug 55 = .ok (.aload_n 0, 1) := by decide +kernel
theorem dX10_slug_56 : decode cX10_slug 56 = .ok (.getfield 23, 3) := by decide +kernel
theorem dX10_slug_59 : decode cX10_slug 59 = .ok (.getfield 401, 3) := by decide +kernel
theorem dX10_slug_62 : decode cX10_slug 62 = .ok (.iaload, 1) := by decide +kernel
theorem dX10_slug_63 : decode cX10_slug 63 = .ok (.ireturn, 1) := by decide +kernel
theorem dX10_undo_0 : decode cX10_undo 0 = .ok (.aload_n 0, 1) := by decide +kernel
theorem dX10_undo_1 : decode cX10_undo 1 = .ok (.invokevirtual 196, 3) := by decide +kernel
theorem dX10_undo_4 : decode cX10_undo 4 = .ok (.ifCond .ne 6, 3) := by decide +kernel
theorem dX10_undo_7 : decode cX10_undo 7 = .ok (.bipush (-2), 2) := by decide +kernel
theorem dX10_undo_9 : decode cX10_undo 9 = .ok (.ireturn, 1) := by decide +kernel
theorem dX10_undo_10 : decode cX10_undo 10 = .ok (.aload_n 0, 1) := by decide +kernel
theorem dX10_undo_11 : decode cX10_undo 11 = .ok (.getfield 23, 3) := by decide +kernel
theorem dX10_undo_14 : decode cX10_undo 14 = .ok (.getfield 394, 3) := by decide +kernel
theorem dX10_undo_17 : decode cX10_undo 17 = .ok (.ifCond .ne 6, 3) := by decide +kernel
theorem dX10_undo_20 : decode cX10_undo 20 = .ok (.bipush (-5), 2) := by decide +kernel
theorem dX10_undo_22 : decode cX10_undo 22 = .ok (.ireturn, 1) := by decide +kernel
theorem dX10_undo_23 : decode cX10_undo 23 = .ok (.aload_n 0, 1) := by decide +kernel
theorem dX10_undo_24 : decode cX10_undo 24 = .ok (.getfield 23, 3) := by decide +kernel
theorem dX10_undo_27 : decode cX10_undo 27 = .ok (.dup, 1) := by decide +kernel
theorem dX10_undo_28 : decode cX10_undo 28 = .ok (.getfield 394, 3) := by decide +kernel
theorem dX10_undo_31 : decode cX10_undo 31 = .ok (.iconst 1, 1) := by decide +kernel
theorem dX10_undo_32 : decode cX10_undo 32 = .ok (.isub, 1) := by decide +kernel
theorem dX10_undo_33 : decode cX10_undo 33 = .ok (.putfield 394, 3) := by decide +kernel
theorem dX10_undo_36 : decode cX10_undo 36 = .ok (.aload_n 0, 1) := by decide +kernel
theorem dX10_undo_37 : decode cX10_undo 37 = .ok (.invokevirtual 103, 3) := by decide +kernel
theorem dX10_undo_40 : decode cX10_undo 40 = .ok (.aload_n 0, 1) := by decide +kernel
theorem dX10_undo_41 : decode cX10_undo 41 = .ok (.getfield 23, 3) := by decide +kernel
theorem dX10_undo_44 : decode cX10_undo 44 = .ok (.getfield 394, 3) := by decide +kernel
theorem dX10_undo_47 : decode cX10_undo 47 = .ok (.ireturn, 1) := by decide +kernel
theorem dX10_anew_0 : decode cX10_anew 0 = .ok (.aload_n 0, 1) := by decide +kernel
theorem dX10_anew_1 : decode cX10_anew 1 = .ok (.invokevirtual 196, 3) := by decide +kernel
theorem dX10_anew_4 : decode cX10_anew 4 = .ok (.ifCond .ne 6, 3) := by decide +kernel
theorem dX10_anew_7 : decode cX10_anew 7 = .ok (.bipush (-2), 2) := by decide +kernel
theorem dX10_anew_9 : decode cX10_anew 9 = .ok (.ireturn, 1) := by decide +kernel
theorem dX10_anew_10 : decode cX10_anew 10 = .ok (.aload_n 0, 1) := by decide +kernel
theorem dX10_anew_11 : decode cX10_anew 11 = .ok (.getfield 23, 3) := by decide +kernel
theorem dX10_anew_14 : decode cX10_anew 14 = .ok (.getfield 394, 3) := by decide +kernel
theorem dX10_anew_17 : decode cX10_anew 17 = .ok (.istore_n 1, 1) := by decide +kernel
theorem dX10_anew_18 : decode cX10_anew 18 = .ok (.aload_n 0, 1) := by decide +kernel
theorem dX10_anew_19 : decode cX10_anew 19 = .ok (.getfield 23, 3) := by decide +kernel
theorem dX10_anew_22 : decode cX10_anew 22 = .ok (.iconst 0, 1) := by decide +kernel
theorem dX10_anew_23 : decode cX10_anew 23 = .ok (.putfield 394, 3) := by decide +kernel
theorem dX10_anew_26 : decode cX10_anew 26 = .ok (.aload_n 0, 1) := by decide +kernel
theorem dX10_anew_27 : decode cX10_anew 27 = .ok (.invokevirtual 103, 3) := by decide +kernel
theorem dX10_anew_30 : decode cX10_anew 30 = .ok (.iload_n 1, 1) := by decide +kernel
theorem dX10_anew_31 : decode cX10_anew 31 = .ok (.ireturn, 1) := by decide +kernel
theorem dX10_rate_0 : decode cX10_rate 0 = .ok (.aload_n 0, 1) := by decide +kernel
theorem dX10_rate_1 : decode cX10_rate 1 = .ok (.iload_n 1, 1) := by decide +kernel
theorem dX10_rate_2 : decode cX10_rate 2 = .ok (.invokevirtual 135, 3) := by decide +kernel
theorem dX10_rate_5 : decode cX10_rate 5 = .ok (.ifCond .eq 13, 3) := by decide +kernel
theorem dX10_rate_8 : decode cX10_rate 8 = .ok (.iload_n 2, 1) := by decide +kernel
theorem dX10_rate_9 : decode cX10_rate 9 = .ok (.iconst 1, 1) := by decide +kernel
theorem dX10_rate_10 : decode cX10_rate 10 = .ok (.if_icmp .lt 8, 3) := by decide +kernel
theorem dX10_rate_13 : decode cX10_rate 13 = .ok (.iload_n 2, 1) := by decide +kernel
theorem dX10_rate_14 : decode cX10_rate 14 = .ok (.iconst 4, 1) := by decide +kernel
theorem dX10_rate_15 : decode cX10_rate 15 = .ok (.if_icmp .le 6, 3) := by decide +kernel
theorem dX10_rate_18 : decode cX10_rate 18 = .ok (.bipush (-2), 2) := by decide +kernel
theorem dX10_rate_20 : decode cX10_rate 20 = .ok (.ireturn, 1) := by decide +kernel
theorem dX10_rate_21 : decode cX10_rate 21 = .ok (.aload_n 0, 1) := by decide +kernel
theorem dX10_rate_22 : decode cX10_rate 22 = .ok (.getfield 23, 3) := by decide +kernel
theorem dX10_rate_25 : decode cX10_rate 25 = .ok (.getfield 394, 3) := by decide +kernel
theorem dX10_rate_28 : decode cX10_rate 28 = .ok (.ifCond .le 6, 3) := by decide +kernel
theorem dX10_rate_31 : decode cX10_rate 31 = .ok (.bipush (-5), 2) := by decide +kernel
theorem dX10_rate_33 : decode cX10_rate 33 = .ok (.ireturn, 1) := by decide +kernel
theorem dX10_rate_34 : decode cX10_rate 34 = .ok (.aload_n 0, 1) := by decide +kernel
theorem dX10_rate_35 : decode cX10_rate 35 = .ok (.getfield 23, 3) := by decide +kernel
theorem dX10_rate_38 : decode cX10_rate 38 = .ok (.getfield 139, 3) := by decide +kernel
theorem dX10_rate_41 : decode cX10_rate 41 = .ok (.iload_n 1, 1) := by decide +kernel
theorem dX10_rate_42 : decode cX10_rate 42 = .ok (.iaload, 1) := by decide +kernel
theorem dX10_rate_43 : decode cX10_rate 43 = .ok (.istore_n 3, 1) := by decide +kernel
theorem dX10_rate_44 : decode cX10_rate 44 = .ok (.aload_n 0, 1) := by decide +kernel
theorem dX10_rate_45 : decode cX10_rate 45 = .ok (.getfield 23, 3) := by decide +kernel
theorem dX10_rate_48 : decode cX10_rate 48 = .ok (.getfield 139, 3) := by decide +kernel
theorem dX10_rate_51 : decode cX10_rate 51 = .ok (.iload_n 1, 1) := by decide +kernel
theorem dX10_rate_52 : decode cX10_rate 52 = .ok (.iload_n 2, 1) := by decide +kernel
theorem dX10_rate_53 : decode cX10_rate 53 = .ok (.iastore, 1) := by decide +kernel
theorem dX10_rate_54 : decode cX10_rate 54 = .ok (.aload_n 0, 1) := by decide +kernel
theorem dX10_rate_55 : decode cX10_rate 55 = .ok (.invokevirtual 103, 3) := by decide +kernel
theorem dX10_rate_58 : decode cX10_rate 58 = .ok (.iload_n 3, 1) := by decide +kernel
theorem dX10_rate_59 : decode cX10_rate 59 = .ok (.ireturn, 1) := by decide +kernel
theorem dX10_drawn_0 : decode cX10_drawn 0 = .ok (.aload_n 0, 1) := by decide +kernel
theorem dX10_drawn_1 : decode cX10_drawn 1 = .ok (.invokevirtual 196, 3) := by decide +kernel
theorem dX10_drawn_4 : decode cX10_drawn 4 = .ok (.ifCond .eq 17, 3) := by decide +kernel
theorem dX10_drawn_7 : decode cX10_drawn 7 = .ok (.iload_n 1, 1) := by decide +kernel
theorem dX10_drawn_8 : decode cX10_drawn 8 = .ok (.invokestatic 404, 3) := by decide +kernel
theorem dX10_drawn_11 : decode cX10_drawn 11 = .ok (.ifCond .eq 10, 3) := by decide +kernel
theorem dX10_drawn_14 : decode cX10_drawn 14 = .ok (.iload_n 2, 1) := by decide +kernel
theorem dX10_drawn_15 : decode cX10_drawn 15 = .ok (.invokestatic 168, 3) := by decide +kernel
theorem dX10_drawn_18 : decode cX10_drawn 18 = .ok (.ifCond .ne 6, 3) := by decide +kernel
theorem dX10_drawn_21 : decode cX10_drawn 21 = .ok (.bipush (-2), 2) := by decide +kernel
theorem dX10_drawn_23 : decode cX10_drawn 23 = .ok (.ireturn, 1) := by decide +kernel
theorem dX10_drawn_24 : decode cX10_drawn 24 = .ok (.aload_n 0, 1) := by decide +kernel
theorem dX10_drawn_25 : decode cX10_drawn 25 = .ok (.getfield 91, 3) := by decide +kernel
theorem dX10_drawn_28 : decode cX10_drawn 28 = .ok (.iload_n 1, 1) := by decide +kernel
theorem dX10_drawn_29 : decode cX10_drawn 29 = .ok (.invokevirtual 407, 3) := by decide +kernel
theorem dX10_drawn_32 : decode cX10_drawn 32 = .ok (.istore_n 3, 1) := by decide +kernel
theorem dX10_drawn_33 : decode cX10_drawn 33 = .ok (.iload_n 2, 1) := by decide +kernel
theorem dX10_drawn_34 : decode cX10_drawn 34 = .ok (.ifCond .ne 5, 3) := by decide +kernel
theorem dX10_drawn_37 : decode cX10_drawn 37 = .ok (.iload_n 3, 1) := by decide +kernel
theorem dX10_drawn_38 : decode cX10_drawn 38 = .ok (.ireturn, 1) := by decide +kernel
theorem dX10_drawn_39 : decode cX10_drawn 39 = .ok (.aload_n 0, 1) := by decide +kernel
theorem dX10_drawn_40 : decode cX10_drawn 40 = .ok (.getfield 42, 3) := by decide +kernel
theorem dX10_drawn_43 : decode cX10_drawn 43 = .ok (.iload_n 3, 1) := by decide +kernel
theorem dX10_drawn_44 : decode cX10_drawn 44 = .ok (.invokevirtual 410, 3) := by decide +kernel
theorem dX10_drawn_47 : decode cX10_drawn 47 = .ok (.aload_n 0, 1) := by decide +kernel
theorem dX10_drawn_48 : decode cX10_drawn 48 = .ok (.getfield 42, 3) := by decide +kernel
theorem dX10_drawn_51 : decode cX10_drawn 51 = .ok (.invokevirtual 359, 3) := by decide +kernel
theorem dX10_drawn_54 : decode cX10_drawn 54 = .ok (.aload_n 0, 1) := by decide +kernel
theorem dX10_drawn_55 : decode cX10_drawn 55 = .ok (.getfield 42, 3) := by decide +kernel
theorem dX10_drawn_58 : decode cX10_drawn 58 = .ok (.invokevirtual 362, 3) := by decide +kernel
theorem dX10_drawn_61 : decode cX10_drawn 61 = .ok (.iload_n 2, 1) := by decide +kernel
theorem dX10_drawn_62 : decode cX10_drawn 62 = .ok (.invokestatic 365, 3) := by decide +kernel
theorem dX10_drawn_65 : decode cX10_drawn 65 = .ok (.ireturn, 1) := by decide +kernel
theorem dX10_luck_0 : decode cX10_luck 0 = .ok (.iload_n 1, 1) := by decide +kernel
theorem dX10_luck_1 : decode cX10_luck 1 = .ok (.invokestatic 404, 3) := by decide +kernel
theorem dX10_luck_4 : decode cX10_luck 4 = .ok (.ifCond .eq 34, 3) := by decide +kernel
theorem dX10_luck_7 : decode cX10_luck 7 = .ok (.iload_n 2, 1) := by decide +kernel
theorem dX10_luck_8 : decode cX10_luck 8 = .ok (.iconst 1, 1) := by decide +kernel
theorem dX10_luck_9 : decode cX10_luck 9 = .ok (.if_icmp .lt 29, 3) := by decide +kernel
theorem dX10_luck_12 : decode cX10_luck 12 = .ok (.iload_n 2, 1) := by decide +kernel
theorem dX10_luck_13 : decode cX10_luck 13 = .ok (.bipush 20, 2) := by decide +kernel
theorem dX10_luck_15 : decode cX10_luck 15 = .ok (.if_icmp .gt 23, 3) := by decide +kernel
theorem dX10_luck_18 : decode cX10_luck 18 = .ok (.aload_n 0, 1) := by decide +kernel
theorem dX10_luck_19 : decode cX10_luck 19 = .ok (.iload_n 3, 1) := by decide +kernel
theorem dX10_luck_20 : decode cX10_luck 20 = .ok (.invokevirtual 135, 3) := by decide +kernel
theorem dX10_luck_23 : decode cX10_luck 23 = .ok (.ifCond .eq 15, 3) := by decide +kernel
theorem dX10_luck_26 : decode cX10_luck 26 = .ok (.iload 4, 2) := by decide +kernel
theorem dX10_luck_28 : decode cX10_luck 28 = .ok (.invokestatic 168, 3) := by decide +kernel
theorem dX10_luck_31 : decode cX10_luck 31 = .ok (.ifCond .eq 7, 3) := by decide +kernel
theorem dX10_luck_34 : decode cX10_luck 34 = .ok (.iconst 1, 1) := by decide +kernel
theorem dX10_luck_35 : decode cX10_luck 35 = .ok (.goto 4, 3) := by decide +kernel
theorem dX10_luck_38 : decode cX10_luck 38 = .ok (.iconst 0, 1) := by decide +kernel
theorem dX10_luck_39 : decode cX10_luck 39 = .ok (.istore 5, 2) := by decide +kernel
theorem dX10_luck_41 : decode cX10_luck 41 = .ok (.iload 5, 2) := by decide +kernel
theorem dX10_luck_43 : decode cX10_luck 43 = .ok (.ifCond .eq 18, 3) := by decide +kernel
theorem dX10_luck_46 : decode cX10_luck 46 = .ok (.aload_n 0, 1) := by decide +kernel
theorem dX10_luck_47 : decode cX10_luck 47 = .ok (.getfield 91, 3) := by decide +kernel
theorem dX10_luck_50 : decode cX10_luck 50 = .ok (.iload_n 1, 1) := by decide +kernel
theorem dX10_luck_51 : decode cX10_luck 51 = .ok (.iload_n 2, 1) := by decide +kernel
theorem dX10_luck_52 : decode cX10_luck 52 = .ok (.iload_n 3, 1) := by decide +kernel
theorem dX10_luck_53 : decode cX10_luck 53 = .ok (.iload 4, 2) := by decide +kernel
theorem dX10_luck_55 : decode cX10_luck 55 = .ok (.invokevirtual 413, 3) := by decide +kernel
theorem dX10_luck_58 : decode cX10_luck 58 = .ok (.goto 5, 3) := by decide +kernel
theorem dX10_luck_61 : decode cX10_luck 61 = .ok (.bipush (-2), 2) := by decide +kernel
theorem dX10_luck_63 : decode cX10_luck 63 = .ok (.ireturn, 1) := by decide +kernel
theorem dX10_count_0 : decode cX10_count 0 = .ok (.iload_n 1, 1) := by decide +kernel
theorem dX10_count_1 : decode cX10_count 1 = .ok (.tableswitch 147 0 10 #[59, 67, 75, 83, 91, 99, 107, 115, 123, 131, 139], 59) := by decide +kernel
theorem dX10_count_60 : decode cX10_count 60 = .ok (.aload_n 0, 1) := by decide +kernel
theorem dX10_count_61 : decode cX10_count 61 = .ok (.getfield 23, 3) := by decide +kernel
theorem dX10_count_64 : decode cX10_count 64 = .ok (.getfield 401, 3) := by decide +kernel
theorem dX10_count_67 : decode cX10_count 67 = .ok (.ireturn, 1) := by decide +kernel
theorem dX10_count_68 : decode cX10_count 68 = .ok (.aload_n 0, 1) := by decide +kernel
theorem dX10_count_69 : decode cX10_count 69 = .ok (.getfield 23, 3) := by decide +kernel
theorem dX10_count_72 : decode cX10_count 72 = .ok (.getfield 417, 3) := by decide +kernel
theorem dX10_count_75 : decode cX10_count 75 = .ok (.ireturn, 1) := by decide +kernel
theorem dX10_count_76 : decode cX10_count 76 = .ok (.aload_n 0, 1) := by decide +kernel
theorem dX10_count_77 : decode cX10_count 77 = .ok (.getfield 23, 3) := by decide +kernel
theorem dX10_count_80 : decode cX10_count 80 = .ok (.getfield 420, 3) := by decide +kernel
theorem dX10_count_83 : decode cX10_count 83 = .ok (.ireturn, 1) := by decide +kernel
theorem dX10_count_84 : decode cX10_count 84 = .ok (.aload_n 0, 1) := by decide +kernel
theorem dX10_count_85 : decode cX10_count 85 = .ok (.getfield 23, 3) := by decide +kernel
theorem dX10_count_88 : decode cX10_count 88 = .ok (.getfield 423, 3) := by decide +kernel
theorem dX10_count_91 : decode cX10_count 91 = .ok (.ireturn, 1) := by decide +kernel
theorem dX10_count_92 : decode cX10_count 92 = .ok (.aload_n 0, 1) := by decide +kernel
theorem dX10_count_93 : decode cX10_count 93 = .ok (.getfield 23, 3) := by decide +kernel
theorem dX10_count_96 : decode cX10_count 96 = .ok (.getfield 296, 3) := by decide +kernel
theorem dX10_count_99 : decode cX10_count 99 = .ok (.ireturn, 1) := by decide +kernel
theorem dX10_count_100 : decode cX10_count 100 = .ok (.aload_n 0, 1) := by decide +kernel
theorem dX10_count_101 : decode cX10_count 101 = .ok (.getfield 23, 3) := by decide +kernel
theorem dX10_count_104 : decode cX10_count 104 = .ok (.getfield 426, 3) := by decide +kernel
theorem dX10_count_107 : decode cX10_count 107 = .ok (.ireturn, 1) := by decide +kernel
theorem dX10_count_108 : decode cX10_count 108 = .ok (.aload_n 0, 1) := by decide +kernel
theorem dX10_count_109 : decode cX10_count 109 = .ok (.getfield 23, 3) := by decide +kernel
theorem dX10_count_112 : decode cX10_count 112 = .ok (.getfield 429, 3) := by decide +kernel
theorem dX10_count_115 : decode cX10_count 115 = .ok (.ireturn, 1) := by decide +kernel
theorem dX10_count_116 : decode cX10_count 116 = .ok (.aload_n 0, 1) := by decide +kernel
theorem dX10_count_117 : decode cX10_count 117 = .ok (.getfield 23, 3) := by decide +kernel
theorem dX10_count_120 : decode cX10_count 120 = .ok (.getfield 394, 3) := by decide +kernel
theorem dX10_count_123 : decode cX10_count 123 = .ok (.ireturn, 1) := by decide +kernel
theorem dX10_count_124 : decode cX10_count 124 = .ok (.aload_n 0, 1) := by decide +kernel
theorem dX10_count_125 : decode cX10_count 125 = .ok (.getfield 23, 3) := by decide +kernel
theorem dX10_count_128 : decode cX10_count 128 = .ok (.getfield 126, 3) := by decide +kernel
theorem dX10_count_131 : decode cX10_count 131 = .ok (.ireturn, 1) := by decide +kernel
theorem dX10_count_132 : decode cX10_count 132 = .ok (.aload_n 0, 1) := by decide +kernel
theorem dX10_count_133 : decode cX10_count 133 = .ok (.getfield 10, 3) := by decide +kernel
theorem dX10_count_136 : decode cX10_count 136 = .ok (.getfield 114, 3) := by decide +kernel
theorem dX10_count_139 : decode cX10_count 139 = .ok (.ireturn, 1) := by decide +kernel
theorem dX10_count_140 : decode cX10_count 140 = .ok (.aload_n 0, 1) := by decide +kernel
theorem dX10_count_141 : decode cX10_count 141 = .ok (.getfield 73, 3) := by decide +kernel
theorem dX10_count_144 : decode cX10_count 144 = .ok (.invokevirtual 432, 3) := by decide +kernel
theorem dX10_count_147 : decode cX10_count 147 = .ok (.ireturn, 1) := by decide +kernel
theorem dX10_count_148 : decode cX10_count 148 = .ok (.iconst (-1), 1) := by decide +kernel
theorem dX10_count_149 : decode cX10_count 149 = .ok (.ireturn, 1) := by decide +kernel
set_option maxHeartbeats 4000000 in
set_option maxRecDepth 100000 in
theorem ctX10_fewest (l : Launch) (D : va_G) (k : Nat → ClassId) (z : Nat → Nat) (o : Nat → Nat) (f74 : Nat → Int32) (f76 : Nat → Int32) (tlawNow : Int32) (tharder : Int32) (ttold : Int32) (treply : Int32) (twet : Int32) (f73 : Nat → Int32) (f69 : Nat → Int32) (f70 : Nat → Int32) (f71 : Nat → Int32) (glines : Int32) (ghours : Nat) (glaw : Int32) (godds : Int32) (grows : Nat) (gheads : Nat) (gsayings : Nat) (gslugs : Nat) (gacts : Nat) (f26 : Nat → Int32) (f30 : Nat → Int32) (f31 : Nat → Int32) (p0 : Int32) (hghours : ghours ≤ 16) (hgrows : grows ≤ 4) (hgheads : gheads ≤ 12) (hgsayings : gsayings ≤ 8) (hgslugs : gslugs ≤ 4) (hgacts : gacts ≤ 30) : MU l yX10_fewest cX10_fewest 3 (some .int) 19 D k z [.ref (o 0), .int p0] [((o 0), .inr (10, [.ref (o 1), .ref (o 2), .ref (o 3), .ref (o 4), .ref (o 5), .ref (o 6), .ref (o 7), .ref (o 8), .ref (o 9), .ref (o 10), .ref (o 11), .ref (o 12), .ref (o 13), .ref (o 14)])), ((o 8), .inr (8, [.ref (o 3), .ref (o 4), .ref (o 6), .ref (o 74), .ref (o 75), .ref (o 76)])), ((o 74), .inl (k 0, 3, .inl f74)), ((o 76), .inl (k 3, 3, .inl f76)), ((o 6), .inr (1, [.ref (o 3), .ref (o 4), .int tlawNow, .int tharder, .int ttold, .int treply, .int twet, .ref (o 73)])), ((o 73), .inl (k 0, 17, .inl f73)), ((o 4), .inr (3, [.ref (o 69), .ref (o 70), .ref (o 71)])), ((o 69), .inl (k 0, 17, .inl f69)), ((o 70), .inl (k 0, 17, .inl f70)), ((o 71), .inl (k 0, 17, .inl f71)), ((o 3), .inr (2, [.int glines, .int (nI ghours), .int glaw, .int godds, .int (nI grows), .int (nI gheads), .int (nI gsayings), .int (nI gslugs), .int (nI gacts), .ref (o 26), .ref (o 27), .ref (o 28), .ref (o 29), .ref (o 30), .ref (o 31), .ref (o 32), .ref (o 33), .ref (o 34), .ref (o 35)])), ((o 26), .inl (k 0, 12, .inl f26)), ((o 30), .inl (k 0, 12, .inl f30)), ((o 31), .inl (k 0, 12, .inl f31))] 0 0 (Ui D (fun (r : Int32) (u : (Nat → Int32) × (Nat → Nat) × (Nat → Nat → Int32) × (Nat → Nat → Int64) × (Nat → Int64)) => (u.2.1 0 ≤ 12)) (fun u : (Nat → Int32) × (Nat → Nat) × (Nat → Nat → Int32) × (Nat → Nat → Int64) × (Nat → Int64) => [((o 0), .inr (10, [.ref (o 1), .ref (o 2), .ref (o 3), .ref (o 4), .ref (o 5), .ref (o 6), .ref (o 7), .ref (o 8), .ref (o 9), .ref (o 10), .ref (o 11), .ref (o 12), .ref (o 13), .ref (o 14)])), ((o 8), .inr (8, [.ref (o 3), .ref (o 4), .ref (o 6), .ref (o 74), .ref (o 75), .ref (o 76)])), ((o 74), .inl (k 0, 3, .inl (u.2.2.1 1))), ((o 76), .inl (k 3, 3, .inl f76)), ((o 6), .inr (1, [.ref (o 3), .ref (o 4), .int (u.1 0), .int (u.1 1), .int (u.1 2), .int (u.1 3), .int (u.1 4), .ref (o 73)])), ((o 73), .inl (k 0, 17, .inl (u.2.2.1 0))), ((o 4), .inr (3, [.ref (o 69), .ref (o 70), .ref (o 71)])), ((o 69), .inl (k 0, 17, .inl f69)), ((o 70), .inl (k 0, 17, .inl f70)), ((o 71), .inl (k 0, 17, .inl f71)), ((o 3), .inr (2, [.int glines, .int (nI ghours), .int glaw, .int godds, .int (nI grows), .int (nI (u.2.1 0)), .int (nI gsayings), .int (nI gslugs), .int (nI gacts), .ref (o 26), .ref (o 27), .ref (o 28), .ref (o 29), .ref (o 30), .ref (o 31), .ref (o 32), .ref (o 33), .ref (o 34), .ref (o 35)])), ((o 26), .inl (k 0, 12, .inl f26)), ((o 30), .inl (k 0, 12, .inl f30)), ((o 31), .inl (k 0, 12, .inl f31))])) := by
  refine MU.of (by decide) (Nat.le_of_ble_eq_true rfl) ?_
  intro p e s m below meth c ls A args Q S hr hlk hnm hQ hK hP hD hZ hA hS hl
  have hx := S.1
  have hb := S.2.1
  have hl : lv_has ls 3 [(0, .ref (o 0)), (1, .int p0)] := hl
  refine lv_aload_n hx hb dX10_fewest_0 rfl (lv_at hl 0 rfl) ?_
  refine x_roVi (As := []) S hK hP hD hZ (fun _ h => h) hA hS hA hl mwX10_isGarden lkX10_196 (ctX10_isGarden l D k z o glines ghours glaw godds grows gheads gsayings gslugs gacts (by omega) (by omega) (by omega) (by omega) (by omega) (by omega)) [0, 10] rfl (by decide) rfl rfl rfl rfl rfl ⟨Nat.le_of_ble_eq_true rfl, Nat.le_of_ble_eq_true rfl, Nat.le_of_ble_eq_true rfl⟩ dX10_fewest_1 ⟨Nat.le_of_ble_eq_true rfl, Nat.le_of_ble_eq_true rfl⟩ (fun r_1 H locs hr_1 hP hS => ?_)
  refine lv_if_eq (tgt := 14) hx hb dX10_fewest_4 (by decide) (fun c_3 => ?_) (fun c_3 => ?_)
  · skip
    refine lv_bipush (v := (-2)) hx hb dX10_fewest_14 (by decide) ?_
    exact x_reti S hr hlk hQ hS ((fun i => ([tlawNow, tharder, ttold, treply, twet] : List (Int32)).getD i 0), (fun i => ([gheads] : List (Nat)).getD i 0), (fun i => ([f73, f74] : List (Nat → Int32)).getD i (fun _ => 0)), (fun i => ([] : List (Nat → Int64)).getD i (fun _ => 0)), (fun i => ([] : List (Int64)).getD i 0)) (show gheads ≤ 12 by omega) (x_B hP hD) dX10_fewest_16
  · skip
    refine lv_iload_n hx hb dX10_fewest_7 rfl (lv_at hl 1 rfl) ?_
    refine x_roSi (As := [.int p0]) S hK hP hD hZ (fun _ h => h) hA hS hA hl mwX10_isView lkX10_184 (ctX10_isView l D k z p0 ) [] rfl (by decide) rfl rfl ⟨Nat.le_of_ble_eq_true rfl, Nat.le_of_ble_eq_true rfl, Nat.le_of_ble_eq_true rfl⟩ dX10_fewest_8 ⟨Nat.le_of_ble_eq_true rfl, Nat.le_of_ble_eq_true rfl⟩ (fun r_4 H locs hr_4 hP hS => ?_)
    have hp_6 := hr_4
    refine lv_if_ne (tgt := 17) hx hb dX10_fewest_11 (by decide) (fun c_7 => ?_) (fun c_7 => ?_)
    · skip
      obtain ⟨n_8, rfl, hn_8⟩ := hp_6.resolve_left c_7
      refine lv_aload_n hx hb dX10_fewest_17 rfl (lv_at hl 0 rfl) ?_
      refine x_get S hK hP 0 rfl cfX10 7 lkX10_57 (by decide) rfl dX10_fewest_18 ?_
      refine lv_iload_n hx hb dX10_fewest_21 rfl (lv_at hl 1 rfl) ?_
      refine x_muVi (wr := [((o 0), .inr (10, [.ref (o 1), .ref (o 2), .ref (o 3), .ref (o 4), .ref (o 5), .ref (o 6), .ref (o 7), .ref (o 8), .ref (o 9), .ref (o 10), .ref (o 11), .ref (o 12), .ref (o 13), .ref (o 14)]))]) (As := [.int (nI n_8)]) S hK hP hD hZ hS hA hl mwX8_leastSet lkX10_274 (ctX8_leastSet l D k z o f74 f76 tlawNow tharder ttold treply twet f73 f69 f70 f71 glines ghours glaw godds grows gheads gsayings gslugs gacts f26 f30 f31 n_8 (by omega) (by omega) (by omega) (by omega) (by omega) (by omega) (by omega)) [1, 2, 3, 4, 5, 6, 7, 8, 9, 10, 11, 12, 13] [0] rfl rfl (by decide) (by decide) (by decide) rfl rfl rfl rfl rfl ⟨Nat.le_of_ble_eq_true rfl, Nat.le_of_ble_eq_true rfl, Nat.le_of_ble_eq_true rfl⟩ dX10_fewest_22 ⟨Nat.le_of_ble_eq_true rfl, Nat.le_of_ble_eq_true rfl⟩ (fun r_9 u_10 H locs hr_9 hP hD hS => ?_)
      have hP : va_P D vwCl [((o 0), .inr (10, [.ref (o 1), .ref (o 2), .ref (o 3), .ref (o 4), .ref (o 5), .ref (o 6), .ref (o 7), .ref (o 8), .ref (o 9), .ref (o 10), .ref (o 11), .ref (o 12), .ref (o 13), .ref (o 14)])), ((o 8), .inr (8, [.ref (o 3), .ref (o 4), .ref (o 6), .ref (o 74), .ref (o 75), .ref (o 76)])), ((o 74), .inl (k 0, 3, .inl (u_10.2.2.1 1))), ((o 76), .inl (k 3, 3, .inl f76)), ((o 6), .inr (1, [.ref (o 3), .ref (o 4), .int (u_10.1 0), .int (u_10.1 1), .int (u_10.1 2), .int (u_10.1 3), .int (u_10.1 4), .ref (o 73)])), ((o 73), .inl (k 0, 17, .inl (u_10.2.2.1 0))), ((o 4), .inr (3, [.ref (o 69), .ref (o 70), .ref (o 71)])), ((o 69), .inl (k 0, 17, .inl f69)), ((o 70), .inl (k 0, 17, .inl f70)), ((o 71), .inl (k 0, 17, .inl f71)), ((o 3), .inr (2, [.int glines, .int (nI ghours), .int glaw, .int godds, .int (nI grows), .int (nI (u_10.2.1 0)), .int (nI gsayings), .int (nI gslugs), .int (nI gacts), .ref (o 26), .ref (o 27), .ref (o 28), .ref (o 29), .ref (o 30), .ref (o 31), .ref (o 32), .ref (o 33), .ref (o 34), .ref (o 35)])), ((o 26), .inl (k 0, 12, .inl f26)), ((o 30), .inl (k 0, 12, .inl f30)), ((o 31), .inl (k 0, 12, .inl f31))] H := hP.sub [0, 1, 2, 3, 4, 5, 6, 7, 8, 9, 10, 11, 12, 13] rfl
      have hD : va_D A [((o 0), .inr (10, [.ref (o 1), .ref (o 2), .ref (o 3), .ref (o 4), .ref (o 5), .ref (o 6), .ref (o 7), .ref (o 8), .ref (o 9), .ref (o 10), .ref (o 11), .ref (o 12), .ref (o 13), .ref (o 14)])), ((o 8), .inr (8, [.ref (o 3), .ref (o 4), .ref (o 6), .ref (o 74), .ref (o 75), .ref (o 76)])), ((o 74), .inl (k 0, 3, .inl (u_10.2.2.1 1))), ((o 76), .inl (k 3, 3, .inl f76)), ((o 6), .inr (1, [.ref (o 3), .ref (o 4), .int (u_10.1 0), .int (u_10.1 1), .int (u_10.1 2), .int (u_10.1 3), .int (u_10.1 4), .ref (o 73)])), ((o 73), .inl (k 0, 17, .inl (u_10.2.2.1 0))), ((o 4), .inr (3, [.ref (o 69), .ref (o 70), .ref (o 71)])), ((o 69), .inl (k 0, 17, .inl f69)), ((o 70), .inl (k 0, 17, .inl f70)), ((o 71), .inl (k 0, 17, .inl f71)), ((o 3), .inr (2, [.int glines, .int (nI ghours), .int glaw, .int godds, .int (nI grows), .int (nI (u_10.2.1 0)), .int (nI gsayings), .int (nI gslugs), .int (nI gacts), .ref (o 26), .ref (o 27), .ref (o 28), .ref (o 29), .ref (o 30), .ref (o 31), .ref (o 32), .ref (o 33), .ref (o 34), .ref (o 35)])), ((o 26), .inl (k 0, 12, .inl f26)), ((o 30), .inl (k 0, 12, .inl f30)), ((o 31), .inl (k 0, 12, .inl f31))] := hD.sub [0, 1, 2, 3, 4, 5, 6, 7, 8, 9, 10, 11, 12, 13] (by decide) rfl
      have hg_11 := hr_9
      refine lv_istore_n (lv' := [(2, .int r_9), (0, .ref (o 0)), (1, .int (nI n_8))]) hx hb dX10_fewest_25 rfl hl (by decide) rfl (fun ls hl => ?_)
      refine lv_iload_n hx hb dX10_fewest_26 rfl (lv_at hl 0 rfl) ?_
      refine lv_iconst (v := (-1)) hx hb dX10_fewest_27 (by decide) ?_
      refine lv_icmp_ne (tgt := 35) hx hb dX10_fewest_28 (by decide) (fun c_12 => ?_) (fun c_12 => ?_)
      · skip
        refine lv_iload_n hx hb dX10_fewest_35 rfl (lv_at hl 0 rfl) ?_
        refine x_roSi (As := [.int r_9]) S hK hP hD hZ (fun _ h => h) hA hS hA hl mwJ6_bitCount_0f7a4 lkX10_277 (ctJ6_bitCount_0f7a4 l D k z r_9 ) [] rfl (by decide) rfl rfl ⟨Nat.le_of_ble_eq_true rfl, Nat.le_of_ble_eq_true rfl, Nat.le_of_ble_eq_true rfl⟩ dX10_fewest_36 ⟨Nat.le_of_ble_eq_true rfl, Nat.le_of_ble_eq_true rfl⟩ (fun r_13 H locs hr_13 hP hS => ?_)
        obtain ⟨n_15, rfl, hn_15⟩ := hr_13
        exact x_reti S hr hlk hQ hS ((fun i => ([(u_10.1 0), (u_10.1 1), (u_10.1 2), (u_10.1 3), (u_10.1 4)] : List (Int32)).getD i 0), (fun i => ([u_10.2.1 0] : List (Nat)).getD i 0), (fun i => ([(u_10.2.2.1 0), (u_10.2.2.1 1)] : List (Nat → Int32)).getD i (fun _ => 0)), (fun i => ([] : List (Nat → Int64)).getD i (fun _ => 0)), (fun i => ([] : List (Int64)).getD i 0)) (show u_10.2.1 0 ≤ 12 by omega) (x_B hP hD) dX10_fewest_39
      · skip
        refine lv_iconst (v := (-1)) hx hb dX10_fewest_31 (by decide) ?_
        refine lv_goto (tgt := 39) hx hb dX10_fewest_32 (by decide) ?_
        exact x_reti S hr hlk hQ hS ((fun i => ([(u_10.1 0), (u_10.1 1), (u_10.1 2), (u_10.1 3), (u_10.1 4)] : List (Int32)).getD i 0), (fun i => ([u_10.2.1 0] : List (Nat)).getD i 0), (fun i => ([(u_10.2.2.1 0), (u_10.2.2.1 1)] : List (Nat → Int32)).getD i (fun _ => 0)), (fun i => ([] : List (Nat → Int64)).getD i (fun _ => 0)), (fun i => ([] : List (Int64)).getD i 0)) (show u_10.2.1 0 ≤ 12 by omega) (x_B hP hD) dX10_fewest_39
    · skip
      refine lv_bipush (v := (-2)) hx hb dX10_fewest_14 (by decide) ?_
      exact x_reti S hr hlk hQ hS ((fun i => ([tlawNow, tharder, ttold, treply, twet] : List (Int32)).getD i 0), (fun i => ([gheads] : List (Nat)).getD i 0), (fun i => ([f73, f74] : List (Nat → Int32)).getD i (fun _ => 0)), (fun i => ([] : List (Nat → Int64)).getD i (fun _ => 0)), (fun i => ([] : List (Int64)).getD i 0)) (show gheads ≤ 12 by omega) (x_B hP hD) dX10_fewest_16

set_option maxHeartbeats 4000000 in
set_option maxRecDepth 100000 in
theorem ctX10_tell (l : Launch) (D : va_G) (k : Nat → ClassId) (z : Nat → Nat) (o : Nat → Nat) (f74 : Nat → Int32) (f76 : Nat → Int32) (tlawNow : Int32) (tharder : Int32) (ttold : Int32) (treply : Int32) (twet : Int32) (f73 : Nat → Int32) (f69 : Nat → Int32) (f70 : Nat → Int32) (f71 : Nat → Int32) (glines : Int32) (ghours : Nat) (glaw : Int32) (godds : Int32) (grows : Nat) (gheads : Nat) (gsayings : Nat) (gslugs : Nat) (gacts : Nat) (f26 : Nat → Int32) (f30 : Nat → Int32) (f31 : Nat → Int32) (p0 : Int32) (hghours : ghours ≤ 16) (hgrows : grows ≤ 4) (hgheads : gheads ≤ 12) (hgsayings : gsayings ≤ 8) (hgslugs : gslugs ≤ 4) (hgacts : gacts ≤ 30) : MU l yX10_tell cX10_tell 2 (some .int) 19 D k z [.ref (o 0), .int p0] [((o 0), .inr (10, [.ref (o 1), .ref (o 2), .ref (o 3), .ref (o 4), .ref (o 5), .ref (o 6), .ref (o 7), .ref (o 8), .ref (o 9), .ref (o 10), .ref (o 11), .ref (o 12), .ref (o 13), .ref (o 14)])), ((o 8), .inr (8, [.ref (o 3), .ref (o 4), .ref (o 6), .ref (o 74), .ref (o 75), .ref (o 76)])), ((o 74), .inl (k 0, 3, .inl f74)), ((o 76), .inl (k 3, 3, .inl f76)), ((o 6), .inr (1, [.ref (o 3), .ref (o 4), .int tlawNow, .int tharder, .int ttold, .int treply, .int twet, .ref (o 73)])), ((o 73), .inl (k 0, 17, .inl f73)), ((o 4), .inr (3, [.ref (o 69), .ref (o 70), .ref (o 71)])), ((o 69), .inl (k 0, 17, .inl f69)), ((o 70), .inl (k 0, 17, .inl f70)), ((o 71), .inl (k 0, 17, .inl f71)), ((o 3), .inr (2, [.int glines, .int (nI ghours), .int glaw, .int godds, .int (nI grows), .int (nI gheads), .int (nI gsayings), .int (nI gslugs), .int (nI gacts), .ref (o 26), .ref (o 27), .ref (o 28), .ref (o 29), .ref (o 30), .ref (o 31), .ref (o 32), .ref (o 33), .ref (o 34), .ref (o 35)])), ((o 26), .inl (k 0, 12, .inl f26)), ((o 30), .inl (k 0, 12, .inl f30)), ((o 31), .inl (k 0, 12, .inl f31))] 0 0 (Ui D (fun (r : Int32) (u : (Nat → Int32) × (Nat → Nat) × (Nat → Nat → Int32) × (Nat → Nat → Int64) × (Nat → Int64)) => (u.2.1 0 ≤ 12)) (fun u : (Nat → Int32) × (Nat → Nat) × (Nat → Nat → Int32) × (Nat → Nat → Int64) × (Nat → Int64) => [((o 0), .inr (10, [.ref (o 1), .ref (o 2), .ref (o 3), .ref (o 4), .ref (o 5), .ref (o 6), .ref (o 7), .ref (o 8), .ref (o 9), .ref (o 10), .ref (o 11), .ref (o 12), .ref (o 13), .ref (o 14)])), ((o 8), .inr (8, [.ref (o 3), .ref (o 4), .ref (o 6), .ref (o 74), .ref (o 75), .ref (o 76)])), ((o 74), .inl (k 0, 3, .inl (u.2.2.1 1))), ((o 76), .inl (k 3, 3, .inl f76)), ((o 6), .inr (1, [.ref (o 3), .ref (o 4), .int (u.1 0), .int (u.1 1), .int (u.1 2), .int (u.1 3), .int (u.1 4), .ref (o 73)])), ((o 73), .inl (k 0, 17, .inl (u.2.2.1 0))), ((o 4), .inr (3, [.ref (o 69), .ref (o 70), .ref (o 71)])), ((o 69), .inl (k 0, 17, .inl f69)), ((o 70), .inl (k 0, 17, .inl f70)), ((o 71), .inl (k 0, 17, .inl f71)), ((o 3), .inr (2, [.int glines, .int (nI ghours), .int glaw, .int godds, .int (nI grows), .int (nI (u.2.1 0)), .int (nI gsayings), .int (nI gslugs), .int (nI gacts), .ref (o 26), .ref (o 27), .ref (o 28), .ref (o 29), .ref (o 30), .ref (o 31), .ref (o 32), .ref (o 33), .ref (o 34), .ref (o 35)])), ((o 26), .inl (k 0, 12, .inl f26)), ((o 30), .inl (k 0, 12, .inl f30)), ((o 31), .inl (k 0, 12, .inl f31))])) := by
  refine MU.of (by decide) (Nat.le_of_ble_eq_true rfl) ?_
  intro p e s m below meth c ls A args Q S hr hlk hnm hQ hK hP hD hZ hA hS hl
  have hx := S.1
  have hb := S.2.1
  have hl : lv_has ls 2 [(0, .ref (o 0)), (1, .int p0)] := hl
  refine lv_aload_n hx hb dX10_tell_0 rfl (lv_at hl 0 rfl) ?_
  refine x_roVi (As := []) S hK hP hD hZ (fun _ h => h) hA hS hA hl mwX10_isGarden lkX10_196 (ctX10_isGarden l D k z o glines ghours glaw godds grows gheads gsayings gslugs gacts (by omega) (by omega) (by omega) (by omega) (by omega) (by omega)) [0, 10] rfl (by decide) rfl rfl rfl rfl rfl ⟨Nat.le_of_ble_eq_true rfl, Nat.le_of_ble_eq_true rfl, Nat.le_of_ble_eq_true rfl⟩ dX10_tell_1 ⟨Nat.le_of_ble_eq_true rfl, Nat.le_of_ble_eq_true rfl⟩ (fun r_1 H locs hr_1 hP hS => ?_)
  refine lv_if_eq (tgt := 25) hx hb dX10_tell_4 (by decide) (fun c_3 => ?_) (fun c_3 => ?_)
  · skip
    refine lv_bipush (v := (-2)) hx hb dX10_tell_25 (by decide) ?_
    exact x_reti S hr hlk hQ hS ((fun i => ([tlawNow, tharder, ttold, treply, twet] : List (Int32)).getD i 0), (fun i => ([gheads] : List (Nat)).getD i 0), (fun i => ([f73, f74] : List (Nat → Int32)).getD i (fun _ => 0)), (fun i => ([] : List (Nat → Int64)).getD i (fun _ => 0)), (fun i => ([] : List (Int64)).getD i 0)) (show gheads ≤ 12 by omega) (x_B hP hD) dX10_tell_27
  · skip
    refine lv_iload_n hx hb dX10_tell_7 rfl (lv_at hl 1 rfl) ?_
    refine x_roSi (As := [.int p0]) S hK hP hD hZ (fun _ h => h) hA hS hA hl mwX10_isView lkX10_184 (ctX10_isView l D k z p0 ) [] rfl (by decide) rfl rfl ⟨Nat.le_of_ble_eq_true rfl, Nat.le_of_ble_eq_true rfl, Nat.le_of_ble_eq_true rfl⟩ dX10_tell_8 ⟨Nat.le_of_ble_eq_true rfl, Nat.le_of_ble_eq_true rfl⟩ (fun r_4 H locs hr_4 hP hS => ?_)
    have hp_6 := hr_4
    refine lv_if_eq (tgt := 25) hx hb dX10_tell_11 (by decide) (fun c_7 => ?_) (fun c_7 => ?_)
    · skip
      refine lv_bipush (v := (-2)) hx hb dX10_tell_25 (by decide) ?_
      exact x_reti S hr hlk hQ hS ((fun i => ([tlawNow, tharder, ttold, treply, twet] : List (Int32)).getD i 0), (fun i => ([gheads] : List (Nat)).getD i 0), (fun i => ([f73, f74] : List (Nat → Int32)).getD i (fun _ => 0)), (fun i => ([] : List (Nat → Int64)).getD i (fun _ => 0)), (fun i => ([] : List (Int64)).getD i 0)) (show gheads ≤ 12 by omega) (x_B hP hD) dX10_tell_27
    · skip
      obtain ⟨n_8, rfl, hn_8⟩ := hp_6.resolve_left c_7
      refine lv_aload_n hx hb dX10_tell_14 rfl (lv_at hl 0 rfl) ?_
      refine x_get S hK hP 0 rfl cfX10 7 lkX10_57 (by decide) rfl dX10_tell_15 ?_
      refine lv_iload_n hx hb dX10_tell_18 rfl (lv_at hl 1 rfl) ?_
      refine x_muVi (wr := [((o 0), .inr (10, [.ref (o 1), .ref (o 2), .ref (o 3), .ref (o 4), .ref (o 5), .ref (o 6), .ref (o 7), .ref (o 8), .ref (o 9), .ref (o 10), .ref (o 11), .ref (o 12), .ref (o 13), .ref (o 14)]))]) (As := [.int (nI n_8)]) S hK hP hD hZ hS hA hl mwX8_leastSet lkX10_274 (ctX8_leastSet l D k z o f74 f76 tlawNow tharder ttold treply twet f73 f69 f70 f71 glines ghours glaw godds grows gheads gsayings gslugs gacts f26 f30 f31 n_8 (by omega) (by omega) (by omega) (by omega) (by omega) (by omega) (by omega)) [1, 2, 3, 4, 5, 6, 7, 8, 9, 10, 11, 12, 13] [0] rfl rfl (by decide) (by decide) (by decide) rfl rfl rfl rfl rfl ⟨Nat.le_of_ble_eq_true rfl, Nat.le_of_ble_eq_true rfl, Nat.le_of_ble_eq_true rfl⟩ dX10_tell_19 ⟨Nat.le_of_ble_eq_true rfl, Nat.le_of_ble_eq_true rfl⟩ (fun r_9 u_10 H locs hr_9 hP hD hS => ?_)
      have hP : va_P D vwCl [((o 0), .inr (10, [.ref (o 1), .ref (o 2), .ref (o 3), .ref (o 4), .ref (o 5), .ref (o 6), .ref (o 7), .ref (o 8), .ref (o 9), .ref (o 10), .ref (o 11), .ref (o 12), .ref (o 13), .ref (o 14)])), ((o 8), .inr (8, [.ref (o 3), .ref (o 4), .ref (o 6), .ref (o 74), .ref (o 75), .ref (o 76)])), ((o 74), .inl (k 0, 3, .inl (u_10.2.2.1 1))), ((o 76), .inl (k 3, 3, .inl f76)), ((o 6), .inr (1, [.ref (o 3), .ref (o 4), .int (u_10.1 0), .int (u_10.1 1), .int (u_10.1 2), .int (u_10.1 3), .int (u_10.1 4), .ref (o 73)])), ((o 73), .inl (k 0, 17, .inl (u_10.2.2.1 0))), ((o 4), .inr (3, [.ref (o 69), .ref (o 70), .ref (o 71)])), ((o 69), .inl (k 0, 17, .inl f69)), ((o 70), .inl (k 0, 17, .inl f70)), ((o 71), .inl (k 0, 17, .inl f71)), ((o 3), .inr (2, [.int glines, .int (nI ghours), .int glaw, .int godds, .int (nI grows), .int (nI (u_10.2.1 0)), .int (nI gsayings), .int (nI gslugs), .int (nI gacts), .ref (o 26), .ref (o 27), .ref (o 28), .ref (o 29), .ref (o 30), .ref (o 31), .ref (o 32), .ref (o 33), .ref (o 34), .ref (o 35)])), ((o 26), .inl (k 0, 12, .inl f26)), ((o 30), .inl (k 0, 12, .inl f30)), ((o 31), .inl (k 0, 12, .inl f31))] H := hP.sub [0, 1, 2, 3, 4, 5, 6, 7, 8, 9, 10, 11, 12, 13] rfl
      have hD : va_D A [((o 0), .inr (10, [.ref (o 1), .ref (o 2), .ref (o 3), .ref (o 4), .ref (o 5), .ref (o 6), .ref (o 7), .ref (o 8), .ref (o 9), .ref (o 10), .ref (o 11), .ref (o 12), .ref (o 13), .ref (o 14)])), ((o 8), .inr (8, [.ref (o 3), .ref (o 4), .ref (o 6), .ref (o 74), .ref (o 75), .ref (o 76)])), ((o 74), .inl (k 0, 3, .inl (u_10.2.2.1 1))), ((o 76), .inl (k 3, 3, .inl f76)), ((o 6), .inr (1, [.ref (o 3), .ref (o 4), .int (u_10.1 0), .int (u_10.1 1), .int (u_10.1 2), .int (u_10.1 3), .int (u_10.1 4), .ref (o 73)])), ((o 73), .inl (k 0, 17, .inl (u_10.2.2.1 0))), ((o 4), .inr (3, [.ref (o 69), .ref (o 70), .ref (o 71)])), ((o 69), .inl (k 0, 17, .inl f69)), ((o 70), .inl (k 0, 17, .inl f70)), ((o 71), .inl (k 0, 17, .inl f71)), ((o 3), .inr (2, [.int glines, .int (nI ghours), .int glaw, .int godds, .int (nI grows), .int (nI (u_10.2.1 0)), .int (nI gsayings), .int (nI gslugs), .int (nI gacts), .ref (o 26), .ref (o 27), .ref (o 28), .ref (o 29), .ref (o 30), .ref (o 31), .ref (o 32), .ref (o 33), .ref (o 34), .ref (o 35)])), ((o 26), .inl (k 0, 12, .inl f26)), ((o 30), .inl (k 0, 12, .inl f30)), ((o 31), .inl (k 0, 12, .inl f31))] := hD.sub [0, 1, 2, 3, 4, 5, 6, 7, 8, 9, 10, 11, 12, 13] (by decide) rfl
      have hg_11 := hr_9
      refine lv_goto (tgt := 27) hx hb dX10_tell_22 (by decide) ?_
      exact x_reti S hr hlk hQ hS ((fun i => ([(u_10.1 0), (u_10.1 1), (u_10.1 2), (u_10.1 3), (u_10.1 4)] : List (Int32)).getD i 0), (fun i => ([u_10.2.1 0] : List (Nat)).getD i 0), (fun i => ([(u_10.2.2.1 0), (u_10.2.2.1 1)] : List (Nat → Int32)).getD i (fun _ => 0)), (fun i => ([] : List (Nat → Int64)).getD i (fun _ => 0)), (fun i => ([] : List (Int64)).getD i 0)) (show u_10.2.1 0 ≤ 12 by omega) (x_B hP hD) dX10_tell_27

set_option maxHeartbeats 4000000 in
set_option maxRecDepth 100000 in
theorem ctX10_brings (l : Launch) (D : va_G) (k : Nat → ClassId) (z : Nat → Nat) (o : Nat → Nat) (f74 : Nat → Int32) (f76 : Nat → Int32) (tlawNow : Int32) (tharder : Int32) (ttold : Int32) (treply : Int32) (twet : Int32) (f73 : Nat → Int32) (f69 : Nat → Int32) (f70 : Nat → Int32) (f71 : Nat → Int32) (glines : Int32) (ghours : Nat) (glaw : Int32) (godds : Int32) (grows : Nat) (gheads : Nat) (gsayings : Nat) (gslugs : Nat) (gacts : Nat) (f26 : Nat → Int32) (f30 : Nat → Int32) (f31 : Nat → Int32) (p0 : Int32) (p1 : Int32) (hghours : ghours ≤ 16) (hgrows : grows ≤ 4) (hgheads : gheads ≤ 12) (hgsayings : gsayings ≤ 8) (hgslugs : gslugs ≤ 4) (hgacts : gacts ≤ 30) : MU l yX10_brings cX10_brings 4 (some .int) 5 D k z [.ref (o 0), .int p0, .int p1] [((o 0), .inr (10, [.ref (o 1), .ref (o 2), .ref (o 3), .ref (o 4), .ref (o 5), .ref (o 6), .ref (o 7), .ref (o 8), .ref (o 9), .ref (o 10), .ref (o 11), .ref (o 12), .ref (o 13), .ref (o 14)])), ((o 8), .inr (8, [.ref (o 3), .ref (o 4), .ref (o 6), .ref (o 74), .ref (o 75), .ref (o 76)])), ((o 74), .inl (k 0, 3, .inl f74)), ((o 76), .inl (k 3, 3, .inl f76)), ((o 6), .inr (1, [.ref (o 3), .ref (o 4), .int tlawNow, .int tharder, .int ttold, .int treply, .int twet, .ref (o 73)])), ((o 73), .inl (k 0, 17, .inl f73)), ((o 4), .inr (3, [.ref (o 69), .ref (o 70), .ref (o 71)])), ((o 69), .inl (k 0, 17, .inl f69)), ((o 70), .inl (k 0, 17, .inl f70)), ((o 71), .inl (k 0, 17, .inl f71)), ((o 3), .inr (2, [.int glines, .int (nI ghours), .int glaw, .int godds, .int (nI grows), .int (nI gheads), .int (nI gsayings), .int (nI gslugs), .int (nI gacts), .ref (o 26), .ref (o 27), .ref (o 28), .ref (o 29), .ref (o 30), .ref (o 31), .ref (o 32), .ref (o 33), .ref (o 34), .ref (o 35)])), ((o 26), .inl (k 0, 12, .inl f26)), ((o 30), .inl (k 0, 12, .inl f30)), ((o 31), .inl (k 0, 12, .inl f31))] 0 0 (Ui D (fun (r : Int32) (u : (Nat → Int32) × (Nat → Nat) × (Nat → Nat → Int32) × (Nat → Nat → Int64) × (Nat → Int64)) => True) (fun u : (Nat → Int32) × (Nat → Nat) × (Nat → Nat → Int32) × (Nat → Nat → Int64) × (Nat → Int64) => [((o 0), .inr (10, [.ref (o 1), .ref (o 2), .ref (o 3), .ref (o 4), .ref (o 5), .ref (o 6), .ref (o 7), .ref (o 8), .ref (o 9), .ref (o 10), .ref (o 11), .ref (o 12), .ref (o 13), .ref (o 14)])), ((o 8), .inr (8, [.ref (o 3), .ref (o 4), .ref (o 6), .ref (o 74), .ref (o 75), .ref (o 76)])), ((o 74), .inl (k 0, 3, .inl f74)), ((o 76), .inl (k 3, 3, .inl f76)), ((o 6), .inr (1, [.ref (o 3), .ref (o 4), .int (u.1 0), .int (u.1 1), .int (u.1 2), .int (u.1 3), .int (u.1 4), .ref (o 73)])), ((o 73), .inl (k 0, 17, .inl (u.2.2.1 0))), ((o 4), .inr (3, [.ref (o 69), .ref (o 70), .ref (o 71)])), ((o 69), .inl (k 0, 17, .inl f69)), ((o 70), .inl (k 0, 17, .inl f70)), ((o 71), .inl (k 0, 17, .inl f71)), ((o 3), .inr (2, [.int glines, .int (nI ghours), .int glaw, .int godds, .int (nI grows), .int (nI gheads), .int (nI gsayings), .int (nI gslugs), .int (nI gacts), .ref (o 26), .ref (o 27), .ref (o 28), .ref (o 29), .ref (o 30), .ref (o 31), .ref (o 32), .ref (o 33), .ref (o 34), .ref (o 35)])), ((o 26), .inl (k 0, 12, .inl f26)), ((o 30), .inl (k 0, 12, .inl f30)), ((o 31), .inl (k 0, 12, .inl f31))])) := by
  refine MU.of (by decide) (Nat.le_of_ble_eq_true rfl) ?_
  intro p e s m below meth c ls A args Q S hr hlk hnm hQ hK hP hD hZ hA hS hl
  have hx := S.1
  have hb := S.2.1
  have hl : lv_has ls 4 [(0, .ref (o 0)), (1, .int p0), (2, .int p1)] := hl
  refine lv_aload_n hx hb dX10_brings_0 rfl (lv_at hl 0 rfl) ?_
  refine x_roVi (As := []) S hK hP hD hZ (fun _ h => h) hA hS hA hl mwX10_isGarden lkX10_196 (ctX10_isGarden l D k z o glines ghours glaw godds grows gheads gsayings gslugs gacts (by omega) (by omega) (by omega) (by omega) (by omega) (by omega)) [0, 10] rfl (by decide) rfl rfl rfl rfl rfl ⟨Nat.le_of_ble_eq_true rfl, Nat.le_of_ble_eq_true rfl, Nat.le_of_ble_eq_true rfl⟩ dX10_brings_1 ⟨Nat.le_of_ble_eq_true rfl, Nat.le_of_ble_eq_true rfl⟩ (fun r_1 H locs hr_1 hP hS => ?_)
  refine lv_if_eq (tgt := 32) hx hb dX10_brings_4 (by decide) (fun c_3 => ?_) (fun c_3 => ?_)
  · skip
    refine lv_iconst (v := 0) hx hb dX10_brings_32 (by decide) ?_
    refine lv_istore_n (lv' := [(3, .int 0), (0, .ref (o 0)), (1, .int p0), (2, .int p1)]) hx hb dX10_brings_33 rfl hl (by decide) rfl (fun ls hl => ?_)
    refine lv_iload_n hx hb dX10_brings_34 rfl (lv_at hl 0 rfl) ?_
    refine lv_if_eq (tgt := 53) hx hb dX10_brings_35 (by decide) (fun c_4 => ?_) (fun c_4 => absurd (by decide) c_4)
    refine lv_bipush (v := (-2)) hx hb dX10_brings_53 (by decide) ?_
    exact x_reti S hr hlk hQ hS ((fun i => ([tlawNow, tharder, ttold, treply, twet] : List (Int32)).getD i 0), (fun i => ([] : List (Nat)).getD i 0), (fun i => ([f73] : List (Nat → Int32)).getD i (fun _ => 0)), (fun i => ([] : List (Nat → Int64)).getD i (fun _ => 0)), (fun i => ([] : List (Int64)).getD i 0)) trivial (x_B hP hD) dX10_brings_55
  · skip
    refine lv_iload_n hx hb dX10_brings_7 rfl (lv_at hl 1 rfl) ?_
    refine x_roSi (As := [.int p0]) S hK hP hD hZ (fun _ h => h) hA hS hA hl mwX10_isView lkX10_184 (ctX10_isView l D k z p0 ) [] rfl (by decide) rfl rfl ⟨Nat.le_of_ble_eq_true rfl, Nat.le_of_ble_eq_true rfl, Nat.le_of_ble_eq_true rfl⟩ dX10_brings_8 ⟨Nat.le_of_ble_eq_true rfl, Nat.le_of_ble_eq_true rfl⟩ (fun r_5 H locs hr_5 hP hS => ?_)
    have hp_7 := hr_5
    refine lv_if_eq (tgt := 32) hx hb dX10_brings_11 (by decide) (fun c_8 => ?_) (fun c_8 => ?_)
    · skip
      refine lv_iconst (v := 0) hx hb dX10_brings_32 (by decide) ?_
      refine lv_istore_n (lv' := [(3, .int 0), (0, .ref (o 0)), (1, .int p0), (2, .int p1)]) hx hb dX10_brings_33 rfl hl (by decide) rfl (fun ls hl => ?_)
      refine lv_iload_n hx hb dX10_brings_34 rfl (lv_at hl 0 rfl) ?_
      refine lv_if_eq (tgt := 53) hx hb dX10_brings_35 (by decide) (fun c_9 => ?_) (fun c_9 => absurd (by decide) c_9)
      refine lv_bipush (v := (-2)) hx hb dX10_brings_53 (by decide) ?_
      exact x_reti S hr hlk hQ hS ((fun i => ([tlawNow, tharder, ttold, treply, twet] : List (Int32)).getD i 0), (fun i => ([] : List (Nat)).getD i 0), (fun i => ([f73] : List (Nat → Int32)).getD i (fun _ => 0)), (fun i => ([] : List (Nat → Int64)).getD i (fun _ => 0)), (fun i => ([] : List (Int64)).getD i 0)) trivial (x_B hP hD) dX10_brings_55
    · skip
      obtain ⟨n_10, rfl, hn_10⟩ := hp_7.resolve_left c_8
      refine lv_iload_n hx hb dX10_brings_14 rfl (lv_at hl 2 rfl) ?_
      refine lv_aload_n hx hb dX10_brings_15 rfl (lv_at hl 0 rfl) ?_
      refine x_get S hK hP 0 rfl cfX10 2 lkX10_23 (by decide) rfl dX10_brings_16 ?_
      refine x_roVi (As := []) S hK hP hD hZ (fun _ h => h) hA hS hA hl mwX2_everyone lkX10_224 (ctX2_everyone l D k z o glines ghours glaw godds grows gheads gsayings gslugs gacts (by omega) (by omega) (by omega) (by omega) (by omega) (by omega)) [10] rfl (by decide) rfl rfl rfl rfl rfl ⟨Nat.le_of_ble_eq_true rfl, Nat.le_of_ble_eq_true rfl, Nat.le_of_ble_eq_true rfl⟩ dX10_brings_19 ⟨Nat.le_of_ble_eq_true rfl, Nat.le_of_ble_eq_true rfl⟩ (fun r_11 H locs hr_11 hP hS => ?_)
      obtain rfl := hr_11
      refine lv_iconst (v := (-1)) hx hb dX10_brings_22 (by decide) ?_
      refine lv_ixor hx hb dX10_brings_23 ?_
      refine lv_topi (fun v_13 ev_13 => ?_)
      refine lv_iand hx hb dX10_brings_24 ?_
      refine lv_topi (fun v_14 ev_14 => ?_)
      refine lv_if_ne (tgt := 32) hx hb dX10_brings_25 (by decide) (fun c_15 => ?_) (fun c_15 => ?_)
      · skip
        refine lv_iconst (v := 0) hx hb dX10_brings_32 (by decide) ?_
        refine lv_istore_n (lv' := [(3, .int 0), (0, .ref (o 0)), (1, .int (nI n_10)), (2, .int p1)]) hx hb dX10_brings_33 rfl hl (by decide) rfl (fun ls hl => ?_)
        refine lv_iload_n hx hb dX10_brings_34 rfl (lv_at hl 0 rfl) ?_
        refine lv_if_eq (tgt := 53) hx hb dX10_brings_35 (by decide) (fun c_16 => ?_) (fun c_16 => absurd (by decide) c_16)
        refine lv_bipush (v := (-2)) hx hb dX10_brings_53 (by decide) ?_
        exact x_reti S hr hlk hQ hS ((fun i => ([tlawNow, tharder, ttold, treply, twet] : List (Int32)).getD i 0), (fun i => ([] : List (Nat)).getD i 0), (fun i => ([f73] : List (Nat → Int32)).getD i (fun _ => 0)), (fun i => ([] : List (Nat → Int64)).getD i (fun _ => 0)), (fun i => ([] : List (Int64)).getD i 0)) trivial (x_B hP hD) dX10_brings_55
      · skip
        refine lv_iconst (v := 1) hx hb dX10_brings_28 (by decide) ?_
        refine lv_goto (tgt := 33) hx hb dX10_brings_29 (by decide) ?_
        refine lv_istore_n (lv' := [(3, .int 1), (0, .ref (o 0)), (1, .int (nI n_10)), (2, .int p1)]) hx hb dX10_brings_33 rfl hl (by decide) rfl (fun ls hl => ?_)
        refine lv_iload_n hx hb dX10_brings_34 rfl (lv_at hl 0 rfl) ?_
        refine lv_if_eq (tgt := 53) hx hb dX10_brings_35 (by decide) (fun c_17 => absurd c_17 (by decide)) (fun c_17 => ?_)
        refine lv_aload_n hx hb dX10_brings_38 rfl (lv_at hl 1 rfl) ?_
        refine x_get S hK hP 0 rfl cfX10 7 lkX10_57 (by decide) rfl dX10_brings_39 ?_
        refine lv_iload_n hx hb dX10_brings_42 rfl (lv_at hl 2 rfl) ?_
        refine lv_iload_n hx hb dX10_brings_43 rfl (lv_at hl 3 rfl) ?_
        refine x_muVi (wr := [((o 0), .inr (10, [.ref (o 1), .ref (o 2), .ref (o 3), .ref (o 4), .ref (o 5), .ref (o 6), .ref (o 7), .ref (o 8), .ref (o 9), .ref (o 10), .ref (o 11), .ref (o 12), .ref (o 13), .ref (o 14)]))]) (As := [.int (nI n_10), .int p1]) S hK hP hD hZ hS hA hl mwX8_holdersTold lkX10_282 (ctX8_holdersTold l D k z o f74 f76 tlawNow tharder ttold treply twet f73 f69 f70 f71 glines ghours glaw godds grows gheads gsayings gslugs gacts f26 f30 f31 (nI n_10) p1 (by omega) (by omega) (by omega) (by omega) (by omega) (by omega)) [1, 2, 3, 4, 5, 6, 7, 8, 9, 10, 11, 12, 13] [0] rfl rfl (by decide) (by decide) (by decide) rfl rfl rfl rfl rfl ⟨Nat.le_of_ble_eq_true rfl, Nat.le_of_ble_eq_true rfl, Nat.le_of_ble_eq_true rfl⟩ dX10_brings_44 ⟨Nat.le_of_ble_eq_true rfl, Nat.le_of_ble_eq_true rfl⟩ (fun r_18 u_19 H locs hr_18 hP hD hS => ?_)
        have hP : va_P D vwCl [((o 0), .inr (10, [.ref (o 1), .ref (o 2), .ref (o 3), .ref (o 4), .ref (o 5), .ref (o 6), .ref (o 7), .ref (o 8), .ref (o 9), .ref (o 10), .ref (o 11), .ref (o 12), .ref (o 13), .ref (o 14)])), ((o 8), .inr (8, [.ref (o 3), .ref (o 4), .ref (o 6), .ref (o 74), .ref (o 75), .ref (o 76)])), ((o 74), .inl (k 0, 3, .inl f74)), ((o 76), .inl (k 3, 3, .inl f76)), ((o 6), .inr (1, [.ref (o 3), .ref (o 4), .int (u_19.1 0), .int (u_19.1 1), .int (u_19.1 2), .int (u_19.1 3), .int (u_19.1 4), .ref (o 73)])), ((o 73), .inl (k 0, 17, .inl (u_19.2.2.1 0))), ((o 4), .inr (3, [.ref (o 69), .ref (o 70), .ref (o 71)])), ((o 69), .inl (k 0, 17, .inl f69)), ((o 70), .inl (k 0, 17, .inl f70)), ((o 71), .inl (k 0, 17, .inl f71)), ((o 3), .inr (2, [.int glines, .int (nI ghours), .int glaw, .int godds, .int (nI grows), .int (nI gheads), .int (nI gsayings), .int (nI gslugs), .int (nI gacts), .ref (o 26), .ref (o 27), .ref (o 28), .ref (o 29), .ref (o 30), .ref (o 31), .ref (o 32), .ref (o 33), .ref (o 34), .ref (o 35)])), ((o 26), .inl (k 0, 12, .inl f26)), ((o 30), .inl (k 0, 12, .inl f30)), ((o 31), .inl (k 0, 12, .inl f31))] H := hP.sub [0, 1, 2, 3, 4, 5, 6, 7, 8, 9, 10, 11, 12, 13] rfl
        have hD : va_D A [((o 0), .inr (10, [.ref (o 1), .ref (o 2), .ref (o 3), .ref (o 4), .ref (o 5), .ref (o 6), .ref (o 7), .ref (o 8), .ref (o 9), .ref (o 10), .ref (o 11), .ref (o 12), .ref (o 13), .ref (o 14)])), ((o 8), .inr (8, [.ref (o 3), .ref (o 4), .ref (o 6), .ref (o 74), .ref (o 75), .ref (o 76)])), ((o 74), .inl (k 0, 3, .inl f74)), ((o 76), .inl (k 3, 3, .inl f76)), ((o 6), .inr (1, [.ref (o 3), .ref (o 4), .int (u_19.1 0), .int (u_19.1 1), .int (u_19.1 2), .int (u_19.1 3), .int (u_19.1 4), .ref (o 73)])), ((o 73), .inl (k 0, 17, .inl (u_19.2.2.1 0))), ((o 4), .inr (3, [.ref (o 69), .ref (o 70), .ref (o 71)])), ((o 69), .inl (k 0, 17, .inl f69)), ((o 70), .inl (k 0, 17, .inl f70)), ((o 71), .inl (k 0, 17, .inl f71)), ((o 3), .inr (2, [.int glines, .int (nI ghours), .int glaw, .int godds, .int (nI grows), .int (nI gheads), .int (nI gsayings), .int (nI gslugs), .int (nI gacts), .ref (o 26), .ref (o 27), .ref (o 28), .ref (o 29), .ref (o 30), .ref (o 31), .ref (o 32), .ref (o 33), .ref (o 34), .ref (o 35)])), ((o 26), .inl (k 0, 12, .inl f26)), ((o 30), .inl (k 0, 12, .inl f30)), ((o 31), .inl (k 0, 12, .inl f31))] := hD.sub [0, 1, 2, 3, 4, 5, 6, 7, 8, 9, 10, 11, 12, 13] (by decide) rfl
        refine x_roSi (As := [.int r_18]) S hK hP hD hZ (fun _ h => h) hA hS hA hl mwJ6_bitCount_0f7a4 lkX10_277 (ctJ6_bitCount_0f7a4 l D k z r_18 ) [] rfl (by decide) rfl rfl ⟨Nat.le_of_ble_eq_true rfl, Nat.le_of_ble_eq_true rfl, Nat.le_of_ble_eq_true rfl⟩ dX10_brings_47 ⟨Nat.le_of_ble_eq_true rfl, Nat.le_of_ble_eq_true rfl⟩ (fun r_20 H locs hr_20 hP hS => ?_)
        obtain ⟨n_22, rfl, hn_22⟩ := hr_20
        refine lv_goto (tgt := 55) hx hb dX10_brings_50 (by decide) ?_
        exact x_reti S hr hlk hQ hS ((fun i => ([(u_19.1 0), (u_19.1 1), (u_19.1 2), (u_19.1 3), (u_19.1 4)] : List (Int32)).getD i 0), (fun i => ([] : List (Nat)).getD i 0), (fun i => ([(u_19.2.2.1 0)] : List (Nat → Int32)).getD i (fun _ => 0)), (fun i => ([] : List (Nat → Int64)).getD i (fun _ => 0)), (fun i => ([] : List (Int64)).getD i 0)) trivial (x_B hP hD) dX10_brings_55

set_option maxHeartbeats 4000000 in
set_option maxRecDepth 100000 in
theorem ctX10_loud (l : Launch) (D : va_G) (k : Nat → ClassId) (z : Nat → Nat) (o : Nat → Nat) (f74 : Nat → Int32) (f76 : Nat → Int32) (tlawNow : Int32) (tharder : Int32) (ttold : Int32) (treply : Int32) (twet : Int32) (f73 : Nat → Int32) (f69 : Nat → Int32) (f70 : Nat → Int32) (f71 : Nat → Int32) (glines : Int32) (ghours : Nat) (glaw : Int32) (godds : Int32) (grows : Nat) (gheads : Nat) (gsayings : Nat) (gslugs : Nat) (gacts : Nat) (f26 : Nat → Int32) (f30 : Nat → Int32) (f31 : Nat → Int32) (p0 : Int32) (hghours : ghours ≤ 16) (hgrows : grows ≤ 4) (hgheads : gheads ≤ 12) (hgsayings : gsayings ≤ 8) (hgslugs : gslugs ≤ 4) (hgacts : gacts ≤ 30) : MU l yX10_loud cX10_loud 2 (some .int) 6 D k z [.ref (o 0), .int p0] [((o 0), .inr (10, [.ref (o 1), .ref (o 2), .ref (o 3), .ref (o 4), .ref (o 5), .ref (o 6), .ref (o 7), .ref (o 8), .ref (o 9), .ref (o 10), .ref (o 11), .ref (o 12), .ref (o 13), .ref (o 14)])), ((o 8), .inr (8, [.ref (o 3), .ref (o 4), .ref (o 6), .ref (o 74), .ref (o 75), .ref (o 76)])), ((o 74), .inl (k 0, 3, .inl f74)), ((o 76), .inl (k 3, 3, .inl f76)), ((o 6), .inr (1, [.ref (o 3), .ref (o 4), .int tlawNow, .int tharder, .int ttold, .int treply, .int twet, .ref (o 73)])), ((o 73), .inl (k 0, 17, .inl f73)), ((o 4), .inr (3, [.ref (o 69), .ref (o 70), .ref (o 71)])), ((o 69), .inl (k 0, 17, .inl f69)), ((o 70), .inl (k 0, 17, .inl f70)), ((o 71), .inl (k 0, 17, .inl f71)), ((o 3), .inr (2, [.int glines, .int (nI ghours), .int glaw, .int godds, .int (nI grows), .int (nI gheads), .int (nI gsayings), .int (nI gslugs), .int (nI gacts), .ref (o 26), .ref (o 27), .ref (o 28), .ref (o 29), .ref (o 30), .ref (o 31), .ref (o 32), .ref (o 33), .ref (o 34), .ref (o 35)])), ((o 26), .inl (k 0, 12, .inl f26)), ((o 30), .inl (k 0, 12, .inl f30)), ((o 31), .inl (k 0, 12, .inl f31))] 0 0 (Ui D (fun (r : Int32) (u : (Nat → Int32) × (Nat → Nat) × (Nat → Nat → Int32) × (Nat → Nat → Int64) × (Nat → Int64)) => True) (fun u : (Nat → Int32) × (Nat → Nat) × (Nat → Nat → Int32) × (Nat → Nat → Int64) × (Nat → Int64) => [((o 0), .inr (10, [.ref (o 1), .ref (o 2), .ref (o 3), .ref (o 4), .ref (o 5), .ref (o 6), .ref (o 7), .ref (o 8), .ref (o 9), .ref (o 10), .ref (o 11), .ref (o 12), .ref (o 13), .ref (o 14)])), ((o 8), .inr (8, [.ref (o 3), .ref (o 4), .ref (o 6), .ref (o 74), .ref (o 75), .ref (o 76)])), ((o 74), .inl (k 0, 3, .inl f74)), ((o 76), .inl (k 3, 3, .inl f76)), ((o 6), .inr (1, [.ref (o 3), .ref (o 4), .int (u.1 0), .int (u.1 1), .int (u.1 2), .int (u.1 3), .int (u.1 4), .ref (o 73)])), ((o 73), .inl (k 0, 17, .inl (u.2.2.1 0))), ((o 4), .inr (3, [.ref (o 69), .ref (o 70), .ref (o 71)])), ((o 69), .inl (k 0, 17, .inl f69)), ((o 70), .inl (k 0, 17, .inl f70)), ((o 71), .inl (k 0, 17, .inl f71)), ((o 3), .inr (2, [.int glines, .int (nI ghours), .int glaw, .int godds, .int (nI grows), .int (nI gheads), .int (nI gsayings), .int (nI gslugs), .int (nI gacts), .ref (o 26), .ref (o 27), .ref (o 28), .ref (o 29), .ref (o 30), .ref (o 31), .ref (o 32), .ref (o 33), .ref (o 34), .ref (o 35)])), ((o 26), .inl (k 0, 12, .inl f26)), ((o 30), .inl (k 0, 12, .inl f30)), ((o 31), .inl (k 0, 12, .inl f31))])) := by
  refine MU.of (by decide) (Nat.le_of_ble_eq_true rfl) ?_
  intro p e s m below meth c ls A args Q S hr hlk hnm hQ hK hP hD hZ hA hS hl
  have hx := S.1
  have hb := S.2.1
  have hl : lv_has ls 2 [(0, .ref (o 0)), (1, .int p0)] := hl
  refine lv_aload_n hx hb dX10_loud_0 rfl (lv_at hl 0 rfl) ?_
  refine x_roVi (As := []) S hK hP hD hZ (fun _ h => h) hA hS hA hl mwX10_isGarden lkX10_196 (ctX10_isGarden l D k z o glines ghours glaw godds grows gheads gsayings gslugs gacts (by omega) (by omega) (by omega) (by omega) (by omega) (by omega)) [0, 10] rfl (by decide) rfl rfl rfl rfl rfl ⟨Nat.le_of_ble_eq_true rfl, Nat.le_of_ble_eq_true rfl, Nat.le_of_ble_eq_true rfl⟩ dX10_loud_1 ⟨Nat.le_of_ble_eq_true rfl, Nat.le_of_ble_eq_true rfl⟩ (fun r_1 H locs hr_1 hP hS => ?_)
  refine lv_if_eq (tgt := 25) hx hb dX10_loud_4 (by decide) (fun c_3 => ?_) (fun c_3 => ?_)
  · skip
    refine lv_bipush (v := (-2)) hx hb dX10_loud_25 (by decide) ?_
    exact x_reti S hr hlk hQ hS ((fun i => ([tlawNow, tharder, ttold, treply, twet] : List (Int32)).getD i 0), (fun i => ([] : List (Nat)).getD i 0), (fun i => ([f73] : List (Nat → Int32)).getD i (fun _ => 0)), (fun i => ([] : List (Nat → Int64)).getD i (fun _ => 0)), (fun i => ([] : List (Int64)).getD i 0)) trivial (x_B hP hD) dX10_loud_27
  · skip
    refine lv_iload_n hx hb dX10_loud_7 rfl (lv_at hl 1 rfl) ?_
    refine x_roSi (As := [.int p0]) S hK hP hD hZ (fun _ h => h) hA hS hA hl mwX10_isView lkX10_184 (ctX10_isView l D k z p0 ) [] rfl (by decide) rfl rfl ⟨Nat.le_of_ble_eq_true rfl, Nat.le_of_ble_eq_true rfl, Nat.le_of_ble_eq_true rfl⟩ dX10_loud_8 ⟨Nat.le_of_ble_eq_true rfl, Nat.le_of_ble_eq_true rfl⟩ (fun r_4 H locs hr_4 hP hS => ?_)
    have hp_6 := hr_4
    refine lv_if_eq (tgt := 25) hx hb dX10_loud_11 (by decide) (fun c_7 => ?_) (fun c_7 => ?_)
    · skip
      refine lv_bipush (v := (-2)) hx hb dX10_loud_25 (by decide) ?_
      exact x_reti S hr hlk hQ hS ((fun i => ([tlawNow, tharder, ttold, treply, twet] : List (Int32)).getD i 0), (fun i => ([] : List (Nat)).getD i 0), (fun i => ([f73] : List (Nat → Int32)).getD i (fun _ => 0)), (fun i => ([] : List (Nat → Int64)).getD i (fun _ => 0)), (fun i => ([] : List (Int64)).getD i 0)) trivial (x_B hP hD) dX10_loud_27
    · skip
      obtain ⟨n_8, rfl, hn_8⟩ := hp_6.resolve_left c_7
      refine lv_aload_n hx hb dX10_loud_14 rfl (lv_at hl 0 rfl) ?_
      refine x_get S hK hP 0 rfl cfX10 7 lkX10_57 (by decide) rfl dX10_loud_15 ?_
      refine lv_iload_n hx hb dX10_loud_18 rfl (lv_at hl 1 rfl) ?_
      refine x_muVi (wr := [((o 0), .inr (10, [.ref (o 1), .ref (o 2), .ref (o 3), .ref (o 4), .ref (o 5), .ref (o 6), .ref (o 7), .ref (o 8), .ref (o 9), .ref (o 10), .ref (o 11), .ref (o 12), .ref (o 13), .ref (o 14)]))]) (As := [.int (nI n_8)]) S hK hP hD hZ hS hA hl mwX8_loudest lkX10_285 (ctX8_loudest l D k z o f74 f76 tlawNow tharder ttold treply twet f73 f69 f70 f71 glines ghours glaw godds grows gheads gsayings gslugs gacts f26 f30 f31 (nI n_8) (by omega) (by omega) (by omega) (by omega) (by omega) (by omega)) [1, 2, 3, 4, 5, 6, 7, 8, 9, 10, 11, 12, 13] [0] rfl rfl (by decide) (by decide) (by decide) rfl rfl rfl rfl rfl ⟨Nat.le_of_ble_eq_true rfl, Nat.le_of_ble_eq_true rfl, Nat.le_of_ble_eq_true rfl⟩ dX10_loud_19 ⟨Nat.le_of_ble_eq_true rfl, Nat.le_of_ble_eq_true rfl⟩ (fun r_9 u_10 H locs hr_9 hP hD hS => ?_)
      have hP : va_P D vwCl [((o 0), .inr (10, [.ref (o 1), .ref (o 2), .ref (o 3), .ref (o 4), .ref (o 5), .ref (o 6), .ref (o 7), .ref (o 8), .ref (o 9), .ref (o 10), .ref (o 11), .ref (o 12), .ref (o 13), .ref (o 14)])), ((o 8), .inr (8, [.ref (o 3), .ref (o 4), .ref (o 6), .ref (o 74), .ref (o 75), .ref (o 76)])), ((o 74), .inl (k 0, 3, .inl f74)), ((o 76), .inl (k 3, 3, .inl f76)), ((o 6), .inr (1, [.ref (o 3), .ref (o 4), .int (u_10.1 0), .int (u_10.1 1), .int (u_10.1 2), .int (u_10.1 3), .int (u_10.1 4), .ref (o 73)])), ((o 73), .inl (k 0, 17, .inl (u_10.2.2.1 0))), ((o 4), .inr (3, [.ref (o 69), .ref (o 70), .ref (o 71)])), ((o 69), .inl (k 0, 17, .inl f69)), ((o 70), .inl (k 0, 17, .inl f70)), ((o 71), .inl (k 0, 17, .inl f71)), ((o 3), .inr (2, [.int glines, .int (nI ghours), .int glaw, .int godds, .int (nI grows), .int (nI gheads), .int (nI gsayings), .int (nI gslugs), .int (nI gacts), .ref (o 26), .ref (o 27), .ref (o 28), .ref (o 29), .ref (o 30), .ref (o 31), .ref (o 32), .ref (o 33), .ref (o 34), .ref (o 35)])), ((o 26), .inl (k 0, 12, .inl f26)), ((o 30), .inl (k 0, 12, .inl f30)), ((o 31), .inl (k 0, 12, .inl f31))] H := hP.sub [0, 1, 2, 3, 4, 5, 6, 7, 8, 9, 10, 11, 12, 13] rfl
      have hD : va_D A [((o 0), .inr (10, [.ref (o 1), .ref (o 2), .ref (o 3), .ref (o 4), .ref (o 5), .ref (o 6), .ref (o 7), .ref (o 8), .ref (o 9), .ref (o 10), .ref (o 11), .ref (o 12), .ref (o 13), .ref (o 14)])), ((o 8), .inr (8, [.ref (o 3), .ref (o 4), .ref (o 6), .ref (o 74), .ref (o 75), .ref (o 76)])), ((o 74), .inl (k 0, 3, .inl f74)), ((o 76), .inl (k 3, 3, .inl f76)), ((o 6), .inr (1, [.ref (o 3), .ref (o 4), .int (u_10.1 0), .int (u_10.1 1), .int (u_10.1 2), .int (u_10.1 3), .int (u_10.1 4), .ref (o 73)])), ((o 73), .inl (k 0, 17, .inl (u_10.2.2.1 0))), ((o 4), .inr (3, [.ref (o 69), .ref (o 70), .ref (o 71)])), ((o 69), .inl (k 0, 17, .inl f69)), ((o 70), .inl (k 0, 17, .inl f70)), ((o 71), .inl (k 0, 17, .inl f71)), ((o 3), .inr (2, [.int glines, .int (nI ghours), .int glaw, .int godds, .int (nI grows), .int (nI gheads), .int (nI gsayings), .int (nI gslugs), .int (nI gacts), .ref (o 26), .ref (o 27), .ref (o 28), .ref (o 29), .ref (o 30), .ref (o 31), .ref (o 32), .ref (o 33), .ref (o 34), .ref (o 35)])), ((o 26), .inl (k 0, 12, .inl f26)), ((o 30), .inl (k 0, 12, .inl f30)), ((o 31), .inl (k 0, 12, .inl f31))] := hD.sub [0, 1, 2, 3, 4, 5, 6, 7, 8, 9, 10, 11, 12, 13] (by decide) rfl
      refine lv_goto (tgt := 27) hx hb dX10_loud_22 (by decide) ?_
      exact x_reti S hr hlk hQ hS ((fun i => ([(u_10.1 0), (u_10.1 1), (u_10.1 2), (u_10.1 3), (u_10.1 4)] : List (Int32)).getD i 0), (fun i => ([] : List (Nat)).getD i 0), (fun i => ([(u_10.2.2.1 0)] : List (Nat → Int32)).getD i (fun _ => 0)), (fun i => ([] : List (Nat → Int64)).getD i (fun _ => 0)), (fun i => ([] : List (Int64)).getD i 0)) trivial (x_B hP hD) dX10_loud_27

set_option maxHeartbeats 4000000 in
set_option maxRecDepth 100000 in
theorem ctX10_firm (l : Launch) (D : va_G) (k : Nat → ClassId) (z : Nat → Nat) (o : Nat → Nat) (f74 : Nat → Int32) (f76 : Nat → Int32) (tlawNow : Int32) (tharder : Int32) (ttold : Int32) (treply : Int32) (twet : Int32) (f73 : Nat → Int32) (f69 : Nat → Int32) (f70 : Nat → Int32) (f71 : Nat → Int32) (glines : Int32) (ghours : Nat) (glaw : Int32) (godds : Int32) (grows : Nat) (gheads : Nat) (gsayings : Nat) (gslugs : Nat) (gacts : Nat) (f26 : Nat → Int32) (f30 : Nat → Int32) (f31 : Nat → Int32) (p0 : Int32) (hghours : ghours ≤ 16) (hgrows : grows ≤ 4) (hgheads : gheads ≤ 12) (hgsayings : gsayings ≤ 8) (hgslugs : gslugs ≤ 4) (hgacts : gacts ≤ 30) : MU l yX10_firm cX10_firm 2 (some .int) 6 D k z [.ref (o 0), .int p0] [((o 0), .inr (10, [.ref (o 1), .ref (o 2), .ref (o 3), .ref (o 4), .ref (o 5), .ref (o 6), .ref (o 7), .ref (o 8), .ref (o 9), .ref (o 10), .ref (o 11), .ref (o 12), .ref (o 13), .ref (o 14)])), ((o 8), .inr (8, [.ref (o 3), .ref (o 4), .ref (o 6), .ref (o 74), .ref (o 75), .ref (o 76)])), ((o 74), .inl (k 0, 3, .inl f74)), ((o 76), .inl (k 3, 3, .inl f76)), ((o 6), .inr (1, [.ref (o 3), .ref (o 4), .int tlawNow, .int tharder, .int ttold, .int treply, .int twet, .ref (o 73)])), ((o 73), .inl (k 0, 17, .inl f73)), ((o 4), .inr (3, [.ref (o 69), .ref (o 70), .ref (o 71)])), ((o 69), .inl (k 0, 17, .inl f69)), ((o 70), .inl (k 0, 17, .inl f70)), ((o 71), .inl (k 0, 17, .inl f71)), ((o 3), .inr (2, [.int glines, .int (nI ghours), .int glaw, .int godds, .int (nI grows), .int (nI gheads), .int (nI gsayings), .int (nI gslugs), .int (nI gacts), .ref (o 26), .ref (o 27), .ref (o 28), .ref (o 29), .ref (o 30), .ref (o 31), .ref (o 32), .ref (o 33), .ref (o 34), .ref (o 35)])), ((o 26), .inl (k 0, 12, .inl f26)), ((o 30), .inl (k 0, 12, .inl f30)), ((o 31), .inl (k 0, 12, .inl f31))] 0 0 (Ui D (fun (r : Int32) (u : (Nat → Int32) × (Nat → Nat) × (Nat → Nat → Int32) × (Nat → Nat → Int64) × (Nat → Int64)) => True) (fun u : (Nat → Int32) × (Nat → Nat) × (Nat → Nat → Int32) × (Nat → Nat → Int64) × (Nat → Int64) => [((o 0), .inr (10, [.ref (o 1), .ref (o 2), .ref (o 3), .ref (o 4), .ref (o 5), .ref (o 6), .ref (o 7), .ref (o 8), .ref (o 9), .ref (o 10), .ref (o 11), .ref (o 12), .ref (o 13), .ref (o 14)])), ((o 8), .inr (8, [.ref (o 3), .ref (o 4), .ref (o 6), .ref (o 74), .ref (o 75), .ref (o 76)])), ((o 74), .inl (k 0, 3, .inl f74)), ((o 76), .inl (k 3, 3, .inl f76)), ((o 6), .inr (1, [.ref (o 3), .ref (o 4), .int (u.1 0), .int (u.1 1), .int (u.1 2), .int (u.1 3), .int (u.1 4), .ref (o 73)])), ((o 73), .inl (k 0, 17, .inl (u.2.2.1 0))), ((o 4), .inr (3, [.ref (o 69), .ref (o 70), .ref (o 71)])), ((o 69), .inl (k 0, 17, .inl f69)), ((o 70), .inl (k 0, 17, .inl f70)), ((o 71), .inl (k 0, 17, .inl f71)), ((o 3), .inr (2, [.int glines, .int (nI ghours), .int glaw, .int godds, .int (nI grows), .int (nI gheads), .int (nI gsayings), .int (nI gslugs), .int (nI gacts), .ref (o 26), .ref (o 27), .ref (o 28), .ref (o 29), .ref (o 30), .ref (o 31), .ref (o 32), .ref (o 33), .ref (o 34), .ref (o 35)])), ((o 26), .inl (k 0, 12, .inl f26)), ((o 30), .inl (k 0, 12, .inl f30)), ((o 31), .inl (k 0, 12, .inl f31))])) := by
  refine MU.of (by decide) (Nat.le_of_ble_eq_true rfl) ?_
  intro p e s m below meth c ls A args Q S hr hlk hnm hQ hK hP hD hZ hA hS hl
  have hx := S.1
  have hb := S.2.1
  have hl : lv_has ls 2 [(0, .ref (o 0)), (1, .int p0)] := hl
  refine lv_aload_n hx hb dX10_firm_0 rfl (lv_at hl 0 rfl) ?_
  refine x_roVi (As := []) S hK hP hD hZ (fun _ h => h) hA hS hA hl mwX10_isGarden lkX10_196 (ctX10_isGarden l D k z o glines ghours glaw godds grows gheads gsayings gslugs gacts (by omega) (by omega) (by omega) (by omega) (by omega) (by omega)) [0, 10] rfl (by decide) rfl rfl rfl rfl rfl ⟨Nat.le_of_ble_eq_true rfl, Nat.le_of_ble_eq_true rfl, Nat.le_of_ble_eq_true rfl⟩ dX10_firm_1 ⟨Nat.le_of_ble_eq_true rfl, Nat.le_of_ble_eq_true rfl⟩ (fun r_1 H locs hr_1 hP hS => ?_)
  refine lv_if_eq (tgt := 25) hx hb dX10_firm_4 (by decide) (fun c_3 => ?_) (fun c_3 => ?_)
  · skip
    refine lv_bipush (v := (-2)) hx hb dX10_firm_25 (by decide) ?_
    exact x_reti S hr hlk hQ hS ((fun i => ([tlawNow, tharder, ttold, treply, twet] : List (Int32)).getD i 0), (fun i => ([] : List (Nat)).getD i 0), (fun i => ([f73] : List (Nat → Int32)).getD i (fun _ => 0)), (fun i => ([] : List (Nat → Int64)).getD i (fun _ => 0)), (fun i => ([] : List (Int64)).getD i 0)) trivial (x_B hP hD) dX10_firm_27
  · skip
    refine lv_iload_n hx hb dX10_firm_7 rfl (lv_at hl 1 rfl) ?_
    refine x_roSi (As := [.int p0]) S hK hP hD hZ (fun _ h => h) hA hS hA hl mwX10_isView lkX10_184 (ctX10_isView l D k z p0 ) [] rfl (by decide) rfl rfl ⟨Nat.le_of_ble_eq_true rfl, Nat.le_of_ble_eq_true rfl, Nat.le_of_ble_eq_true rfl⟩ dX10_firm_8 ⟨Nat.le_of_ble_eq_true rfl, Nat.le_of_ble_eq_true rfl⟩ (fun r_4 H locs hr_4 hP hS => ?_)
    have hp_6 := hr_4
    refine lv_if_eq (tgt := 25) hx hb dX10_firm_11 (by decide) (fun c_7 => ?_) (fun c_7 => ?_)
    · skip
      refine lv_bipush (v := (-2)) hx hb dX10_firm_25 (by decide) ?_
      exact x_reti S hr hlk hQ hS ((fun i => ([tlawNow, tharder, ttold, treply, twet] : List (Int32)).getD i 0), (fun i => ([] : List (Nat)).getD i 0), (fun i => ([f73] : List (Nat → Int32)).getD i (fun _ => 0)), (fun i => ([] : List (Nat → Int64)).getD i (fun _ => 0)), (fun i => ([] : List (Int64)).getD i 0)) trivial (x_B hP hD) dX10_firm_27
    · skip
      obtain ⟨n_8, rfl, hn_8⟩ := hp_6.resolve_left c_7
      refine lv_aload_n hx hb dX10_firm_14 rfl (lv_at hl 0 rfl) ?_
      refine x_get S hK hP 0 rfl cfX10 7 lkX10_57 (by decide) rfl dX10_firm_15 ?_
      refine lv_iload_n hx hb dX10_firm_18 rfl (lv_at hl 1 rfl) ?_
      refine x_muVi (wr := [((o 0), .inr (10, [.ref (o 1), .ref (o 2), .ref (o 3), .ref (o 4), .ref (o 5), .ref (o 6), .ref (o 7), .ref (o 8), .ref (o 9), .ref (o 10), .ref (o 11), .ref (o 12), .ref (o 13), .ref (o 14)]))]) (As := [.int (nI n_8)]) S hK hP hD hZ hS hA hl mwX8_firmHeads lkX10_288 (ctX8_firmHeads l D k z o f74 f76 tlawNow tharder ttold treply twet f73 f69 f70 f71 glines ghours glaw godds grows gheads gsayings gslugs gacts f26 f30 f31 (nI n_8) (by omega) (by omega) (by omega) (by omega) (by omega) (by omega)) [1, 2, 3, 4, 5, 6, 7, 8, 9, 10, 11, 12, 13] [0] rfl rfl (by decide) (by decide) (by decide) rfl rfl rfl rfl rfl ⟨Nat.le_of_ble_eq_true rfl, Nat.le_of_ble_eq_true rfl, Nat.le_of_ble_eq_true rfl⟩ dX10_firm_19 ⟨Nat.le_of_ble_eq_true rfl, Nat.le_of_ble_eq_true rfl⟩ (fun r_9 u_10 H locs hr_9 hP hD hS => ?_)
      have hP : va_P D vwCl [((o 0), .inr (10, [.ref (o 1), .ref (o 2), .ref (o 3), .ref (o 4), .ref (o 5), .ref (o 6), .ref (o 7), .ref (o 8), .ref (o 9), .ref (o 10), .ref (o 11), .ref (o 12), .ref (o 13), .ref (o 14)])), ((o 8), .inr (8, [.ref (o 3), .ref (o 4), .ref (o 6), .ref (o 74), .ref (o 75), .ref (o 76)])), ((o 74), .inl (k 0, 3, .inl f74)), ((o 76), .inl (k 3, 3, .inl f76)), ((o 6), .inr (1, [.ref (o 3), .ref (o 4), .int (u_10.1 0), .int (u_10.1 1), .int (u_10.1 2), .int (u_10.1 3), .int (u_10.1 4), .ref (o 73)])), ((o 73), .inl (k 0, 17, .inl (u_10.2.2.1 0))), ((o 4), .inr (3, [.ref (o 69), .ref (o 70), .ref (o 71)])), ((o 69), .inl (k 0, 17, .inl f69)), ((o 70), .inl (k 0, 17, .inl f70)), ((o 71), .inl (k 0, 17, .inl f71)), ((o 3), .inr (2, [.int glines, .int (nI ghours), .int glaw, .int godds, .int (nI grows), .int (nI gheads), .int (nI gsayings), .int (nI gslugs), .int (nI gacts), .ref (o 26), .ref (o 27), .ref (o 28), .ref (o 29), .ref (o 30), .ref (o 31), .ref (o 32), .ref (o 33), .ref (o 34), .ref (o 35)])), ((o 26), .inl (k 0, 12, .inl f26)), ((o 30), .inl (k 0, 12, .inl f30)), ((o 31), .inl (k 0, 12, .inl f31))] H := hP.sub [0, 1, 2, 3, 4, 5, 6, 7, 8, 9, 10, 11, 12, 13] rfl
      have hD : va_D A [((o 0), .inr (10, [.ref (o 1), .ref (o 2), .ref (o 3), .ref (o 4), .ref (o 5), .ref (o 6), .ref (o 7), .ref (o 8), .ref (o 9), .ref (o 10), .ref (o 11), .ref (o 12), .ref (o 13), .ref (o 14)])), ((o 8), .inr (8, [.ref (o 3), .ref (o 4), .ref (o 6), .ref (o 74), .ref (o 75), .ref (o 76)])), ((o 74), .inl (k 0, 3, .inl f74)), ((o 76), .inl (k 3, 3, .inl f76)), ((o 6), .inr (1, [.ref (o 3), .ref (o 4), .int (u_10.1 0), .int (u_10.1 1), .int (u_10.1 2), .int (u_10.1 3), .int (u_10.1 4), .ref (o 73)])), ((o 73), .inl (k 0, 17, .inl (u_10.2.2.1 0))), ((o 4), .inr (3, [.ref (o 69), .ref (o 70), .ref (o 71)])), ((o 69), .inl (k 0, 17, .inl f69)), ((o 70), .inl (k 0, 17, .inl f70)), ((o 71), .inl (k 0, 17, .inl f71)), ((o 3), .inr (2, [.int glines, .int (nI ghours), .int glaw, .int godds, .int (nI grows), .int (nI gheads), .int (nI gsayings), .int (nI gslugs), .int (nI gacts), .ref (o 26), .ref (o 27), .ref (o 28), .ref (o 29), .ref (o 30), .ref (o 31), .ref (o 32), .ref (o 33), .ref (o 34), .ref (o 35)])), ((o 26), .inl (k 0, 12, .inl f26)), ((o 30), .inl (k 0, 12, .inl f30)), ((o 31), .inl (k 0, 12, .inl f31))] := hD.sub [0, 1, 2, 3, 4, 5, 6, 7, 8, 9, 10, 11, 12, 13] (by decide) rfl
      refine lv_goto (tgt := 27) hx hb dX10_firm_22 (by decide) ?_
      exact x_reti S hr hlk hQ hS ((fun i => ([(u_10.1 0), (u_10.1 1), (u_10.1 2), (u_10.1 3), (u_10.1 4)] : List (Int32)).getD i 0), (fun i => ([] : List (Nat)).getD i 0), (fun i => ([(u_10.2.2.1 0)] : List (Nat → Int32)).getD i (fun _ => 0)), (fun i => ([] : List (Nat → Int64)).getD i (fun _ => 0)), (fun i => ([] : List (Int64)).getD i 0)) trivial (x_B hP hD) dX10_firm_27

set_option maxHeartbeats 4000000 in
set_option maxRecDepth 100000 in
theorem ctX10_share (l : Launch) (D : va_G) (k : Nat → ClassId) (z : Nat → Nat) (o : Nat → Nat) (f74 : Nat → Int32) (f76 : Nat → Int32) (rb : Nat → Nat) (fb0 : Nat → Int32) (fb1 : Nat → Int32) (fb2 : Nat → Int32) (tlawNow : Int32) (tharder : Int32) (ttold : Int32) (treply : Int32) (twet : Int32) (f73 : Nat → Int32) (f69 : Nat → Int32) (f70 : Nat → Int32) (f71 : Nat → Int32) (glines : Int32) (ghours : Nat) (glaw : Int32) (godds : Int32) (grows : Nat) (gheads : Nat) (gsayings : Nat) (gslugs : Nat) (gacts : Nat) (f26 : Nat → Int32) (f30 : Nat → Int32) (f31 : Nat → Int32) (p0 : Int32) (p1 : Int32) (p2 : Int32) (hghours : ghours ≤ 16) (hgrows : grows ≤ 4) (hgheads : gheads ≤ 12) (hgsayings : gsayings ≤ 8) (hgslugs : gslugs ≤ 4) (hgacts : gacts ≤ 30) : MU l yX10_share cX10_share 4 (some .long) 7 D k z [.ref (o 0), .int p0, .int p1, .int p2] [((o 0), .inr (10, [.ref (o 1), .ref (o 2), .ref (o 3), .ref (o 4), .ref (o 5), .ref (o 6), .ref (o 7), .ref (o 8), .ref (o 9), .ref (o 10), .ref (o 11), .ref (o 12), .ref (o 13), .ref (o 14)])), ((o 8), .inr (8, [.ref (o 3), .ref (o 4), .ref (o 6), .ref (o 74), .ref (o 75), .ref (o 76)])), ((o 74), .inl (k 0, 3, .inl f74)), ((o 76), .inl (k 3, 3, .inl f76)), ((o 75), .inl (k 5, 3, .inr (.inr (.inr (.inr (fun i => if i < 3 then some (rb i) else none)))))), ((rb 0), .inl (k 0, 256, .inl fb0)), ((rb 1), .inl (k 0, 256, .inl fb1)), ((rb 2), .inl (k 0, 256, .inl fb2)), ((o 6), .inr (1, [.ref (o 3), .ref (o 4), .int tlawNow, .int tharder, .int ttold, .int treply, .int twet, .ref (o 73)])), ((o 73), .inl (k 0, 17, .inl f73)), ((o 4), .inr (3, [.ref (o 69), .ref (o 70), .ref (o 71)])), ((o 69), .inl (k 0, 17, .inl f69)), ((o 70), .inl (k 0, 17, .inl f70)), ((o 71), .inl (k 0, 17, .inl f71)), ((o 3), .inr (2, [.int glines, .int (nI ghours), .int glaw, .int godds, .int (nI grows), .int (nI gheads), .int (nI gsayings), .int (nI gslugs), .int (nI gacts), .ref (o 26), .ref (o 27), .ref (o 28), .ref (o 29), .ref (o 30), .ref (o 31), .ref (o 32), .ref (o 33), .ref (o 34), .ref (o 35)])), ((o 26), .inl (k 0, 12, .inl f26)), ((o 30), .inl (k 0, 12, .inl f30)), ((o 31), .inl (k 0, 12, .inl f31))] 0 0 (Ul D (fun (r : Int64) (u : (Nat → Int32) × (Nat → Nat) × (Nat → Nat → Int32) × (Nat → Nat → Int64) × (Nat → Int64)) => True) (fun u : (Nat → Int32) × (Nat → Nat) × (Nat → Nat → Int32) × (Nat → Nat → Int64) × (Nat → Int64) => [((o 0), .inr (10, [.ref (o 1), .ref (o 2), .ref (o 3), .ref (o 4), .ref (o 5), .ref (o 6), .ref (o 7), .ref (o 8), .ref (o 9), .ref (o 10), .ref (o 11), .ref (o 12), .ref (o 13), .ref (o 14)])), ((o 8), .inr (8, [.ref (o 3), .ref (o 4), .ref (o 6), .ref (o 74), .ref (o 75), .ref (o 76)])), ((o 74), .inl (k 0, 3, .inl f74)), ((o 76), .inl (k 3, 3, .inl (u.2.2.1 1))), ((o 75), .inl (k 5, 3, .inr (.inr (.inr (.inr (fun i => if i < 3 then some (rb i) else none)))))), ((rb 0), .inl (k 0, 256, .inl fb0)), ((rb 1), .inl (k 0, 256, .inl (u.2.2.1 2))), ((rb 2), .inl (k 0, 256, .inl (u.2.2.1 3))), ((o 6), .inr (1, [.ref (o 3), .ref (o 4), .int (u.1 0), .int (u.1 1), .int (u.1 2), .int (u.1 3), .int (u.1 4), .ref (o 73)])), ((o 73), .inl (k 0, 17, .inl (u.2.2.1 0))), ((o 4), .inr (3, [.ref (o 69), .ref (o 70), .ref (o 71)])), ((o 69), .inl (k 0, 17, .inl f69)), ((o 70), .inl (k 0, 17, .inl f70)), ((o 71), .inl (k 0, 17, .inl f71)), ((o 3), .inr (2, [.int glines, .int (nI ghours), .int glaw, .int godds, .int (nI grows), .int (nI gheads), .int (nI gsayings), .int (nI gslugs), .int (nI gacts), .ref (o 26), .ref (o 27), .ref (o 28), .ref (o 29), .ref (o 30), .ref (o 31), .ref (o 32), .ref (o 33), .ref (o 34), .ref (o 35)])), ((o 26), .inl (k 0, 12, .inl f26)), ((o 30), .inl (k 0, 12, .inl f30)), ((o 31), .inl (k 0, 12, .inl f31))])) := by
  refine MU.of (by decide) (Nat.le_of_ble_eq_true rfl) ?_
  intro p e s m below meth c ls A args Q S hr hlk hnm hQ hK hP hD hZ hA hS hl
  have hx := S.1
  have hb := S.2.1
  have hl : lv_has ls 4 [(0, .ref (o 0)), (1, .int p0), (2, .int p1), (3, .int p2)] := hl
  refine lv_aload_n hx hb dX10_share_0 rfl (lv_at hl 0 rfl) ?_
  refine lv_iload_n hx hb dX10_share_1 rfl (lv_at hl 1 rfl) ?_
  refine x_roVi (As := [.int p0]) S hK hP hD hZ (fun _ h => h) hA hS hA hl mwX10_isHead lkX10_135 (ctX10_isHead l D k z o glines ghours glaw godds grows gheads gsayings gslugs gacts p0 (by omega) (by omega) (by omega) (by omega) (by omega) (by omega)) [0, 14] rfl (by decide) rfl rfl rfl rfl rfl ⟨Nat.le_of_ble_eq_true rfl, Nat.le_of_ble_eq_true rfl, Nat.le_of_ble_eq_true rfl⟩ dX10_share_2 ⟨Nat.le_of_ble_eq_true rfl, Nat.le_of_ble_eq_true rfl⟩ (fun r_1 H locs hr_1 hP hS => ?_)
  have hp_3 := hr_1
  refine lv_if_eq (tgt := 22) hx hb dX10_share_5 (by decide) (fun c_4 => ?_) (fun c_4 => ?_)
  · skip
    refine lv_ldc2 hx hb S.2.2.2.1 (S.2.2.2.2 _ lkX10_294) dX10_share_22 ?_
    exact x_retl S hr hlk hQ hS ((fun i => ([tlawNow, tharder, ttold, treply, twet] : List (Int32)).getD i 0), (fun i => ([] : List (Nat)).getD i 0), (fun i => ([f73, f76, fb1, fb2] : List (Nat → Int32)).getD i (fun _ => 0)), (fun i => ([] : List (Nat → Int64)).getD i (fun _ => 0)), (fun i => ([] : List (Int64)).getD i 0)) trivial (x_B hP hD) dX10_share_25
  · skip
    obtain ⟨n_5, rfl, hn_5⟩ := hp_3.resolve_left c_4
    refine lv_iload_n hx hb dX10_share_8 rfl (lv_at hl 2 rfl) ?_
    refine x_roSi (As := [.int p1]) S hK hP hD hZ (fun _ h => h) hA hS hA hl mwX10_isView lkX10_184 (ctX10_isView l D k z p1 ) [] rfl (by decide) rfl rfl ⟨Nat.le_of_ble_eq_true rfl, Nat.le_of_ble_eq_true rfl, Nat.le_of_ble_eq_true rfl⟩ dX10_share_9 ⟨Nat.le_of_ble_eq_true rfl, Nat.le_of_ble_eq_true rfl⟩ (fun r_6 H locs hr_6 hP hS => ?_)
    have hp_8 := hr_6
    refine lv_if_eq (tgt := 22) hx hb dX10_share_12 (by decide) (fun c_9 => ?_) (fun c_9 => ?_)
    · skip
      refine lv_ldc2 hx hb S.2.2.2.1 (S.2.2.2.2 _ lkX10_294) dX10_share_22 ?_
      exact x_retl S hr hlk hQ hS ((fun i => ([tlawNow, tharder, ttold, treply, twet] : List (Int32)).getD i 0), (fun i => ([] : List (Nat)).getD i 0), (fun i => ([f73, f76, fb1, fb2] : List (Nat → Int32)).getD i (fun _ => 0)), (fun i => ([] : List (Nat → Int64)).getD i (fun _ => 0)), (fun i => ([] : List (Int64)).getD i 0)) trivial (x_B hP hD) dX10_share_25
    · skip
      obtain ⟨n_10, rfl, hn_10⟩ := hp_8.resolve_left c_9
      refine lv_iload_n hx hb dX10_share_15 rfl (lv_at hl 3 rfl) ?_
      refine x_roSi (As := [.int p2]) S hK hP hD hZ (fun _ h => h) hA hS hA hl mwX10_isPart lkX10_291 (ctX10_isPart l D k z p2 ) [] rfl (by decide) rfl rfl ⟨Nat.le_of_ble_eq_true rfl, Nat.le_of_ble_eq_true rfl, Nat.le_of_ble_eq_true rfl⟩ dX10_share_16 ⟨Nat.le_of_ble_eq_true rfl, Nat.le_of_ble_eq_true rfl⟩ (fun r_11 H locs hr_11 hP hS => ?_)
      refine lv_if_ne (tgt := 26) hx hb dX10_share_19 (by decide) (fun c_13 => ?_) (fun c_13 => ?_)
      · skip
        refine lv_aload_n hx hb dX10_share_26 rfl (lv_at hl 0 rfl) ?_
        refine x_get S hK hP 0 rfl cfX10 2 lkX10_23 (by decide) rfl dX10_share_27 ?_
        refine x_get S hK hP 14 rfl cfX2 5 lkX10_296 (by decide) rfl dX10_share_30 ?_
        refine lv_bipush (v := 8) hx hb dX10_share_33 (by decide) ?_
        refine lv_icmp_le (tgt := 42) hx hb dX10_share_35 (by decide) (fun c_14 => ?_) (fun c_14 => ?_)
        · skip
          have c_14 : gheads ≤ 8 := (ni_le rfl (by decide) (by omega) (by omega)).mp c_14
          refine lv_aload_n hx hb dX10_share_42 rfl (lv_at hl 0 rfl) ?_
          refine x_get S hK hP 0 rfl cfX10 7 lkX10_57 (by decide) rfl dX10_share_43 ?_
          refine lv_iload_n hx hb dX10_share_46 rfl (lv_at hl 1 rfl) ?_
          refine lv_iload_n hx hb dX10_share_47 rfl (lv_at hl 2 rfl) ?_
          refine x_muVl (wr := [((o 0), .inr (10, [.ref (o 1), .ref (o 2), .ref (o 3), .ref (o 4), .ref (o 5), .ref (o 6), .ref (o 7), .ref (o 8), .ref (o 9), .ref (o 10), .ref (o 11), .ref (o 12), .ref (o 13), .ref (o 14)]))]) (As := [.int (nI n_5), .int (nI n_10)]) S hK hP hD hZ hS hA hl mwX8_shareAbove lkX10_301 (ctX8_shareAbove l D k z o f74 f76 rb fb0 fb1 fb2 tlawNow tharder ttold treply twet f73 f69 f70 f71 glines ghours glaw godds grows gheads gsayings gslugs gacts f26 f30 f31 n_5 n_10 (by omega) (by omega) (by omega) (by omega) (by omega) (by omega) (by omega) (by omega) (by omega) (by omega)) [1, 2, 3, 4, 5, 6, 7, 8, 9, 10, 11, 12, 13, 14, 15, 16, 17] [0] rfl rfl (by decide) (by decide) (by decide) rfl rfl rfl rfl rfl ⟨Nat.le_of_ble_eq_true rfl, Nat.le_of_ble_eq_true rfl, Nat.le_of_ble_eq_true rfl⟩ dX10_share_48 ⟨Nat.le_of_ble_eq_true rfl, Nat.le_of_ble_eq_true rfl⟩ (fun r_15 u_16 H locs hr_15 hP hD hS => ?_)
          have hP : va_P D vwCl [((o 0), .inr (10, [.ref (o 1), .ref (o 2), .ref (o 3), .ref (o 4), .ref (o 5), .ref (o 6), .ref (o 7), .ref (o 8), .ref (o 9), .ref (o 10), .ref (o 11), .ref (o 12), .ref (o 13), .ref (o 14)])), ((o 8), .inr (8, [.ref (o 3), .ref (o 4), .ref (o 6), .ref (o 74), .ref (o 75), .ref (o 76)])), ((o 74), .inl (k 0, 3, .inl f74)), ((o 76), .inl (k 3, 3, .inl (u_16.2.2.1 1))), ((o 75), .inl (k 5, 3, .inr (.inr (.inr (.inr (fun i => if i < 3 then some (rb i) else none)))))), ((rb 0), .inl (k 0, 256, .inl fb0)), ((rb 1), .inl (k 0, 256, .inl (u_16.2.2.1 2))), ((rb 2), .inl (k 0, 256, .inl (u_16.2.2.1 3))), ((o 6), .inr (1, [.ref (o 3), .ref (o 4), .int (u_16.1 0), .int (u_16.1 1), .int (u_16.1 2), .int (u_16.1 3), .int (u_16.1 4), .ref (o 73)])), ((o 73), .inl (k 0, 17, .inl (u_16.2.2.1 0))), ((o 4), .inr (3, [.ref (o 69), .ref (o 70), .ref (o 71)])), ((o 69), .inl (k 0, 17, .inl f69)), ((o 70), .inl (k 0, 17, .inl f70)), ((o 71), .inl (k 0, 17, .inl f71)), ((o 3), .inr (2, [.int glines, .int (nI ghours), .int glaw, .int godds, .int (nI grows), .int (nI gheads), .int (nI gsayings), .int (nI gslugs), .int (nI gacts), .ref (o 26), .ref (o 27), .ref (o 28), .ref (o 29), .ref (o 30), .ref (o 31), .ref (o 32), .ref (o 33), .ref (o 34), .ref (o 35)])), ((o 26), .inl (k 0, 12, .inl f26)), ((o 30), .inl (k 0, 12, .inl f30)), ((o 31), .inl (k 0, 12, .inl f31))] H := hP.sub [0, 1, 2, 3, 4, 5, 6, 7, 8, 9, 10, 11, 12, 13, 14, 15, 16, 17] rfl
          have hD : va_D A [((o 0), .inr (10, [.ref (o 1), .ref (o 2), .ref (o 3), .ref (o 4), .ref (o 5), .ref (o 6), .ref (o 7), .ref (o 8), .ref (o 9), .ref (o 10), .ref (o 11), .ref (o 12), .ref (o 13), .ref (o 14)])), ((o 8), .inr (8, [.ref (o 3), .ref (o 4), .ref (o 6), .ref (o 74), .ref (o 75), .ref (o 76)])), ((o 74), .inl (k 0, 3, .inl f74)), ((o 76), .inl (k 3, 3, .inl (u_16.2.2.1 1))), ((o 75), .inl (k 5, 3, .inr (.inr (.inr (.inr (fun i => if i < 3 then some (rb i) else none)))))), ((rb 0), .inl (k 0, 256, .inl fb0)), ((rb 1), .inl (k 0, 256, .inl (u_16.2.2.1 2))), ((rb 2), .inl (k 0, 256, .inl (u_16.2.2.1 3))), ((o 6), .inr (1, [.ref (o 3), .ref (o 4), .int (u_16.1 0), .int (u_16.1 1), .int (u_16.1 2), .int (u_16.1 3), .int (u_16.1 4), .ref (o 73)])), ((o 73), .inl (k 0, 17, .inl (u_16.2.2.1 0))), ((o 4), .inr (3, [.ref (o 69), .ref (o 70), .ref (o 71)])), ((o 69), .inl (k 0, 17, .inl f69)), ((o 70), .inl (k 0, 17, .inl f70)), ((o 71), .inl (k 0, 17, .inl f71)), ((o 3), .inr (2, [.int glines, .int (nI ghours), .int glaw, .int godds, .int (nI grows), .int (nI gheads), .int (nI gsayings), .int (nI gslugs), .int (nI gacts), .ref (o 26), .ref (o 27), .ref (o 28), .ref (o 29), .ref (o 30), .ref (o 31), .ref (o 32), .ref (o 33), .ref (o 34), .ref (o 35)])), ((o 26), .inl (k 0, 12, .inl f26)), ((o 30), .inl (k 0, 12, .inl f30)), ((o 31), .inl (k 0, 12, .inl f31))] := hD.sub [0, 1, 2, 3, 4, 5, 6, 7, 8, 9, 10, 11, 12, 13, 14, 15, 16, 17] (by decide) rfl
          refine lv_aload_n hx hb dX10_share_51 rfl (lv_at hl 0 rfl) ?_
          refine x_get S hK hP 0 rfl cfX10 2 lkX10_23 (by decide) rfl dX10_share_52 ?_
          refine x_get S hK hP 14 rfl cfX2 5 lkX10_296 (by decide) rfl dX10_share_55 ?_
          refine x_roSl (As := [.int (nI gheads)]) S hK hP hD hZ (fun _ h => h) hA hS hA hl mwX10_factorial lkX10_305 (ctX10_factorial l D k z gheads (by omega)) [] rfl (by decide) rfl rfl ⟨Nat.le_of_ble_eq_true rfl, Nat.le_of_ble_eq_true rfl, Nat.le_of_ble_eq_true rfl⟩ dX10_share_58 ⟨Nat.le_of_ble_eq_true rfl, Nat.le_of_ble_eq_true rfl⟩ (fun r_17 H locs hr_17 hP hS => ?_)
          refine lv_iload_n hx hb dX10_share_61 rfl (lv_at hl 3 rfl) ?_
          refine x_roSl (As := [.long r_15, .long r_17, .int p2]) S hK hP hD hZ (fun _ h => h) hA hS hA hl mwX10_part lkX10_309 (ctX10_part l D k z r_15 r_17 p2 ) [] rfl (by decide) rfl rfl ⟨Nat.le_of_ble_eq_true rfl, Nat.le_of_ble_eq_true rfl, Nat.le_of_ble_eq_true rfl⟩ dX10_share_62 ⟨Nat.le_of_ble_eq_true rfl, Nat.le_of_ble_eq_true rfl⟩ (fun r_19 H locs hr_19 hP hS => ?_)
          exact x_retl S hr hlk hQ hS ((fun i => ([(u_16.1 0), (u_16.1 1), (u_16.1 2), (u_16.1 3), (u_16.1 4)] : List (Int32)).getD i 0), (fun i => ([] : List (Nat)).getD i 0), (fun i => ([(u_16.2.2.1 0), (u_16.2.2.1 1), (u_16.2.2.1 2), (u_16.2.2.1 3)] : List (Nat → Int32)).getD i (fun _ => 0)), (fun i => ([] : List (Nat → Int64)).getD i (fun _ => 0)), (fun i => ([] : List (Int64)).getD i 0)) trivial (x_B hP hD) dX10_share_65
        · skip
          have c_14 : ¬ gheads ≤ 8 := fun q => c_14 ((ni_le rfl (by decide) (by omega) (by omega)).mpr q)
          refine lv_ldc2 hx hb S.2.2.2.1 (S.2.2.2.2 _ lkX10_299) dX10_share_38 ?_
          exact x_retl S hr hlk hQ hS ((fun i => ([tlawNow, tharder, ttold, treply, twet] : List (Int32)).getD i 0), (fun i => ([] : List (Nat)).getD i 0), (fun i => ([f73, f76, fb1, fb2] : List (Nat → Int32)).getD i (fun _ => 0)), (fun i => ([] : List (Nat → Int64)).getD i (fun _ => 0)), (fun i => ([] : List (Int64)).getD i 0)) trivial (x_B hP hD) dX10_share_41
      · skip
        refine lv_ldc2 hx hb S.2.2.2.1 (S.2.2.2.2 _ lkX10_294) dX10_share_22 ?_
        exact x_retl S hr hlk hQ hS ((fun i => ([tlawNow, tharder, ttold, treply, twet] : List (Int32)).getD i 0), (fun i => ([] : List (Nat)).getD i 0), (fun i => ([f73, f76, fb1, fb2] : List (Nat → Int32)).getD i (fun _ => 0)), (fun i => ([] : List (Nat → Int64)).getD i (fun _ => 0)), (fun i => ([] : List (Int64)).getD i 0)) trivial (x_B hP hD) dX10_share_25

set_option maxHeartbeats 4000000 in
set_option maxRecDepth 100000 in
theorem ctX10_sample (l : Launch) (D : va_G) (k : Nat → ClassId) (z : Nat → Nat) (o : Nat → Nat) (clawNow : Int32) (charder : Int32) (ctold : Int32) (creply : Int32) (cwet : Int32) (f72 : Nat → Int32) (f69 : Nat → Int32) (f70 : Nat → Int32) (f71 : Nat → Int32) (glines : Int32) (ghours : Nat) (glaw : Int32) (godds : Int32) (grows : Nat) (gheads : Nat) (gsayings : Nat) (gslugs : Nat) (gacts : Nat) (f26 : Nat → Int32) (f29 : Nat → Int32) (f30 : Nat → Int32) (f31 : Nat → Int32) (f32 : Nat → Int32) (p0 : Int32) (p1 : Int32) (p2 : Int32) (hghours : ghours ≤ 16) (hgrows : grows ≤ 4) (hgheads : gheads ≤ 12) (hgsayings : gsayings ≤ 8) (hgslugs : gslugs ≤ 4) (hgacts : gacts ≤ 30) : RO l yX10_sample cX10_sample 5 (some .long) 4 D k z [.ref (o 0), .int p0, .int p1, .int p2] [((o 0), .inr (10, [.ref (o 1), .ref (o 2), .ref (o 3), .ref (o 4), .ref (o 5), .ref (o 6), .ref (o 7), .ref (o 8), .ref (o 9), .ref (o 10), .ref (o 11), .ref (o 12), .ref (o 13), .ref (o 14)])), ((o 7), .inr (7, [.ref (o 3), .ref (o 4), .ref (o 5)])), ((o 5), .inr (1, [.ref (o 3), .ref (o 4), .int clawNow, .int charder, .int ctold, .int creply, .int cwet, .ref (o 72)])), ((o 72), .inl (k 0, 17, .inl f72)), ((o 4), .inr (3, [.ref (o 69), .ref (o 70), .ref (o 71)])), ((o 69), .inl (k 0, 17, .inl f69)), ((o 70), .inl (k 0, 17, .inl f70)), ((o 71), .inl (k 0, 17, .inl f71)), ((o 3), .inr (2, [.int glines, .int (nI ghours), .int glaw, .int godds, .int (nI grows), .int (nI gheads), .int (nI gsayings), .int (nI gslugs), .int (nI gacts), .ref (o 26), .ref (o 27), .ref (o 28), .ref (o 29), .ref (o 30), .ref (o 31), .ref (o 32), .ref (o 33), .ref (o 34), .ref (o 35)])), ((o 26), .inl (k 0, 12, .inl f26)), ((o 29), .inl (k 0, 12, .inl f29)), ((o 30), .inl (k 0, 12, .inl f30)), ((o 31), .inl (k 0, 12, .inl f31)), ((o 32), .inl (k 0, 4, .inl f32))] (Ql (fun r : Int64 => True)) := by
  refine RO.of (by decide) (Nat.le_of_ble_eq_true rfl) ?_
  intro p e s m below meth c ls A B args Q S hr hlk hQ hK hP hDW hZ hAB hBA hA hS hl
  have hx := S.1
  have hb := S.2.1
  have hl : lv_has ls 5 [(0, .ref (o 0)), (1, .int p0), (2, .int p1), (3, .int p2)] := hl
  refine lv_aload_n hx hb dX10_sample_0 rfl (lv_at hl 0 rfl) ?_
  refine lv_iload_n hx hb dX10_sample_1 rfl (lv_at hl 1 rfl) ?_
  refine x_roVi (As := [.int p0]) S hK hP hDW hZ hAB hBA hS hA hl mwX10_isHour lkX10_161 (ctX10_isHour l D k z o glines ghours glaw godds grows gheads gsayings gslugs gacts p0 (by omega) (by omega) (by omega) (by omega) (by omega) (by omega)) [0, 8] rfl (by decide) rfl rfl rfl rfl rfl ⟨Nat.le_of_ble_eq_true rfl, Nat.le_of_ble_eq_true rfl, Nat.le_of_ble_eq_true rfl⟩ dX10_sample_2 ⟨Nat.le_of_ble_eq_true rfl, Nat.le_of_ble_eq_true rfl⟩ (fun r_1 H locs hr_1 hP hS => ?_)
  have hp_3 := hr_1
  refine lv_if_eq (tgt := 36) hx hb dX10_sample_5 (by decide) (fun c_4 => ?_) (fun c_4 => ?_)
  · skip
    refine lv_iconst (v := 0) hx hb dX10_sample_36 (by decide) ?_
    refine lv_istore (lv' := [(4, .int 0), (0, .ref (o 0)), (1, .int p0), (2, .int p1), (3, .int p2)]) hx hb dX10_sample_37 hl (by decide) rfl (fun ls hl => ?_)
    refine lv_iload hx hb dX10_sample_39 (lv_at hl 0 rfl) ?_
    refine lv_if_eq (tgt := 72) hx hb dX10_sample_41 (by decide) (fun c_5 => ?_) (fun c_5 => absurd (by decide) c_5)
    refine lv_ldc2 hx hb S.2.2.2.1 (S.2.2.2.2 _ lkX10_294) dX10_sample_72 ?_
    exact x_retl S hr hlk hQ hS () trivial x_T dX10_sample_75
  · skip
    obtain ⟨n_6, rfl, hn_6⟩ := hp_3.resolve_left c_4
    refine lv_iload_n hx hb dX10_sample_8 rfl (lv_at hl 3 rfl) ?_
    refine x_roSi (As := [.int p2]) S hK hP hDW hZ hAB hBA hS hA hl mwX10_isPart lkX10_291 (ctX10_isPart l D k z p2 ) [] rfl (by decide) rfl rfl ⟨Nat.le_of_ble_eq_true rfl, Nat.le_of_ble_eq_true rfl, Nat.le_of_ble_eq_true rfl⟩ dX10_sample_9 ⟨Nat.le_of_ble_eq_true rfl, Nat.le_of_ble_eq_true rfl⟩ (fun r_7 H locs hr_7 hP hS => ?_)
    refine lv_if_eq (tgt := 36) hx hb dX10_sample_12 (by decide) (fun c_9 => ?_) (fun c_9 => ?_)
    · skip
      refine lv_iconst (v := 0) hx hb dX10_sample_36 (by decide) ?_
      refine lv_istore (lv' := [(4, .int 0), (0, .ref (o 0)), (1, .int (nI n_6)), (2, .int p1), (3, .int p2)]) hx hb dX10_sample_37 hl (by decide) rfl (fun ls hl => ?_)
      refine lv_iload hx hb dX10_sample_39 (lv_at hl 0 rfl) ?_
      refine lv_if_eq (tgt := 72) hx hb dX10_sample_41 (by decide) (fun c_10 => ?_) (fun c_10 => absurd (by decide) c_10)
      refine lv_ldc2 hx hb S.2.2.2.1 (S.2.2.2.2 _ lkX10_294) dX10_sample_72 ?_
      exact x_retl S hr hlk hQ hS () trivial x_T dX10_sample_75
    · skip
      refine lv_iload_n hx hb dX10_sample_15 rfl (lv_at hl 2 rfl) ?_
      refine lv_iconst (v := 1) hx hb dX10_sample_16 (by decide) ?_
      refine lv_icmp_lt (tgt := 36) hx hb dX10_sample_17 (by decide) (fun c_11 => ?_) (fun c_11 => ?_)
      · skip
        refine lv_iconst (v := 0) hx hb dX10_sample_36 (by decide) ?_
        refine lv_istore (lv' := [(4, .int 0), (0, .ref (o 0)), (1, .int (nI n_6)), (2, .int p1), (3, .int p2)]) hx hb dX10_sample_37 hl (by decide) rfl (fun ls hl => ?_)
        refine lv_iload hx hb dX10_sample_39 (lv_at hl 0 rfl) ?_
        refine lv_if_eq (tgt := 72) hx hb dX10_sample_41 (by decide) (fun c_12 => ?_) (fun c_12 => absurd (by decide) c_12)
        refine lv_ldc2 hx hb S.2.2.2.1 (S.2.2.2.2 _ lkX10_294) dX10_sample_72 ?_
        exact x_retl S hr hlk hQ hS () trivial x_T dX10_sample_75
      · skip
        refine lv_iload_n hx hb dX10_sample_20 rfl (lv_at hl 2 rfl) ?_
        refine lv_aload_n hx hb dX10_sample_21 rfl (lv_at hl 0 rfl) ?_
        refine x_get S hK hP 0 rfl cfX10 6 lkX10_50 (by decide) rfl dX10_sample_22 ?_
        refine lv_iload_n hx hb dX10_sample_25 rfl (lv_at hl 1 rfl) ?_
        refine x_roVi (As := [.int (nI n_6)]) S hK hP hDW hZ hAB hBA hS hA hl mwX7_living lkX10_313 (ctX7_living l D k z o clawNow charder ctold creply cwet f72 f69 f70 f71 glines ghours glaw godds grows gheads gsayings gslugs gacts f26 f29 f30 f31 f32 n_6 (by omega) (by omega) (by omega) (by omega) (by omega) (by omega) (by omega)) [1, 2, 3, 4, 5, 6, 7, 8, 9, 10, 11, 12, 13] rfl (by decide) rfl rfl rfl rfl rfl ⟨Nat.le_of_ble_eq_true rfl, Nat.le_of_ble_eq_true rfl, Nat.le_of_ble_eq_true rfl⟩ dX10_sample_26 ⟨Nat.le_of_ble_eq_true rfl, Nat.le_of_ble_eq_true rfl⟩ (fun r_13 H locs hr_13 hP hS => ?_)
        obtain ⟨n_15, rfl, hn_15⟩ := hr_13
        refine lv_icmp_gt (tgt := 36) hx hb dX10_sample_29 (by decide) (fun c_16 => ?_) (fun c_16 => ?_)
        · skip
          refine lv_iconst (v := 0) hx hb dX10_sample_36 (by decide) ?_
          refine lv_istore (lv' := [(4, .int 0), (0, .ref (o 0)), (1, .int (nI n_6)), (2, .int p1), (3, .int p2)]) hx hb dX10_sample_37 hl (by decide) rfl (fun ls hl => ?_)
          refine lv_iload hx hb dX10_sample_39 (lv_at hl 0 rfl) ?_
          refine lv_if_eq (tgt := 72) hx hb dX10_sample_41 (by decide) (fun c_17 => ?_) (fun c_17 => absurd (by decide) c_17)
          refine lv_ldc2 hx hb S.2.2.2.1 (S.2.2.2.2 _ lkX10_294) dX10_sample_72 ?_
          exact x_retl S hr hlk hQ hS () trivial x_T dX10_sample_75
        · skip
          refine lv_iconst (v := 1) hx hb dX10_sample_32 (by decide) ?_
          refine lv_goto (tgt := 37) hx hb dX10_sample_33 (by decide) ?_
          refine lv_istore (lv' := [(4, .int 1), (0, .ref (o 0)), (1, .int (nI n_6)), (2, .int p1), (3, .int p2)]) hx hb dX10_sample_37 hl (by decide) rfl (fun ls hl => ?_)
          refine lv_iload hx hb dX10_sample_39 (lv_at hl 0 rfl) ?_
          refine lv_if_eq (tgt := 72) hx hb dX10_sample_41 (by decide) (fun c_18 => absurd c_18 (by decide)) (fun c_18 => ?_)
          refine lv_aload_n hx hb dX10_sample_44 rfl (lv_at hl 1 rfl) ?_
          refine x_get S hK hP 0 rfl cfX10 6 lkX10_50 (by decide) rfl dX10_sample_45 ?_
          refine lv_iload_n hx hb dX10_sample_48 rfl (lv_at hl 2 rfl) ?_
          refine lv_iload_n hx hb dX10_sample_49 rfl (lv_at hl 3 rfl) ?_
          refine x_roVl (As := [.int (nI n_6), .int p1]) S hK hP hDW hZ hAB hBA hS hA hl mwX7_samplesForOne lkX10_316 (ctX7_samplesForOne l D k z o clawNow charder ctold creply cwet f72 f69 f70 f71 glines ghours glaw godds grows gheads gsayings gslugs gacts f26 f29 f30 f31 f32 n_6 p1 (by omega) (by omega) (by omega) (by omega) (by omega) (by omega) (by omega)) [1, 2, 3, 4, 5, 6, 7, 8, 9, 10, 11, 12, 13] rfl (by decide) rfl rfl rfl rfl rfl ⟨Nat.le_of_ble_eq_true rfl, Nat.le_of_ble_eq_true rfl, Nat.le_of_ble_eq_true rfl⟩ dX10_sample_50 ⟨Nat.le_of_ble_eq_true rfl, Nat.le_of_ble_eq_true rfl⟩ (fun r_19 H locs hr_19 hP hS => ?_)
          refine lv_aload_n hx hb dX10_sample_53 rfl (lv_at hl 1 rfl) ?_
          refine x_get S hK hP 0 rfl cfX10 6 lkX10_50 (by decide) rfl dX10_sample_54 ?_
          refine lv_iload_n hx hb dX10_sample_57 rfl (lv_at hl 2 rfl) ?_
          refine x_roVi (As := [.int (nI n_6)]) S hK hP hDW hZ hAB hBA hS hA hl mwX7_living lkX10_313 (ctX7_living l D k z o clawNow charder ctold creply cwet f72 f69 f70 f71 glines ghours glaw godds grows gheads gsayings gslugs gacts f26 f29 f30 f31 f32 n_6 (by omega) (by omega) (by omega) (by omega) (by omega) (by omega) (by omega)) [1, 2, 3, 4, 5, 6, 7, 8, 9, 10, 11, 12, 13] rfl (by decide) rfl rfl rfl rfl rfl ⟨Nat.le_of_ble_eq_true rfl, Nat.le_of_ble_eq_true rfl, Nat.le_of_ble_eq_true rfl⟩ dX10_sample_58 ⟨Nat.le_of_ble_eq_true rfl, Nat.le_of_ble_eq_true rfl⟩ (fun r_21 H locs hr_21 hP hS => ?_)
          obtain ⟨n_23, rfl, hn_23⟩ := hr_21
          refine lv_iload_n hx hb dX10_sample_61 rfl (lv_at hl 3 rfl) ?_
          refine x_roSl (As := [.int (nI n_23), .int p1]) S hK hP hDW hZ hAB hBA hS hA hl mwX10_choose lkX10_319 (ctX10_choose l D k z n_23 p1 (by omega)) [] rfl (by decide) rfl rfl ⟨Nat.le_of_ble_eq_true rfl, Nat.le_of_ble_eq_true rfl, Nat.le_of_ble_eq_true rfl⟩ dX10_sample_62 ⟨Nat.le_of_ble_eq_true rfl, Nat.le_of_ble_eq_true rfl⟩ (fun r_24 H locs hr_24 hP hS => ?_)
          refine lv_iload_n hx hb dX10_sample_65 rfl (lv_at hl 4 rfl) ?_
          refine x_roSl (As := [.long r_19, .long r_24, .int p2]) S hK hP hDW hZ hAB hBA hS hA hl mwX10_part lkX10_309 (ctX10_part l D k z r_19 r_24 p2 ) [] rfl (by decide) rfl rfl ⟨Nat.le_of_ble_eq_true rfl, Nat.le_of_ble_eq_true rfl, Nat.le_of_ble_eq_true rfl⟩ dX10_sample_66 ⟨Nat.le_of_ble_eq_true rfl, Nat.le_of_ble_eq_true rfl⟩ (fun r_26 H locs hr_26 hP hS => ?_)
          refine lv_goto (tgt := 75) hx hb dX10_sample_69 (by decide) ?_
          exact x_retl S hr hlk hQ hS () trivial x_T dX10_sample_75

set_option maxHeartbeats 4000000 in
set_option maxRecDepth 100000 in
theorem ctX10_sure (l : Launch) (D : va_G) (k : Nat → ClassId) (z : Nat → Nat) (o : Nat → Nat) (clawNow : Int32) (charder : Int32) (ctold : Int32) (creply : Int32) (cwet : Int32) (f72 : Nat → Int32) (f69 : Nat → Int32) (f70 : Nat → Int32) (f71 : Nat → Int32) (glines : Int32) (ghours : Nat) (glaw : Int32) (godds : Int32) (grows : Nat) (gheads : Nat) (gsayings : Nat) (gslugs : Nat) (gacts : Nat) (f26 : Nat → Int32) (f29 : Nat → Int32) (f30 : Nat → Int32) (f31 : Nat → Int32) (f32 : Nat → Int32) (p0 : Int32) (hghours : ghours ≤ 16) (hgrows : grows ≤ 4) (hgheads : gheads ≤ 12) (hgsayings : gsayings ≤ 8) (hgslugs : gslugs ≤ 4) (hgacts : gacts ≤ 30) : RO l yX10_sure cX10_sure 2 (some .int) 5 D k z [.ref (o 0), .int p0] [((o 0), .inr (10, [.ref (o 1), .ref (o 2), .ref (o 3), .ref (o 4), .ref (o 5), .ref (o 6), .ref (o 7), .ref (o 8), .ref (o 9), .ref (o 10), .ref (o 11), .ref (o 12), .ref (o 13), .ref (o 14)])), ((o 7), .inr (7, [.ref (o 3), .ref (o 4), .ref (o 5)])), ((o 5), .inr (1, [.ref (o 3), .ref (o 4), .int clawNow, .int charder, .int ctold, .int creply, .int cwet, .ref (o 72)])), ((o 72), .inl (k 0, 17, .inl f72)), ((o 4), .inr (3, [.ref (o 69), .ref (o 70), .ref (o 71)])), ((o 69), .inl (k 0, 17, .inl f69)), ((o 70), .inl (k 0, 17, .inl f70)), ((o 71), .inl (k 0, 17, .inl f71)), ((o 3), .inr (2, [.int glines, .int (nI ghours), .int glaw, .int godds, .int (nI grows), .int (nI gheads), .int (nI gsayings), .int (nI gslugs), .int (nI gacts), .ref (o 26), .ref (o 27), .ref (o 28), .ref (o 29), .ref (o 30), .ref (o 31), .ref (o 32), .ref (o 33), .ref (o 34), .ref (o 35)])), ((o 26), .inl (k 0, 12, .inl f26)), ((o 29), .inl (k 0, 12, .inl f29)), ((o 30), .inl (k 0, 12, .inl f30)), ((o 31), .inl (k 0, 12, .inl f31)), ((o 32), .inl (k 0, 4, .inl f32))] (Qi (fun r : Int32 => True)) := by
  refine RO.of (by decide) (Nat.le_of_ble_eq_true rfl) ?_
  intro p e s m below meth c ls A B args Q S hr hlk hQ hK hP hDW hZ hAB hBA hA hS hl
  have hx := S.1
  have hb := S.2.1
  have hl : lv_has ls 2 [(0, .ref (o 0)), (1, .int p0)] := hl
  refine lv_aload_n hx hb dX10_sure_0 rfl (lv_at hl 0 rfl) ?_
  refine lv_iload_n hx hb dX10_sure_1 rfl (lv_at hl 1 rfl) ?_
  refine x_roVi (As := [.int p0]) S hK hP hDW hZ hAB hBA hS hA hl mwX10_isHour lkX10_161 (ctX10_isHour l D k z o glines ghours glaw godds grows gheads gsayings gslugs gacts p0 (by omega) (by omega) (by omega) (by omega) (by omega) (by omega)) [0, 8] rfl (by decide) rfl rfl rfl rfl rfl ⟨Nat.le_of_ble_eq_true rfl, Nat.le_of_ble_eq_true rfl, Nat.le_of_ble_eq_true rfl⟩ dX10_sure_2 ⟨Nat.le_of_ble_eq_true rfl, Nat.le_of_ble_eq_true rfl⟩ (fun r_1 H locs hr_1 hP hS => ?_)
  have hp_3 := hr_1
  refine lv_if_eq (tgt := 19) hx hb dX10_sure_5 (by decide) (fun c_4 => ?_) (fun c_4 => ?_)
  · skip
    refine lv_bipush (v := (-2)) hx hb dX10_sure_19 (by decide) ?_
    exact x_reti S hr hlk hQ hS () trivial x_T dX10_sure_21
  · skip
    obtain ⟨n_5, rfl, hn_5⟩ := hp_3.resolve_left c_4
    refine lv_aload_n hx hb dX10_sure_8 rfl (lv_at hl 0 rfl) ?_
    refine x_get S hK hP 0 rfl cfX10 6 lkX10_50 (by decide) rfl dX10_sure_9 ?_
    refine lv_iload_n hx hb dX10_sure_12 rfl (lv_at hl 1 rfl) ?_
    refine x_roVi (As := [.int (nI n_5)]) S hK hP hDW hZ hAB hBA hS hA hl mwX7_leastSure lkX10_322 (ctX7_leastSure l D k z o clawNow charder ctold creply cwet f72 f69 f70 f71 glines ghours glaw godds grows gheads gsayings gslugs gacts f26 f29 f30 f31 f32 n_5 (by omega) (by omega) (by omega) (by omega) (by omega) (by omega) (by omega)) [1, 2, 3, 4, 5, 6, 7, 8, 9, 10, 11, 12, 13] rfl (by decide) rfl rfl rfl rfl rfl ⟨Nat.le_of_ble_eq_true rfl, Nat.le_of_ble_eq_true rfl, Nat.le_of_ble_eq_true rfl⟩ dX10_sure_13 ⟨Nat.le_of_ble_eq_true rfl, Nat.le_of_ble_eq_true rfl⟩ (fun r_6 H locs hr_6 hP hS => ?_)
    refine lv_goto (tgt := 21) hx hb dX10_sure_16 (by decide) ?_
    exact x_reti S hr hlk hQ hS () trivial x_T dX10_sure_21

set_option maxHeartbeats 4000000 in
set_option maxRecDepth 100000 in
theorem ctX10_worth (l : Launch) (D : va_G) (k : Nat → ClassId) (z : Nat → Nat) (o : Nat → Nat) (kopener : Int32) (kworth : Int32) (tlawNow : Int32) (tharder : Int32) (ttold : Int32) (treply : Int32) (twet : Int32) (f73 : Nat → Int32) (f69 : Nat → Int32) (f70 : Nat → Int32) (f71 : Nat → Int32) (glines : Int32) (ghours : Nat) (glaw : Int32) (godds : Int32) (grows : Nat) (gheads : Nat) (gsayings : Nat) (gslugs : Nat) (gacts : Nat) (f26 : Nat → Int32) (f30 : Nat → Int32) (f31 : Nat → Int32) (hghours : ghours ≤ 16) (hgrows : grows ≤ 4) (hgheads : gheads ≤ 12) (hgsayings : gsayings ≤ 8) (hgslugs : gslugs ≤ 4) (hgacts : gacts ≤ 30) : MU l yX10_worth cX10_worth 1 (some .int) 6 D k z [.ref (o 0)] [((o 0), .inr (10, [.ref (o 1), .ref (o 2), .ref (o 3), .ref (o 4), .ref (o 5), .ref (o 6), .ref (o 7), .ref (o 8), .ref (o 9), .ref (o 10), .ref (o 11), .ref (o 12), .ref (o 13), .ref (o 14)])), ((o 9), .inr (0, [.ref (o 3), .ref (o 6), .int kopener, .int kworth])), ((o 6), .inr (1, [.ref (o 3), .ref (o 4), .int tlawNow, .int tharder, .int ttold, .int treply, .int twet, .ref (o 73)])), ((o 73), .inl (k 0, 17, .inl f73)), ((o 4), .inr (3, [.ref (o 69), .ref (o 70), .ref (o 71)])), ((o 69), .inl (k 0, 17, .inl f69)), ((o 70), .inl (k 0, 17, .inl f70)), ((o 71), .inl (k 0, 17, .inl f71)), ((o 3), .inr (2, [.int glines, .int (nI ghours), .int glaw, .int godds, .int (nI grows), .int (nI gheads), .int (nI gsayings), .int (nI gslugs), .int (nI gacts), .ref (o 26), .ref (o 27), .ref (o 28), .ref (o 29), .ref (o 30), .ref (o 31), .ref (o 32), .ref (o 33), .ref (o 34), .ref (o 35)])), ((o 26), .inl (k 0, 12, .inl f26)), ((o 30), .inl (k 0, 12, .inl f30)), ((o 31), .inl (k 0, 12, .inl f31))] 0 0 (Ui D (fun (r : Int32) (u : (Nat → Int32) × (Nat → Nat) × (Nat → Nat → Int32) × (Nat → Nat → Int64) × (Nat → Int64)) => True) (fun u : (Nat → Int32) × (Nat → Nat) × (Nat → Nat → Int32) × (Nat → Nat → Int64) × (Nat → Int64) => [((o 0), .inr (10, [.ref (o 1), .ref (o 2), .ref (o 3), .ref (o 4), .ref (o 5), .ref (o 6), .ref (o 7), .ref (o 8), .ref (o 9), .ref (o 10), .ref (o 11), .ref (o 12), .ref (o 13), .ref (o 14)])), ((o 9), .inr (0, [.ref (o 3), .ref (o 6), .int (u.1 5), .int (u.1 6)])), ((o 6), .inr (1, [.ref (o 3), .ref (o 4), .int (u.1 0), .int (u.1 1), .int (u.1 2), .int (u.1 3), .int (u.1 4), .ref (o 73)])), ((o 73), .inl (k 0, 17, .inl (u.2.2.1 0))), ((o 4), .inr (3, [.ref (o 69), .ref (o 70), .ref (o 71)])), ((o 69), .inl (k 0, 17, .inl f69)), ((o 70), .inl (k 0, 17, .inl f70)), ((o 71), .inl (k 0, 17, .inl f71)), ((o 3), .inr (2, [.int glines, .int (nI ghours), .int glaw, .int godds, .int (nI grows), .int (nI gheads), .int (nI gsayings), .int (nI gslugs), .int (nI gacts), .ref (o 26), .ref (o 27), .ref (o 28), .ref (o 29), .ref (o 30), .ref (o 31), .ref (o 32), .ref (o 33), .ref (o 34), .ref (o 35)])), ((o 26), .inl (k 0, 12, .inl f26)), ((o 30), .inl (k 0, 12, .inl f30)), ((o 31), .inl (k 0, 12, .inl f31))])) := by
  refine MU.of (by decide) (Nat.le_of_ble_eq_true rfl) ?_
  intro p e s m below meth c ls A args Q S hr hlk hnm hQ hK hP hD hZ hA hS hl
  have hx := S.1
  have hb := S.2.1
  have hl : lv_has ls 1 [(0, .ref (o 0))] := hl
  refine lv_aload_n hx hb dX10_worth_0 rfl (lv_at hl 0 rfl) ?_
  refine x_get S hK hP 0 rfl cfX10 2 lkX10_23 (by decide) rfl dX10_worth_1 ?_
  refine x_get S hK hP 8 rfl cfX2 5 lkX10_296 (by decide) rfl dX10_worth_4 ?_
  refine lv_if_ne (tgt := 14) hx hb dX10_worth_7 (by decide) (fun c_1 => ?_) (fun c_1 => ?_)
  · skip
    have c_1 : ¬ gheads = 0 := fun q => c_1 ((ni_eq rfl (by decide) (by omega) (by omega)).mpr q)
    refine lv_aload_n hx hb dX10_worth_14 rfl (lv_at hl 0 rfl) ?_
    refine x_get S hK hP 0 rfl cfX10 8 lkX10_66 (by decide) rfl dX10_worth_15 ?_
    refine x_muVv (wr := [((o 0), .inr (10, [.ref (o 1), .ref (o 2), .ref (o 3), .ref (o 4), .ref (o 5), .ref (o 6), .ref (o 7), .ref (o 8), .ref (o 9), .ref (o 10), .ref (o 11), .ref (o 12), .ref (o 13), .ref (o 14)]))]) (As := []) S hK hP hD hZ hS hA hl mwX0_seekOpener lkX10_325 (ctX0_seekOpener l D k z o kopener kworth tlawNow tharder ttold treply twet f73 f69 f70 f71 glines ghours glaw godds grows gheads gsayings gslugs gacts f26 f30 f31 (by omega) (by omega) (by omega) (by omega) (by omega) (by omega)) [1, 2, 3, 4, 5, 6, 7, 8, 9, 10, 11] [0] rfl rfl (by decide) (by decide) (by decide) rfl rfl rfl rfl rfl ⟨Nat.le_of_ble_eq_true rfl, Nat.le_of_ble_eq_true rfl, Nat.le_of_ble_eq_true rfl⟩ dX10_worth_18 ⟨Nat.le_of_ble_eq_true rfl, Nat.le_of_ble_eq_true rfl⟩ (fun u_3 H locs hr_2 hP hD hS => ?_)
    have hP : va_P D vwCl [((o 0), .inr (10, [.ref (o 1), .ref (o 2), .ref (o 3), .ref (o 4), .ref (o 5), .ref (o 6), .ref (o 7), .ref (o 8), .ref (o 9), .ref (o 10), .ref (o 11), .ref (o 12), .ref (o 13), .ref (o 14)])), ((o 9), .inr (0, [.ref (o 3), .ref (o 6), .int (u_3.1 5), .int (u_3.1 6)])), ((o 6), .inr (1, [.ref (o 3), .ref (o 4), .int (u_3.1 0), .int (u_3.1 1), .int (u_3.1 2), .int (u_3.1 3), .int (u_3.1 4), .ref (o 73)])), ((o 73), .inl (k 0, 17, .inl (u_3.2.2.1 0))), ((o 4), .inr (3, [.ref (o 69), .ref (o 70), .ref (o 71)])), ((o 69), .inl (k 0, 17, .inl f69)), ((o 70), .inl (k 0, 17, .inl f70)), ((o 71), .inl (k 0, 17, .inl f71)), ((o 3), .inr (2, [.int glines, .int (nI ghours), .int glaw, .int godds, .int (nI grows), .int (nI gheads), .int (nI gsayings), .int (nI gslugs), .int (nI gacts), .ref (o 26), .ref (o 27), .ref (o 28), .ref (o 29), .ref (o 30), .ref (o 31), .ref (o 32), .ref (o 33), .ref (o 34), .ref (o 35)])), ((o 26), .inl (k 0, 12, .inl f26)), ((o 30), .inl (k 0, 12, .inl f30)), ((o 31), .inl (k 0, 12, .inl f31))] H := hP.sub [0, 1, 2, 3, 4, 5, 6, 7, 8, 9, 10, 11] rfl
    have hD : va_D A [((o 0), .inr (10, [.ref (o 1), .ref (o 2), .ref (o 3), .ref (o 4), .ref (o 5), .ref (o 6), .ref (o 7), .ref (o 8), .ref (o 9), .ref (o 10), .ref (o 11), .ref (o 12), .ref (o 13), .ref (o 14)])), ((o 9), .inr (0, [.ref (o 3), .ref (o 6), .int (u_3.1 5), .int (u_3.1 6)])), ((o 6), .inr (1, [.ref (o 3), .ref (o 4), .int (u_3.1 0), .int (u_3.1 1), .int (u_3.1 2), .int (u_3.1 3), .int (u_3.1 4), .ref (o 73)])), ((o 73), .inl (k 0, 17, .inl (u_3.2.2.1 0))), ((o 4), .inr (3, [.ref (o 69), .ref (o 70), .ref (o 71)])), ((o 69), .inl (k 0, 17, .inl f69)), ((o 70), .inl (k 0, 17, .inl f70)), ((o 71), .inl (k 0, 17, .inl f71)), ((o 3), .inr (2, [.int glines, .int (nI ghours), .int glaw, .int godds, .int (nI grows), .int (nI gheads), .int (nI gsayings), .int (nI gslugs), .int (nI gacts), .ref (o 26), .ref (o 27), .ref (o 28), .ref (o 29), .ref (o 30), .ref (o 31), .ref (o 32), .ref (o 33), .ref (o 34), .ref (o 35)])), ((o 26), .inl (k 0, 12, .inl f26)), ((o 30), .inl (k 0, 12, .inl f30)), ((o 31), .inl (k 0, 12, .inl f31))] := hD.sub [0, 1, 2, 3, 4, 5, 6, 7, 8, 9, 10, 11] (by decide) rfl
    refine lv_aload_n hx hb dX10_worth_21 rfl (lv_at hl 0 rfl) ?_
    refine x_get S hK hP 0 rfl cfX10 8 lkX10_66 (by decide) rfl dX10_worth_22 ?_
    refine x_get S hK hP 1 rfl cfX0 3 lkX10_328 (by decide) rfl dX10_worth_25 ?_
    exact x_reti S hr hlk hQ hS ((fun i => ([(u_3.1 0), (u_3.1 1), (u_3.1 2), (u_3.1 3), (u_3.1 4), (u_3.1 5), (u_3.1 6)] : List (Int32)).getD i 0), (fun i => ([] : List (Nat)).getD i 0), (fun i => ([(u_3.2.2.1 0)] : List (Nat → Int32)).getD i (fun _ => 0)), (fun i => ([] : List (Nat → Int64)).getD i (fun _ => 0)), (fun i => ([] : List (Int64)).getD i 0)) trivial (x_B hP hD) dX10_worth_28
  · skip
    have c_1 : gheads = 0 := (ni_eq rfl (by decide) (by omega) (by omega)).mp c_1
    refine lv_sipush (v := (-1000)) hx hb dX10_worth_10 (by decide) ?_
    exact x_reti S hr hlk hQ hS ((fun i => ([tlawNow, tharder, ttold, treply, twet, kopener, kworth] : List (Int32)).getD i 0), (fun i => ([] : List (Nat)).getD i 0), (fun i => ([f73] : List (Nat → Int32)).getD i (fun _ => 0)), (fun i => ([] : List (Nat → Int64)).getD i (fun _ => 0)), (fun i => ([] : List (Int64)).getD i 0)) trivial (x_B hP hD) dX10_worth_13

set_option maxHeartbeats 4000000 in
set_option maxRecDepth 100000 in
theorem ctX10_opens (l : Launch) (D : va_G) (k : Nat → ClassId) (z : Nat → Nat) (o : Nat → Nat) (kopener : Int32) (kworth : Int32) (tlawNow : Int32) (tharder : Int32) (ttold : Int32) (treply : Int32) (twet : Int32) (f73 : Nat → Int32) (f69 : Nat → Int32) (f70 : Nat → Int32) (f71 : Nat → Int32) (glines : Int32) (ghours : Nat) (glaw : Int32) (godds : Int32) (grows : Nat) (gheads : Nat) (gsayings : Nat) (gslugs : Nat) (gacts : Nat) (f26 : Nat → Int32) (f30 : Nat → Int32) (f31 : Nat → Int32) (hghours : ghours ≤ 16) (hgrows : grows ≤ 4) (hgheads : gheads ≤ 12) (hgsayings : gsayings ≤ 8) (hgslugs : gslugs ≤ 4) (hgacts : gacts ≤ 30) : MU l yX10_opens cX10_opens 1 (some .int) 6 D k z [.ref (o 0)] [((o 0), .inr (10, [.ref (o 1), .ref (o 2), .ref (o 3), .ref (o 4), .ref (o 5), .ref (o 6), .ref (o 7), .ref (o 8), .ref (o 9), .ref (o 10), .ref (o 11), .ref (o 12), .ref (o 13), .ref (o 14)])), ((o 9), .inr (0, [.ref (o 3), .ref (o 6), .int kopener, .int kworth])), ((o 6), .inr (1, [.ref (o 3), .ref (o 4), .int tlawNow, .int tharder, .int ttold, .int treply, .int twet, .ref (o 73)])), ((o 73), .inl (k 0, 17, .inl f73)), ((o 4), .inr (3, [.ref (o 69), .ref (o 70), .ref (o 71)])), ((o 69), .inl (k 0, 17, .inl f69)), ((o 70), .inl (k 0, 17, .inl f70)), ((o 71), .inl (k 0, 17, .inl f71)), ((o 3), .inr (2, [.int glines, .int (nI ghours), .int glaw, .int godds, .int (nI grows), .int (nI gheads), .int (nI gsayings), .int (nI gslugs), .int (nI gacts), .ref (o 26), .ref (o 27), .ref (o 28), .ref (o 29), .ref (o 30), .ref (o 31), .ref (o 32), .ref (o 33), .ref (o 34), .ref (o 35)])), ((o 26), .inl (k 0, 12, .inl f26)), ((o 30), .inl (k 0, 12, .inl f30)), ((o 31), .inl (k 0, 12, .inl f31))] 0 0 (Ui D (fun (r : Int32) (u : (Nat → Int32) × (Nat → Nat) × (Nat → Nat → Int32) × (Nat → Nat → Int64) × (Nat → Int64)) => True) (fun u : (Nat → Int32) × (Nat → Nat) × (Nat → Nat → Int32) × (Nat → Nat → Int64) × (Nat → Int64) => [((o 0), .inr (10, [.ref (o 1), .ref (o 2), .ref (o 3), .ref (o 4), .ref (o 5), .ref (o 6), .ref (o 7), .ref (o 8), .ref (o 9), .ref (o 10), .ref (o 11), .ref (o 12), .ref (o 13), .ref (o 14)])), ((o 9), .inr (0, [.ref (o 3), .ref (o 6), .int (u.1 5), .int (u.1 6)])), ((o 6), .inr (1, [.ref (o 3), .ref (o 4), .int (u.1 0), .int (u.1 1), .int (u.1 2), .int (u.1 3), .int (u.1 4), .ref (o 73)])), ((o 73), .inl (k 0, 17, .inl (u.2.2.1 0))), ((o 4), .inr (3, [.ref (o 69), .ref (o 70), .ref (o 71)])), ((o 69), .inl (k 0, 17, .inl f69)), ((o 70), .inl (k 0, 17, .inl f70)), ((o 71), .inl (k 0, 17, .inl f71)), ((o 3), .inr (2, [.int glines, .int (nI ghours), .int glaw, .int godds, .int (nI grows), .int (nI gheads), .int (nI gsayings), .int (nI gslugs), .int (nI gacts), .ref (o 26), .ref (o 27), .ref (o 28), .ref (o 29), .ref (o 30), .ref (o 31), .ref (o 32), .ref (o 33), .ref (o 34), .ref (o 35)])), ((o 26), .inl (k 0, 12, .inl f26)), ((o 30), .inl (k 0, 12, .inl f30)), ((o 31), .inl (k 0, 12, .inl f31))])) := by
  refine MU.of (by decide) (Nat.le_of_ble_eq_true rfl) ?_
  intro p e s m below meth c ls A args Q S hr hlk hnm hQ hK hP hD hZ hA hS hl
  have hx := S.1
  have hb := S.2.1
  have hl : lv_has ls 1 [(0, .ref (o 0))] := hl
  refine lv_aload_n hx hb dX10_opens_0 rfl (lv_at hl 0 rfl) ?_
  refine x_roVi (As := []) S hK hP hD hZ (fun _ h => h) hA hS hA hl mwX10_isGarden lkX10_196 (ctX10_isGarden l D k z o glines ghours glaw godds grows gheads gsayings gslugs gacts (by omega) (by omega) (by omega) (by omega) (by omega) (by omega)) [0, 8] rfl (by decide) rfl rfl rfl rfl rfl ⟨Nat.le_of_ble_eq_true rfl, Nat.le_of_ble_eq_true rfl, Nat.le_of_ble_eq_true rfl⟩ dX10_opens_1 ⟨Nat.le_of_ble_eq_true rfl, Nat.le_of_ble_eq_true rfl⟩ (fun r_1 H locs hr_1 hP hS => ?_)
  refine lv_if_ne (tgt := 10) hx hb dX10_opens_4 (by decide) (fun c_3 => ?_) (fun c_3 => ?_)
  · skip
    refine lv_aload_n hx hb dX10_opens_10 rfl (lv_at hl 0 rfl) ?_
    refine x_get S hK hP 0 rfl cfX10 8 lkX10_66 (by decide) rfl dX10_opens_11 ?_
    refine x_muVv (wr := [((o 0), .inr (10, [.ref (o 1), .ref (o 2), .ref (o 3), .ref (o 4), .ref (o 5), .ref (o 6), .ref (o 7), .ref (o 8), .ref (o 9), .ref (o 10), .ref (o 11), .ref (o 12), .ref (o 13), .ref (o 14)]))]) (As := []) S hK hP hD hZ hS hA hl mwX0_seekOpener lkX10_325 (ctX0_seekOpener l D k z o kopener kworth tlawNow tharder ttold treply twet f73 f69 f70 f71 glines ghours glaw godds grows gheads gsayings gslugs gacts f26 f30 f31 (by omega) (by omega) (by omega) (by omega) (by omega) (by omega)) [1, 2, 3, 4, 5, 6, 7, 8, 9, 10, 11] [0] rfl rfl (by decide) (by decide) (by decide) rfl rfl rfl rfl rfl ⟨Nat.le_of_ble_eq_true rfl, Nat.le_of_ble_eq_true rfl, Nat.le_of_ble_eq_true rfl⟩ dX10_opens_14 ⟨Nat.le_of_ble_eq_true rfl, Nat.le_of_ble_eq_true rfl⟩ (fun u_5 H locs hr_4 hP hD hS => ?_)
    have hP : va_P D vwCl [((o 0), .inr (10, [.ref (o 1), .ref (o 2), .ref (o 3), .ref (o 4), .ref (o 5), .ref (o 6), .ref (o 7), .ref (o 8), .ref (o 9), .ref (o 10), .ref (o 11), .ref (o 12), .ref (o 13), .ref (o 14)])), ((o 9), .inr (0, [.ref (o 3), .ref (o 6), .int (u_5.1 5), .int (u_5.1 6)])), ((o 6), .inr (1, [.ref (o 3), .ref (o 4), .int (u_5.1 0), .int (u_5.1 1), .int (u_5.1 2), .int (u_5.1 3), .int (u_5.1 4), .ref (o 73)])), ((o 73), .inl (k 0, 17, .inl (u_5.2.2.1 0))), ((o 4), .inr (3, [.ref (o 69), .ref (o 70), .ref (o 71)])), ((o 69), .inl (k 0, 17, .inl f69)), ((o 70), .inl (k 0, 17, .inl f70)), ((o 71), .inl (k 0, 17, .inl f71)), ((o 3), .inr (2, [.int glines, .int (nI ghours), .int glaw, .int godds, .int (nI grows), .int (nI gheads), .int (nI gsayings), .int (nI gslugs), .int (nI gacts), .ref (o 26), .ref (o 27), .ref (o 28), .ref (o 29), .ref (o 30), .ref (o 31), .ref (o 32), .ref (o 33), .ref (o 34), .ref (o 35)])), ((o 26), .inl (k 0, 12, .inl f26)), ((o 30), .inl (k 0, 12, .inl f30)), ((o 31), .inl (k 0, 12, .inl f31))] H := hP.sub [0, 1, 2, 3, 4, 5, 6, 7, 8, 9, 10, 11] rfl
    have hD : va_D A [((o 0), .inr (10, [.ref (o 1), .ref (o 2), .ref (o 3), .ref (o 4), .ref (o 5), .ref (o 6), .ref (o 7), .ref (o 8), .ref (o 9), .ref (o 10), .ref (o 11), .ref (o 12), .ref (o 13), .ref (o 14)])), ((o 9), .inr (0, [.ref (o 3), .ref (o 6), .int (u_5.1 5), .int (u_5.1 6)])), ((o 6), .inr (1, [.ref (o 3), .ref (o 4), .int (u_5.1 0), .int (u_5.1 1), .int (u_5.1 2), .int (u_5.1 3), .int (u_5.1 4), .ref (o 73)])), ((o 73), .inl (k 0, 17, .inl (u_5.2.2.1 0))), ((o 4), .inr (3, [.ref (o 69), .ref (o 70), .ref (o 71)])), ((o 69), .inl (k 0, 17, .inl f69)), ((o 70), .inl (k 0, 17, .inl f70)), ((o 71), .inl (k 0, 17, .inl f71)), ((o 3), .inr (2, [.int glines, .int (nI ghours), .int glaw, .int godds, .int (nI grows), .int (nI gheads), .int (nI gsayings), .int (nI gslugs), .int (nI gacts), .ref (o 26), .ref (o 27), .ref (o 28), .ref (o 29), .ref (o 30), .ref (o 31), .ref (o 32), .ref (o 33), .ref (o 34), .ref (o 35)])), ((o 26), .inl (k 0, 12, .inl f26)), ((o 30), .inl (k 0, 12, .inl f30)), ((o 31), .inl (k 0, 12, .inl f31))] := hD.sub [0, 1, 2, 3, 4, 5, 6, 7, 8, 9, 10, 11] (by decide) rfl
    refine lv_aload_n hx hb dX10_opens_17 rfl (lv_at hl 0 rfl) ?_
    refine x_get S hK hP 0 rfl cfX10 8 lkX10_66 (by decide) rfl dX10_opens_18 ?_
    refine x_get S hK hP 1 rfl cfX0 2 lkX10_331 (by decide) rfl dX10_opens_21 ?_
    exact x_reti S hr hlk hQ hS ((fun i => ([(u_5.1 0), (u_5.1 1), (u_5.1 2), (u_5.1 3), (u_5.1 4), (u_5.1 5), (u_5.1 6)] : List (Int32)).getD i 0), (fun i => ([] : List (Nat)).getD i 0), (fun i => ([(u_5.2.2.1 0)] : List (Nat → Int32)).getD i (fun _ => 0)), (fun i => ([] : List (Nat → Int64)).getD i (fun _ => 0)), (fun i => ([] : List (Int64)).getD i 0)) trivial (x_B hP hD) dX10_opens_24
  · skip
    refine lv_bipush (v := (-2)) hx hb dX10_opens_7 (by decide) ?_
    exact x_reti S hr hlk hQ hS ((fun i => ([tlawNow, tharder, ttold, treply, twet, kopener, kworth] : List (Int32)).getD i 0), (fun i => ([] : List (Nat)).getD i 0), (fun i => ([f73] : List (Nat → Int32)).getD i (fun _ => 0)), (fun i => ([] : List (Nat → Int64)).getD i (fun _ => 0)), (fun i => ([] : List (Int64)).getD i 0)) trivial (x_B hP hD) dX10_opens_9

set_option maxHeartbeats 4000000 in
set_option maxRecDepth 100000 in
theorem ctX10_replies (l : Launch) (D : va_G) (k : Nat → ClassId) (z : Nat → Nat) (o : Nat → Nat) (kopener : Int32) (kworth : Int32) (tlawNow : Int32) (tharder : Int32) (ttold : Int32) (treply : Int32) (twet : Int32) (f73 : Nat → Int32) (f69 : Nat → Int32) (f70 : Nat → Int32) (f71 : Nat → Int32) (glines : Int32) (ghours : Nat) (glaw : Int32) (godds : Int32) (grows : Nat) (gheads : Nat) (gsayings : Nat) (gslugs : Nat) (gacts : Nat) (f26 : Nat → Int32) (f30 : Nat → Int32) (f31 : Nat → Int32) (p0 : Int32) (hghours : ghours ≤ 16) (hgrows : grows ≤ 4) (hgheads : gheads ≤ 12) (hgsayings : gsayings ≤ 8) (hgslugs : gslugs ≤ 4) (hgacts : gacts ≤ 30) : MU l yX10_replies cX10_replies 2 (some .int) 6 D k z [.ref (o 0), .int p0] [((o 0), .inr (10, [.ref (o 1), .ref (o 2), .ref (o 3), .ref (o 4), .ref (o 5), .ref (o 6), .ref (o 7), .ref (o 8), .ref (o 9), .ref (o 10), .ref (o 11), .ref (o 12), .ref (o 13), .ref (o 14)])), ((o 9), .inr (0, [.ref (o 3), .ref (o 6), .int kopener, .int kworth])), ((o 6), .inr (1, [.ref (o 3), .ref (o 4), .int tlawNow, .int tharder, .int ttold, .int treply, .int twet, .ref (o 73)])), ((o 73), .inl (k 0, 17, .inl f73)), ((o 4), .inr (3, [.ref (o 69), .ref (o 70), .ref (o 71)])), ((o 69), .inl (k 0, 17, .inl f69)), ((o 70), .inl (k 0, 17, .inl f70)), ((o 71), .inl (k 0, 17, .inl f71)), ((o 3), .inr (2, [.int glines, .int (nI ghours), .int glaw, .int godds, .int (nI grows), .int (nI gheads), .int (nI gsayings), .int (nI gslugs), .int (nI gacts), .ref (o 26), .ref (o 27), .ref (o 28), .ref (o 29), .ref (o 30), .ref (o 31), .ref (o 32), .ref (o 33), .ref (o 34), .ref (o 35)])), ((o 26), .inl (k 0, 12, .inl f26)), ((o 30), .inl (k 0, 12, .inl f30)), ((o 31), .inl (k 0, 12, .inl f31))] 0 0 (Ui D (fun (r : Int32) (u : (Nat → Int32) × (Nat → Nat) × (Nat → Nat → Int32) × (Nat → Nat → Int64) × (Nat → Int64)) => True) (fun u : (Nat → Int32) × (Nat → Nat) × (Nat → Nat → Int32) × (Nat → Nat → Int64) × (Nat → Int64) => [((o 0), .inr (10, [.ref (o 1), .ref (o 2), .ref (o 3), .ref (o 4), .ref (o 5), .ref (o 6), .ref (o 7), .ref (o 8), .ref (o 9), .ref (o 10), .ref (o 11), .ref (o 12), .ref (o 13), .ref (o 14)])), ((o 9), .inr (0, [.ref (o 3), .ref (o 6), .int kopener, .int kworth])), ((o 6), .inr (1, [.ref (o 3), .ref (o 4), .int (u.1 0), .int (u.1 1), .int (u.1 2), .int (u.1 3), .int (u.1 4), .ref (o 73)])), ((o 73), .inl (k 0, 17, .inl (u.2.2.1 0))), ((o 4), .inr (3, [.ref (o 69), .ref (o 70), .ref (o 71)])), ((o 69), .inl (k 0, 17, .inl f69)), ((o 70), .inl (k 0, 17, .inl f70)), ((o 71), .inl (k 0, 17, .inl f71)), ((o 3), .inr (2, [.int glines, .int (nI ghours), .int glaw, .int godds, .int (nI grows), .int (nI gheads), .int (nI gsayings), .int (nI gslugs), .int (nI gacts), .ref (o 26), .ref (o 27), .ref (o 28), .ref (o 29), .ref (o 30), .ref (o 31), .ref (o 32), .ref (o 33), .ref (o 34), .ref (o 35)])), ((o 26), .inl (k 0, 12, .inl f26)), ((o 30), .inl (k 0, 12, .inl f30)), ((o 31), .inl (k 0, 12, .inl f31))])) := by
  refine MU.of (by decide) (Nat.le_of_ble_eq_true rfl) ?_
  intro p e s m below meth c ls A args Q S hr hlk hnm hQ hK hP hD hZ hA hS hl
  have hx := S.1
  have hb := S.2.1
  have hl : lv_has ls 2 [(0, .ref (o 0)), (1, .int p0)] := hl
  refine lv_aload_n hx hb dX10_replies_0 rfl (lv_at hl 0 rfl) ?_
  refine lv_iload_n hx hb dX10_replies_1 rfl (lv_at hl 1 rfl) ?_
  refine x_roVi (As := [.int p0]) S hK hP hD hZ (fun _ h => h) hA hS hA hl mwX10_isHead lkX10_135 (ctX10_isHead l D k z o glines ghours glaw godds grows gheads gsayings gslugs gacts p0 (by omega) (by omega) (by omega) (by omega) (by omega) (by omega)) [0, 8] rfl (by decide) rfl rfl rfl rfl rfl ⟨Nat.le_of_ble_eq_true rfl, Nat.le_of_ble_eq_true rfl, Nat.le_of_ble_eq_true rfl⟩ dX10_replies_2 ⟨Nat.le_of_ble_eq_true rfl, Nat.le_of_ble_eq_true rfl⟩ (fun r_1 H locs hr_1 hP hS => ?_)
  have hp_3 := hr_1
  refine lv_if_eq (tgt := 19) hx hb dX10_replies_5 (by decide) (fun c_4 => ?_) (fun c_4 => ?_)
  · skip
    refine lv_bipush (v := (-2)) hx hb dX10_replies_19 (by decide) ?_
    exact x_reti S hr hlk hQ hS ((fun i => ([tlawNow, tharder, ttold, treply, twet] : List (Int32)).getD i 0), (fun i => ([] : List (Nat)).getD i 0), (fun i => ([f73] : List (Nat → Int32)).getD i (fun _ => 0)), (fun i => ([] : List (Nat → Int64)).getD i (fun _ => 0)), (fun i => ([] : List (Int64)).getD i 0)) trivial (x_B hP hD) dX10_replies_21
  · skip
    obtain ⟨n_5, rfl, hn_5⟩ := hp_3.resolve_left c_4
    refine lv_aload_n hx hb dX10_replies_8 rfl (lv_at hl 0 rfl) ?_
    refine x_get S hK hP 0 rfl cfX10 8 lkX10_66 (by decide) rfl dX10_replies_9 ?_
    refine lv_iload_n hx hb dX10_replies_12 rfl (lv_at hl 1 rfl) ?_
    refine x_muVi (wr := [((o 0), .inr (10, [.ref (o 1), .ref (o 2), .ref (o 3), .ref (o 4), .ref (o 5), .ref (o 6), .ref (o 7), .ref (o 8), .ref (o 9), .ref (o 10), .ref (o 11), .ref (o 12), .ref (o 13), .ref (o 14)]))]) (As := [.int (nI n_5)]) S hK hP hD hZ hS hA hl mwX0_bestReply lkX10_334 (ctX0_bestReply l D k z o kopener kworth tlawNow tharder ttold treply twet f73 f69 f70 f71 glines ghours glaw godds grows gheads gsayings gslugs gacts f26 f30 f31 (nI n_5) (by omega) (by omega) (by omega) (by omega) (by omega) (by omega)) [1, 2, 3, 4, 5, 6, 7, 8, 9, 10, 11] [0] rfl rfl (by decide) (by decide) (by decide) rfl rfl rfl rfl rfl ⟨Nat.le_of_ble_eq_true rfl, Nat.le_of_ble_eq_true rfl, Nat.le_of_ble_eq_true rfl⟩ dX10_replies_13 ⟨Nat.le_of_ble_eq_true rfl, Nat.le_of_ble_eq_true rfl⟩ (fun r_6 u_7 H locs hr_6 hP hD hS => ?_)
    have hP : va_P D vwCl [((o 0), .inr (10, [.ref (o 1), .ref (o 2), .ref (o 3), .ref (o 4), .ref (o 5), .ref (o 6), .ref (o 7), .ref (o 8), .ref (o 9), .ref (o 10), .ref (o 11), .ref (o 12), .ref (o 13), .ref (o 14)])), ((o 9), .inr (0, [.ref (o 3), .ref (o 6), .int kopener, .int kworth])), ((o 6), .inr (1, [.ref (o 3), .ref (o 4), .int (u_7.1 0), .int (u_7.1 1), .int (u_7.1 2), .int (u_7.1 3), .int (u_7.1 4), .ref (o 73)])), ((o 73), .inl (k 0, 17, .inl (u_7.2.2.1 0))), ((o 4), .inr (3, [.ref (o 69), .ref (o 70), .ref (o 71)])), ((o 69), .inl (k 0, 17, .inl f69)), ((o 70), .inl (k 0, 17, .inl f70)), ((o 71), .inl (k 0, 17, .inl f71)), ((o 3), .inr (2, [.int glines, .int (nI ghours), .int glaw, .int godds, .int (nI grows), .int (nI gheads), .int (nI gsayings), .int (nI gslugs), .int (nI gacts), .ref (o 26), .ref (o 27), .ref (o 28), .ref (o 29), .ref (o 30), .ref (o 31), .ref (o 32), .ref (o 33), .ref (o 34), .ref (o 35)])), ((o 26), .inl (k 0, 12, .inl f26)), ((o 30), .inl (k 0, 12, .inl f30)), ((o 31), .inl (k 0, 12, .inl f31))] H := hP.sub [0, 1, 2, 3, 4, 5, 6, 7, 8, 9, 10, 11] rfl
    have hD : va_D A [((o 0), .inr (10, [.ref (o 1), .ref (o 2), .ref (o 3), .ref (o 4), .ref (o 5), .ref (o 6), .ref (o 7), .ref (o 8), .ref (o 9), .ref (o 10), .ref (o 11), .ref (o 12), .ref (o 13), .ref (o 14)])), ((o 9), .inr (0, [.ref (o 3), .ref (o 6), .int kopener, .int kworth])), ((o 6), .inr (1, [.ref (o 3), .ref (o 4), .int (u_7.1 0), .int (u_7.1 1), .int (u_7.1 2), .int (u_7.1 3), .int (u_7.1 4), .ref (o 73)])), ((o 73), .inl (k 0, 17, .inl (u_7.2.2.1 0))), ((o 4), .inr (3, [.ref (o 69), .ref (o 70), .ref (o 71)])), ((o 69), .inl (k 0, 17, .inl f69)), ((o 70), .inl (k 0, 17, .inl f70)), ((o 71), .inl (k 0, 17, .inl f71)), ((o 3), .inr (2, [.int glines, .int (nI ghours), .int glaw, .int godds, .int (nI grows), .int (nI gheads), .int (nI gsayings), .int (nI gslugs), .int (nI gacts), .ref (o 26), .ref (o 27), .ref (o 28), .ref (o 29), .ref (o 30), .ref (o 31), .ref (o 32), .ref (o 33), .ref (o 34), .ref (o 35)])), ((o 26), .inl (k 0, 12, .inl f26)), ((o 30), .inl (k 0, 12, .inl f30)), ((o 31), .inl (k 0, 12, .inl f31))] := hD.sub [0, 1, 2, 3, 4, 5, 6, 7, 8, 9, 10, 11] (by decide) rfl
    refine lv_goto (tgt := 21) hx hb dX10_replies_16 (by decide) ?_
    exact x_reti S hr hlk hQ hS ((fun i => ([(u_7.1 0), (u_7.1 1), (u_7.1 2), (u_7.1 3), (u_7.1 4)] : List (Int32)).getD i 0), (fun i => ([] : List (Nat)).getD i 0), (fun i => ([(u_7.2.2.1 0)] : List (Nat → Int32)).getD i (fun _ => 0)), (fun i => ([] : List (Nat → Int64)).getD i (fun _ => 0)), (fun i => ([] : List (Int64)).getD i 0)) trivial (x_B hP hD) dX10_replies_21

set_option maxHeartbeats 4000000 in
set_option maxRecDepth 100000 in
theorem ctX10_by (l : Launch) (D : va_G) (k : Nat → ClassId) (z : Nat → Nat) (o : Nat → Nat) (kopener : Int32) (kworth : Int32) (tlawNow : Int32) (tharder : Int32) (ttold : Int32) (treply : Int32) (twet : Int32) (f73 : Nat → Int32) (f69 : Nat → Int32) (f70 : Nat → Int32) (f71 : Nat → Int32) (glines : Int32) (ghours : Nat) (glaw : Int32) (godds : Int32) (grows : Nat) (gheads : Nat) (gsayings : Nat) (gslugs : Nat) (gacts : Nat) (f26 : Nat → Int32) (f30 : Nat → Int32) (f31 : Nat → Int32) (p0 : Int32) (hghours : ghours ≤ 16) (hgrows : grows ≤ 4) (hgheads : gheads ≤ 12) (hgsayings : gsayings ≤ 8) (hgslugs : gslugs ≤ 4) (hgacts : gacts ≤ 30) : MU l yX10_by cX10_by 2 (some .int) 4 D k z [.ref (o 0), .int p0] [((o 0), .inr (10, [.ref (o 1), .ref (o 2), .ref (o 3), .ref (o 4), .ref (o 5), .ref (o 6), .ref (o 7), .ref (o 8), .ref (o 9), .ref (o 10), .ref (o 11), .ref (o 12), .ref (o 13), .ref (o 14)])), ((o 9), .inr (0, [.ref (o 3), .ref (o 6), .int kopener, .int kworth])), ((o 6), .inr (1, [.ref (o 3), .ref (o 4), .int tlawNow, .int tharder, .int ttold, .int treply, .int twet, .ref (o 73)])), ((o 73), .inl (k 0, 17, .inl f73)), ((o 4), .inr (3, [.ref (o 69), .ref (o 70), .ref (o 71)])), ((o 69), .inl (k 0, 17, .inl f69)), ((o 70), .inl (k 0, 17, .inl f70)), ((o 71), .inl (k 0, 17, .inl f71)), ((o 3), .inr (2, [.int glines, .int (nI ghours), .int glaw, .int godds, .int (nI grows), .int (nI gheads), .int (nI gsayings), .int (nI gslugs), .int (nI gacts), .ref (o 26), .ref (o 27), .ref (o 28), .ref (o 29), .ref (o 30), .ref (o 31), .ref (o 32), .ref (o 33), .ref (o 34), .ref (o 35)])), ((o 26), .inl (k 0, 12, .inl f26)), ((o 30), .inl (k 0, 12, .inl f30)), ((o 31), .inl (k 0, 12, .inl f31))] 0 0 (Ui D (fun (r : Int32) (u : (Nat → Int32) × (Nat → Nat) × (Nat → Nat → Int32) × (Nat → Nat → Int64) × (Nat → Int64)) => True) (fun u : (Nat → Int32) × (Nat → Nat) × (Nat → Nat → Int32) × (Nat → Nat → Int64) × (Nat → Int64) => [((o 0), .inr (10, [.ref (o 1), .ref (o 2), .ref (o 3), .ref (o 4), .ref (o 5), .ref (o 6), .ref (o 7), .ref (o 8), .ref (o 9), .ref (o 10), .ref (o 11), .ref (o 12), .ref (o 13), .ref (o 14)])), ((o 9), .inr (0, [.ref (o 3), .ref (o 6), .int kopener, .int kworth])), ((o 6), .inr (1, [.ref (o 3), .ref (o 4), .int (u.1 0), .int (u.1 1), .int (u.1 2), .int (u.1 3), .int (u.1 4), .ref (o 73)])), ((o 73), .inl (k 0, 17, .inl (u.2.2.1 0))), ((o 4), .inr (3, [.ref (o 69), .ref (o 70), .ref (o 71)])), ((o 69), .inl (k 0, 17, .inl f69)), ((o 70), .inl (k 0, 17, .inl f70)), ((o 71), .inl (k 0, 17, .inl f71)), ((o 3), .inr (2, [.int glines, .int (nI ghours), .int glaw, .int godds, .int (nI grows), .int (nI gheads), .int (nI gsayings), .int (nI gslugs), .int (nI gacts), .ref (o 26), .ref (o 27), .ref (o 28), .ref (o 29), .ref (o 30), .ref (o 31), .ref (o 32), .ref (o 33), .ref (o 34), .ref (o 35)])), ((o 26), .inl (k 0, 12, .inl f26)), ((o 30), .inl (k 0, 12, .inl f30)), ((o 31), .inl (k 0, 12, .inl f31))])) := by
  refine MU.of (by decide) (Nat.le_of_ble_eq_true rfl) ?_
  intro p e s m below meth c ls A args Q S hr hlk hnm hQ hK hP hD hZ hA hS hl
  have hx := S.1
  have hb := S.2.1
  have hl : lv_has ls 2 [(0, .ref (o 0)), (1, .int p0)] := hl
  refine lv_aload_n hx hb dX10_by_0 rfl (lv_at hl 0 rfl) ?_
  refine x_roVi (As := []) S hK hP hD hZ (fun _ h => h) hA hS hA hl mwX10_isGarden lkX10_196 (ctX10_isGarden l D k z o glines ghours glaw godds grows gheads gsayings gslugs gacts (by omega) (by omega) (by omega) (by omega) (by omega) (by omega)) [0, 8] rfl (by decide) rfl rfl rfl rfl rfl ⟨Nat.le_of_ble_eq_true rfl, Nat.le_of_ble_eq_true rfl, Nat.le_of_ble_eq_true rfl⟩ dX10_by_1 ⟨Nat.le_of_ble_eq_true rfl, Nat.le_of_ble_eq_true rfl⟩ (fun r_1 H locs hr_1 hP hS => ?_)
  refine lv_if_eq (tgt := 16) hx hb dX10_by_4 (by decide) (fun c_3 => ?_) (fun c_3 => ?_)
  · skip
    refine lv_bipush (v := (-2)) hx hb dX10_by_16 (by decide) ?_
    exact x_reti S hr hlk hQ hS ((fun i => ([tlawNow, tharder, ttold, treply, twet] : List (Int32)).getD i 0), (fun i => ([] : List (Nat)).getD i 0), (fun i => ([f73] : List (Nat → Int32)).getD i (fun _ => 0)), (fun i => ([] : List (Nat → Int64)).getD i (fun _ => 0)), (fun i => ([] : List (Int64)).getD i 0)) trivial (x_B hP hD) dX10_by_18
  · skip
    refine lv_iload_n hx hb dX10_by_7 rfl (lv_at hl 1 rfl) ?_
    refine lv_if_lt (tgt := 16) hx hb dX10_by_8 (by decide) (fun c_4 => ?_) (fun c_4 => ?_)
    · skip
      refine lv_bipush (v := (-2)) hx hb dX10_by_16 (by decide) ?_
      exact x_reti S hr hlk hQ hS ((fun i => ([tlawNow, tharder, ttold, treply, twet] : List (Int32)).getD i 0), (fun i => ([] : List (Nat)).getD i 0), (fun i => ([f73] : List (Nat → Int32)).getD i (fun _ => 0)), (fun i => ([] : List (Nat → Int64)).getD i (fun _ => 0)), (fun i => ([] : List (Int64)).getD i 0)) trivial (x_B hP hD) dX10_by_18
    · skip
      refine lv_iload_n hx hb dX10_by_11 rfl (lv_at hl 1 rfl) ?_
      refine lv_iconst (v := 4) hx hb dX10_by_12 (by decide) ?_
      refine lv_icmp_lt (tgt := 19) hx hb dX10_by_13 (by decide) (fun c_5 => ?_) (fun c_5 => ?_)
      · skip
        refine lv_aload_n hx hb dX10_by_19 rfl (lv_at hl 0 rfl) ?_
        refine x_get S hK hP 0 rfl cfX10 5 lkX10_42 (by decide) rfl dX10_by_20 ?_
        refine lv_iload_n hx hb dX10_by_23 rfl (lv_at hl 1 rfl) ?_
        refine x_muVv (wr := [((o 0), .inr (10, [.ref (o 1), .ref (o 2), .ref (o 3), .ref (o 4), .ref (o 5), .ref (o 6), .ref (o 7), .ref (o 8), .ref (o 9), .ref (o 10), .ref (o 11), .ref (o 12), .ref (o 13), .ref (o 14)])), ((o 9), .inr (0, [.ref (o 3), .ref (o 6), .int kopener, .int kworth]))]) (As := [.int p0]) S hK hP hD hZ hS hA hl mwX1_asLaw lkX10_356 (ctX1_asLaw_c l D k z (fun i => ([0, 0, 0, (o 3), (o 4), (o 6), 0, 0, 0, 0, 0, 0, 0, 0, 0, 0, 0, 0, 0, 0, 0, 0, 0, 0, 0, 0, (o 26), (o 27), (o 28), (o 29), (o 30), (o 31), (o 32), (o 33), (o 34), (o 35), 0, 0, 0, 0, 0, 0, 0, 0, 0, 0, 0, 0, 0, 0, 0, 0, 0, 0, 0, 0, 0, 0, 0, 0, 0, 0, 0, 0, 0, 0, 0, 0, 0, (o 69), (o 70), (o 71), (o 73)] : List Nat).getD i 0) tlawNow tharder ttold treply twet f73 f69 f70 f71 glines ghours glaw godds grows gheads gsayings gslugs gacts f26 f30 f31 p0 (by omega) (by omega) (by omega) (by omega) (by omega) (by omega)) [2, 3, 4, 5, 6, 7, 8, 9, 10, 11] [0, 1] rfl rfl (by decide) (by decide) (by decide) rfl rfl rfl rfl rfl ⟨Nat.le_of_ble_eq_true rfl, Nat.le_of_ble_eq_true rfl, Nat.le_of_ble_eq_true rfl⟩ dX10_by_24 ⟨Nat.le_of_ble_eq_true rfl, Nat.le_of_ble_eq_true rfl⟩ (fun u_7 H locs hr_6 hP hD hS => ?_)
        have hP : va_P D vwCl [((o 0), .inr (10, [.ref (o 1), .ref (o 2), .ref (o 3), .ref (o 4), .ref (o 5), .ref (o 6), .ref (o 7), .ref (o 8), .ref (o 9), .ref (o 10), .ref (o 11), .ref (o 12), .ref (o 13), .ref (o 14)])), ((o 9), .inr (0, [.ref (o 3), .ref (o 6), .int kopener, .int kworth])), ((o 6), .inr (1, [.ref (o 3), .ref (o 4), .int (u_7.1 0), .int (u_7.1 1), .int (u_7.1 2), .int (u_7.1 3), .int (u_7.1 4), .ref (o 73)])), ((o 73), .inl (k 0, 17, .inl f73)), ((o 4), .inr (3, [.ref (o 69), .ref (o 70), .ref (o 71)])), ((o 69), .inl (k 0, 17, .inl f69)), ((o 70), .inl (k 0, 17, .inl f70)), ((o 71), .inl (k 0, 17, .inl f71)), ((o 3), .inr (2, [.int glines, .int (nI ghours), .int glaw, .int godds, .int (nI grows), .int (nI gheads), .int (nI gsayings), .int (nI gslugs), .int (nI gacts), .ref (o 26), .ref (o 27), .ref (o 28), .ref (o 29), .ref (o 30), .ref (o 31), .ref (o 32), .ref (o 33), .ref (o 34), .ref (o 35)])), ((o 26), .inl (k 0, 12, .inl f26)), ((o 30), .inl (k 0, 12, .inl f30)), ((o 31), .inl (k 0, 12, .inl f31))] H := hP.sub [0, 1, 2, 3, 4, 5, 6, 7, 8, 9, 10, 11] rfl
        have hD : va_D A [((o 0), .inr (10, [.ref (o 1), .ref (o 2), .ref (o 3), .ref (o 4), .ref (o 5), .ref (o 6), .ref (o 7), .ref (o 8), .ref (o 9), .ref (o 10), .ref (o 11), .ref (o 12), .ref (o 13), .ref (o 14)])), ((o 9), .inr (0, [.ref (o 3), .ref (o 6), .int kopener, .int kworth])), ((o 6), .inr (1, [.ref (o 3), .ref (o 4), .int (u_7.1 0), .int (u_7.1 1), .int (u_7.1 2), .int (u_7.1 3), .int (u_7.1 4), .ref (o 73)])), ((o 73), .inl (k 0, 17, .inl f73)), ((o 4), .inr (3, [.ref (o 69), .ref (o 70), .ref (o 71)])), ((o 69), .inl (k 0, 17, .inl f69)), ((o 70), .inl (k 0, 17, .inl f70)), ((o 71), .inl (k 0, 17, .inl f71)), ((o 3), .inr (2, [.int glines, .int (nI ghours), .int glaw, .int godds, .int (nI grows), .int (nI gheads), .int (nI gsayings), .int (nI gslugs), .int (nI gacts), .ref (o 26), .ref (o 27), .ref (o 28), .ref (o 29), .ref (o 30), .ref (o 31), .ref (o 32), .ref (o 33), .ref (o 34), .ref (o 35)])), ((o 26), .inl (k 0, 12, .inl f26)), ((o 30), .inl (k 0, 12, .inl f30)), ((o 31), .inl (k 0, 12, .inl f31))] := hD.sub [0, 1, 2, 3, 4, 5, 6, 7, 8, 9, 10, 11] (by decide) rfl
        refine lv_aload_n hx hb dX10_by_27 rfl (lv_at hl 0 rfl) ?_
        refine x_get S hK hP 0 rfl cfX10 5 lkX10_42 (by decide) rfl dX10_by_28 ?_
        refine x_muVv (wr := [((o 0), .inr (10, [.ref (o 1), .ref (o 2), .ref (o 3), .ref (o 4), .ref (o 5), .ref (o 6), .ref (o 7), .ref (o 8), .ref (o 9), .ref (o 10), .ref (o 11), .ref (o 12), .ref (o 13), .ref (o 14)])), ((o 9), .inr (0, [.ref (o 3), .ref (o 6), .int kopener, .int kworth]))]) (As := []) S hK hP hD hZ hS hA hl mwX1_run lkX10_359 (ctX1_run_c l D k z (fun i => ([0, 0, 0, (o 3), (o 4), (o 6), 0, 0, 0, 0, 0, 0, 0, 0, 0, 0, 0, 0, 0, 0, 0, 0, 0, 0, 0, 0, (o 26), (o 27), (o 28), (o 29), (o 30), (o 31), (o 32), (o 33), (o 34), (o 35), 0, 0, 0, 0, 0, 0, 0, 0, 0, 0, 0, 0, 0, 0, 0, 0, 0, 0, 0, 0, 0, 0, 0, 0, 0, 0, 0, 0, 0, 0, 0, 0, 0, (o 69), (o 70), (o 71), (o 73)] : List Nat).getD i 0) (u_7.1 0) (u_7.1 1) (u_7.1 2) (u_7.1 3) (u_7.1 4) f73 f69 f70 f71 glines ghours glaw godds grows gheads gsayings gslugs gacts f26 f30 f31 (by omega) (by omega) (by omega) (by omega) (by omega) (by omega)) [2, 3, 4, 5, 6, 7, 8, 9, 10, 11] [0, 1] rfl rfl (by decide) (by decide) (by decide) rfl rfl rfl rfl rfl ⟨Nat.le_of_ble_eq_true rfl, Nat.le_of_ble_eq_true rfl, Nat.le_of_ble_eq_true rfl⟩ dX10_by_31 ⟨Nat.le_of_ble_eq_true rfl, Nat.le_of_ble_eq_true rfl⟩ (fun u_9 H locs hr_8 hP hD hS => ?_)
        have hP : va_P D vwCl [((o 0), .inr (10, [.ref (o 1), .ref (o 2), .ref (o 3), .ref (o 4), .ref (o 5), .ref (o 6), .ref (o 7), .ref (o 8), .ref (o 9), .ref (o 10), .ref (o 11), .ref (o 12), .ref (o 13), .ref (o 14)])), ((o 9), .inr (0, [.ref (o 3), .ref (o 6), .int kopener, .int kworth])), ((o 6), .inr (1, [.ref (o 3), .ref (o 4), .int (u_7.1 0), .int (u_7.1 1), .int (u_7.1 2), .int (u_7.1 3), .int (u_7.1 4), .ref (o 73)])), ((o 73), .inl (k 0, 17, .inl (u_9.2.2.1 0))), ((o 4), .inr (3, [.ref (o 69), .ref (o 70), .ref (o 71)])), ((o 69), .inl (k 0, 17, .inl f69)), ((o 70), .inl (k 0, 17, .inl f70)), ((o 71), .inl (k 0, 17, .inl f71)), ((o 3), .inr (2, [.int glines, .int (nI ghours), .int glaw, .int godds, .int (nI grows), .int (nI gheads), .int (nI gsayings), .int (nI gslugs), .int (nI gacts), .ref (o 26), .ref (o 27), .ref (o 28), .ref (o 29), .ref (o 30), .ref (o 31), .ref (o 32), .ref (o 33), .ref (o 34), .ref (o 35)])), ((o 26), .inl (k 0, 12, .inl f26)), ((o 30), .inl (k 0, 12, .inl f30)), ((o 31), .inl (k 0, 12, .inl f31))] H := hP.sub [0, 1, 2, 3, 4, 5, 6, 7, 8, 9, 10, 11] rfl
        have hD : va_D A [((o 0), .inr (10, [.ref (o 1), .ref (o 2), .ref (o 3), .ref (o 4), .ref (o 5), .ref (o 6), .ref (o 7), .ref (o 8), .ref (o 9), .ref (o 10), .ref (o 11), .ref (o 12), .ref (o 13), .ref (o 14)])), ((o 9), .inr (0, [.ref (o 3), .ref (o 6), .int kopener, .int kworth])), ((o 6), .inr (1, [.ref (o 3), .ref (o 4), .int (u_7.1 0), .int (u_7.1 1), .int (u_7.1 2), .int (u_7.1 3), .int (u_7.1 4), .ref (o 73)])), ((o 73), .inl (k 0, 17, .inl (u_9.2.2.1 0))), ((o 4), .inr (3, [.ref (o 69), .ref (o 70), .ref (o 71)])), ((o 69), .inl (k 0, 17, .inl f69)), ((o 70), .inl (k 0, 17, .inl f70)), ((o 71), .inl (k 0, 17, .inl f71)), ((o 3), .inr (2, [.int glines, .int (nI ghours), .int glaw, .int godds, .int (nI grows), .int (nI gheads), .int (nI gsayings), .int (nI gslugs), .int (nI gacts), .ref (o 26), .ref (o 27), .ref (o 28), .ref (o 29), .ref (o 30), .ref (o 31), .ref (o 32), .ref (o 33), .ref (o 34), .ref (o 35)])), ((o 26), .inl (k 0, 12, .inl f26)), ((o 30), .inl (k 0, 12, .inl f30)), ((o 31), .inl (k 0, 12, .inl f31))] := hD.sub [0, 1, 2, 3, 4, 5, 6, 7, 8, 9, 10, 11] (by decide) rfl
        refine lv_aload_n hx hb dX10_by_34 rfl (lv_at hl 0 rfl) ?_
        refine x_get S hK hP 0 rfl cfX10 5 lkX10_42 (by decide) rfl dX10_by_35 ?_
        refine x_roVi (As := []) S hK hP hD hZ (fun _ h => h) hA hS hA hl mwX1_lastState lkX10_362 (ctX1_lastState_c l D k z (fun i => ([0, 0, 0, (o 3), (o 4), (o 6), 0, 0, 0, 0, 0, 0, 0, 0, 0, 0, 0, 0, 0, 0, 0, 0, 0, 0, 0, 0, (o 26), (o 27), (o 28), (o 29), (o 30), (o 31), (o 32), (o 33), (o 34), (o 35), 0, 0, 0, 0, 0, 0, 0, 0, 0, 0, 0, 0, 0, 0, 0, 0, 0, 0, 0, 0, 0, 0, 0, 0, 0, 0, 0, 0, 0, 0, 0, 0, 0, (o 69), (o 70), (o 71), (o 73)] : List Nat).getD i 0) (u_7.1 0) (u_7.1 1) (u_7.1 2) (u_7.1 3) (u_7.1 4) (u_9.2.2.1 0) f69 f70 f71 glines ghours glaw godds grows gheads gsayings gslugs gacts f26 f30 f31 (by omega) (by omega) (by omega) (by omega) (by omega) (by omega)) [2, 3, 4, 5, 6, 7, 8, 9, 10, 11] rfl (by decide) rfl rfl rfl rfl rfl ⟨Nat.le_of_ble_eq_true rfl, Nat.le_of_ble_eq_true rfl, Nat.le_of_ble_eq_true rfl⟩ dX10_by_38 ⟨Nat.le_of_ble_eq_true rfl, Nat.le_of_ble_eq_true rfl⟩ (fun r_10 H locs hr_10 hP hS => ?_)
        refine lv_iconst (v := 1) hx hb dX10_by_41 (by decide) ?_
        refine x_roSi (As := [.int r_10, .int 1]) S hK hP hD hZ (fun _ h => h) hA hS hA hl mwX10_holdersIn lkX10_365 (ctX10_holdersIn l D k z r_10 1 ) [] rfl (by decide) rfl rfl ⟨Nat.le_of_ble_eq_true rfl, Nat.le_of_ble_eq_true rfl, Nat.le_of_ble_eq_true rfl⟩ dX10_by_42 ⟨Nat.le_of_ble_eq_true rfl, Nat.le_of_ble_eq_true rfl⟩ (fun r_12 H locs hr_12 hP hS => ?_)
        exact x_reti S hr hlk hQ hS ((fun i => ([(u_7.1 0), (u_7.1 1), (u_7.1 2), (u_7.1 3), (u_7.1 4)] : List (Int32)).getD i 0), (fun i => ([] : List (Nat)).getD i 0), (fun i => ([(u_9.2.2.1 0)] : List (Nat → Int32)).getD i (fun _ => 0)), (fun i => ([] : List (Nat → Int64)).getD i (fun _ => 0)), (fun i => ([] : List (Int64)).getD i 0)) trivial (x_B hP hD) dX10_by_45
      · skip
        refine lv_bipush (v := (-2)) hx hb dX10_by_16 (by decide) ?_
        exact x_reti S hr hlk hQ hS ((fun i => ([tlawNow, tharder, ttold, treply, twet] : List (Int32)).getD i 0), (fun i => ([] : List (Nat)).getD i 0), (fun i => ([f73] : List (Nat → Int32)).getD i (fun _ => 0)), (fun i => ([] : List (Nat → Int64)).getD i (fun _ => 0)), (fun i => ([] : List (Int64)).getD i 0)) trivial (x_B hP hD) dX10_by_18

set_option maxHeartbeats 4000000 in
set_option maxRecDepth 100000 in
theorem ctX10_law (l : Launch) (D : va_G) (k : Nat → ClassId) (z : Nat → Nat) (o : Nat → Nat) (kopener : Int32) (kworth : Int32) (tlawNow : Int32) (tharder : Int32) (ttold : Int32) (treply : Int32) (twet : Int32) (f73 : Nat → Int32) (f69 : Nat → Int32) (f70 : Nat → Int32) (f71 : Nat → Int32) (glines : Int32) (ghours : Nat) (glaw : Int32) (godds : Int32) (grows : Nat) (gheads : Nat) (gsayings : Nat) (gslugs : Nat) (gacts : Nat) (f26 : Nat → Int32) (f30 : Nat → Int32) (f31 : Nat → Int32) (hghours : ghours ≤ 16) (hgrows : grows ≤ 4) (hgheads : gheads ≤ 12) (hgsayings : gsayings ≤ 8) (hgslugs : gslugs ≤ 4) (hgacts : gacts ≤ 30) : MU l yX10_law cX10_law 1 (some .int) 5 D k z [.ref (o 0)] [((o 0), .inr (10, [.ref (o 1), .ref (o 2), .ref (o 3), .ref (o 4), .ref (o 5), .ref (o 6), .ref (o 7), .ref (o 8), .ref (o 9), .ref (o 10), .ref (o 11), .ref (o 12), .ref (o 13), .ref (o 14)])), ((o 9), .inr (0, [.ref (o 3), .ref (o 6), .int kopener, .int kworth])), ((o 6), .inr (1, [.ref (o 3), .ref (o 4), .int tlawNow, .int tharder, .int ttold, .int treply, .int twet, .ref (o 73)])), ((o 73), .inl (k 0, 17, .inl f73)), ((o 4), .inr (3, [.ref (o 69), .ref (o 70), .ref (o 71)])), ((o 69), .inl (k 0, 17, .inl f69)), ((o 70), .inl (k 0, 17, .inl f70)), ((o 71), .inl (k 0, 17, .inl f71)), ((o 3), .inr (2, [.int glines, .int (nI ghours), .int glaw, .int godds, .int (nI grows), .int (nI gheads), .int (nI gsayings), .int (nI gslugs), .int (nI gacts), .ref (o 26), .ref (o 27), .ref (o 28), .ref (o 29), .ref (o 30), .ref (o 31), .ref (o 32), .ref (o 33), .ref (o 34), .ref (o 35)])), ((o 26), .inl (k 0, 12, .inl f26)), ((o 30), .inl (k 0, 12, .inl f30)), ((o 31), .inl (k 0, 12, .inl f31))] 0 0 (Ui D (fun (r : Int32) (u : (Nat → Int32) × (Nat → Nat) × (Nat → Nat → Int32) × (Nat → Nat → Int64) × (Nat → Int64)) => True) (fun u : (Nat → Int32) × (Nat → Nat) × (Nat → Nat → Int32) × (Nat → Nat → Int64) × (Nat → Int64) => [((o 0), .inr (10, [.ref (o 1), .ref (o 2), .ref (o 3), .ref (o 4), .ref (o 5), .ref (o 6), .ref (o 7), .ref (o 8), .ref (o 9), .ref (o 10), .ref (o 11), .ref (o 12), .ref (o 13), .ref (o 14)])), ((o 9), .inr (0, [.ref (o 3), .ref (o 6), .int kopener, .int kworth])), ((o 6), .inr (1, [.ref (o 3), .ref (o 4), .int (u.1 0), .int (u.1 1), .int (u.1 2), .int (u.1 3), .int (u.1 4), .ref (o 73)])), ((o 73), .inl (k 0, 17, .inl (u.2.2.1 0))), ((o 4), .inr (3, [.ref (o 69), .ref (o 70), .ref (o 71)])), ((o 69), .inl (k 0, 17, .inl f69)), ((o 70), .inl (k 0, 17, .inl f70)), ((o 71), .inl (k 0, 17, .inl f71)), ((o 3), .inr (2, [.int glines, .int (nI ghours), .int glaw, .int godds, .int (nI grows), .int (nI gheads), .int (nI gsayings), .int (nI gslugs), .int (nI gacts), .ref (o 26), .ref (o 27), .ref (o 28), .ref (o 29), .ref (o 30), .ref (o 31), .ref (o 32), .ref (o 33), .ref (o 34), .ref (o 35)])), ((o 26), .inl (k 0, 12, .inl f26)), ((o 30), .inl (k 0, 12, .inl f30)), ((o 31), .inl (k 0, 12, .inl f31))])) := by
  refine MU.of (by decide) (Nat.le_of_ble_eq_true rfl) ?_
  intro p e s m below meth c ls A args Q S hr hlk hnm hQ hK hP hD hZ hA hS hl
  have hx := S.1
  have hb := S.2.1
  have hl : lv_has ls 1 [(0, .ref (o 0))] := hl
  refine lv_aload_n hx hb dX10_law_0 rfl (lv_at hl 0 rfl) ?_
  refine x_roVi (As := []) S hK hP hD hZ (fun _ h => h) hA hS hA hl mwX10_isGarden lkX10_196 (ctX10_isGarden l D k z o glines ghours glaw godds grows gheads gsayings gslugs gacts (by omega) (by omega) (by omega) (by omega) (by omega) (by omega)) [0, 8] rfl (by decide) rfl rfl rfl rfl rfl ⟨Nat.le_of_ble_eq_true rfl, Nat.le_of_ble_eq_true rfl, Nat.le_of_ble_eq_true rfl⟩ dX10_law_1 ⟨Nat.le_of_ble_eq_true rfl, Nat.le_of_ble_eq_true rfl⟩ (fun r_1 H locs hr_1 hP hS => ?_)
  refine lv_if_eq (tgt := 17) hx hb dX10_law_4 (by decide) (fun c_3 => ?_) (fun c_3 => ?_)
  · skip
    refine lv_bipush (v := (-2)) hx hb dX10_law_17 (by decide) ?_
    exact x_reti S hr hlk hQ hS ((fun i => ([tlawNow, tharder, ttold, treply, twet] : List (Int32)).getD i 0), (fun i => ([] : List (Nat)).getD i 0), (fun i => ([f73] : List (Nat → Int32)).getD i (fun _ => 0)), (fun i => ([] : List (Nat → Int64)).getD i (fun _ => 0)), (fun i => ([] : List (Int64)).getD i 0)) trivial (x_B hP hD) dX10_law_19
  · skip
    refine lv_aload_n hx hb dX10_law_7 rfl (lv_at hl 0 rfl) ?_
    refine x_get S hK hP 0 rfl cfX10 8 lkX10_66 (by decide) rfl dX10_law_8 ?_
    refine x_muVi (wr := [((o 0), .inr (10, [.ref (o 1), .ref (o 2), .ref (o 3), .ref (o 4), .ref (o 5), .ref (o 6), .ref (o 7), .ref (o 8), .ref (o 9), .ref (o 10), .ref (o 11), .ref (o 12), .ref (o 13), .ref (o 14)]))]) (As := []) S hK hP hD hZ hS hA hl mwX0_bestLaw lkX10_368 (ctX0_bestLaw l D k z o kopener kworth tlawNow tharder ttold treply twet f73 f69 f70 f71 glines ghours glaw godds grows gheads gsayings gslugs gacts f26 f30 f31 (by omega) (by omega) (by omega) (by omega) (by omega) (by omega)) [1, 2, 3, 4, 5, 6, 7, 8, 9, 10, 11] [0] rfl rfl (by decide) (by decide) (by decide) rfl rfl rfl rfl rfl ⟨Nat.le_of_ble_eq_true rfl, Nat.le_of_ble_eq_true rfl, Nat.le_of_ble_eq_true rfl⟩ dX10_law_11 ⟨Nat.le_of_ble_eq_true rfl, Nat.le_of_ble_eq_true rfl⟩ (fun r_4 u_5 H locs hr_4 hP hD hS => ?_)
    have hP : va_P D vwCl [((o 0), .inr (10, [.ref (o 1), .ref (o 2), .ref (o 3), .ref (o 4), .ref (o 5), .ref (o 6), .ref (o 7), .ref (o 8), .ref (o 9), .ref (o 10), .ref (o 11), .ref (o 12), .ref (o 13), .ref (o 14)])), ((o 9), .inr (0, [.ref (o 3), .ref (o 6), .int kopener, .int kworth])), ((o 6), .inr (1, [.ref (o 3), .ref (o 4), .int (u_5.1 0), .int (u_5.1 1), .int (u_5.1 2), .int (u_5.1 3), .int (u_5.1 4), .ref (o 73)])), ((o 73), .inl (k 0, 17, .inl (u_5.2.2.1 0))), ((o 4), .inr (3, [.ref (o 69), .ref (o 70), .ref (o 71)])), ((o 69), .inl (k 0, 17, .inl f69)), ((o 70), .inl (k 0, 17, .inl f70)), ((o 71), .inl (k 0, 17, .inl f71)), ((o 3), .inr (2, [.int glines, .int (nI ghours), .int glaw, .int godds, .int (nI grows), .int (nI gheads), .int (nI gsayings), .int (nI gslugs), .int (nI gacts), .ref (o 26), .ref (o 27), .ref (o 28), .ref (o 29), .ref (o 30), .ref (o 31), .ref (o 32), .ref (o 33), .ref (o 34), .ref (o 35)])), ((o 26), .inl (k 0, 12, .inl f26)), ((o 30), .inl (k 0, 12, .inl f30)), ((o 31), .inl (k 0, 12, .inl f31))] H := hP.sub [0, 1, 2, 3, 4, 5, 6, 7, 8, 9, 10, 11] rfl
    have hD : va_D A [((o 0), .inr (10, [.ref (o 1), .ref (o 2), .ref (o 3), .ref (o 4), .ref (o 5), .ref (o 6), .ref (o 7), .ref (o 8), .ref (o 9), .ref (o 10), .ref (o 11), .ref (o 12), .ref (o 13), .ref (o 14)])), ((o 9), .inr (0, [.ref (o 3), .ref (o 6), .int kopener, .int kworth])), ((o 6), .inr (1, [.ref (o 3), .ref (o 4), .int (u_5.1 0), .int (u_5.1 1), .int (u_5.1 2), .int (u_5.1 3), .int (u_5.1 4), .ref (o 73)])), ((o 73), .inl (k 0, 17, .inl (u_5.2.2.1 0))), ((o 4), .inr (3, [.ref (o 69), .ref (o 70), .ref (o 71)])), ((o 69), .inl (k 0, 17, .inl f69)), ((o 70), .inl (k 0, 17, .inl f70)), ((o 71), .inl (k 0, 17, .inl f71)), ((o 3), .inr (2, [.int glines, .int (nI ghours), .int glaw, .int godds, .int (nI grows), .int (nI gheads), .int (nI gsayings), .int (nI gslugs), .int (nI gacts), .ref (o 26), .ref (o 27), .ref (o 28), .ref (o 29), .ref (o 30), .ref (o 31), .ref (o 32), .ref (o 33), .ref (o 34), .ref (o 35)])), ((o 26), .inl (k 0, 12, .inl f26)), ((o 30), .inl (k 0, 12, .inl f30)), ((o 31), .inl (k 0, 12, .inl f31))] := hD.sub [0, 1, 2, 3, 4, 5, 6, 7, 8, 9, 10, 11] (by decide) rfl
    refine lv_goto (tgt := 19) hx hb dX10_law_14 (by decide) ?_
    exact x_reti S hr hlk hQ hS ((fun i => ([(u_5.1 0), (u_5.1 1), (u_5.1 2), (u_5.1 3), (u_5.1 4)] : List (Int32)).getD i 0), (fun i => ([] : List (Nat)).getD i 0), (fun i => ([(u_5.2.2.1 0)] : List (Nat → Int32)).getD i (fun _ => 0)), (fun i => ([] : List (Nat → Int64)).getD i (fun _ => 0)), (fun i => ([] : List (Int64)).getD i 0)) trivial (x_B hP hD) dX10_law_19

set_option maxHeartbeats 4000000 in
set_option maxRecDepth 100000 in
theorem ctX10_rests (l : Launch) (D : va_G) (k : Nat → ClassId) (z : Nat → Nat) (o : Nat → Nat) (kopener : Int32) (kworth : Int32) (tlawNow : Int32) (tharder : Int32) (ttold : Int32) (treply : Int32) (twet : Int32) (f73 : Nat → Int32) (f69 : Nat → Int32) (f70 : Nat → Int32) (f71 : Nat → Int32) (glines : Int32) (ghours : Nat) (glaw : Int32) (godds : Int32) (grows : Nat) (gheads : Nat) (gsayings : Nat) (gslugs : Nat) (gacts : Nat) (f26 : Nat → Int32) (f30 : Nat → Int32) (f31 : Nat → Int32) (p0 : Int32) (p1 : Int32) (hghours : ghours ≤ 16) (hgrows : grows ≤ 4) (hgheads : gheads ≤ 12) (hgsayings : gsayings ≤ 8) (hgslugs : gslugs ≤ 4) (hgacts : gacts ≤ 30) : MU l yX10_rests cX10_rests 3 (some .int) 6 D k z [.ref (o 0), .int p0, .int p1] [((o 0), .inr (10, [.ref (o 1), .ref (o 2), .ref (o 3), .ref (o 4), .ref (o 5), .ref (o 6), .ref (o 7), .ref (o 8), .ref (o 9), .ref (o 10), .ref (o 11), .ref (o 12), .ref (o 13), .ref (o 14)])), ((o 9), .inr (0, [.ref (o 3), .ref (o 6), .int kopener, .int kworth])), ((o 6), .inr (1, [.ref (o 3), .ref (o 4), .int tlawNow, .int tharder, .int ttold, .int treply, .int twet, .ref (o 73)])), ((o 73), .inl (k 0, 17, .inl f73)), ((o 4), .inr (3, [.ref (o 69), .ref (o 70), .ref (o 71)])), ((o 69), .inl (k 0, 17, .inl f69)), ((o 70), .inl (k 0, 17, .inl f70)), ((o 71), .inl (k 0, 17, .inl f71)), ((o 3), .inr (2, [.int glines, .int (nI ghours), .int glaw, .int godds, .int (nI grows), .int (nI gheads), .int (nI gsayings), .int (nI gslugs), .int (nI gacts), .ref (o 26), .ref (o 27), .ref (o 28), .ref (o 29), .ref (o 30), .ref (o 31), .ref (o 32), .ref (o 33), .ref (o 34), .ref (o 35)])), ((o 26), .inl (k 0, 12, .inl f26)), ((o 30), .inl (k 0, 12, .inl f30)), ((o 31), .inl (k 0, 12, .inl f31))] 0 0 (Ui D (fun (r : Int32) (u : (Nat → Int32) × (Nat → Nat) × (Nat → Nat → Int32) × (Nat → Nat → Int64) × (Nat → Int64)) => True) (fun u : (Nat → Int32) × (Nat → Nat) × (Nat → Nat → Int32) × (Nat → Nat → Int64) × (Nat → Int64) => [((o 0), .inr (10, [.ref (o 1), .ref (o 2), .ref (o 3), .ref (o 4), .ref (o 5), .ref (o 6), .ref (o 7), .ref (o 8), .ref (o 9), .ref (o 10), .ref (o 11), .ref (o 12), .ref (o 13), .ref (o 14)])), ((o 9), .inr (0, [.ref (o 3), .ref (o 6), .int kopener, .int kworth])), ((o 6), .inr (1, [.ref (o 3), .ref (o 4), .int (u.1 0), .int (u.1 1), .int (u.1 2), .int (u.1 3), .int (u.1 4), .ref (o 73)])), ((o 73), .inl (k 0, 17, .inl (u.2.2.1 0))), ((o 4), .inr (3, [.ref (o 69), .ref (o 70), .ref (o 71)])), ((o 69), .inl (k 0, 17, .inl f69)), ((o 70), .inl (k 0, 17, .inl f70)), ((o 71), .inl (k 0, 17, .inl f71)), ((o 3), .inr (2, [.int glines, .int (nI ghours), .int glaw, .int godds, .int (nI grows), .int (nI gheads), .int (nI gsayings), .int (nI gslugs), .int (nI gacts), .ref (o 26), .ref (o 27), .ref (o 28), .ref (o 29), .ref (o 30), .ref (o 31), .ref (o 32), .ref (o 33), .ref (o 34), .ref (o 35)])), ((o 26), .inl (k 0, 12, .inl f26)), ((o 30), .inl (k 0, 12, .inl f30)), ((o 31), .inl (k 0, 12, .inl f31))])) := by
  refine MU.of (by decide) (Nat.le_of_ble_eq_true rfl) ?_
  intro p e s m below meth c ls A args Q S hr hlk hnm hQ hK hP hD hZ hA hS hl
  have hx := S.1
  have hb := S.2.1
  have hl : lv_has ls 3 [(0, .ref (o 0)), (1, .int p0), (2, .int p1)] := hl
  refine lv_aload_n hx hb dX10_rests_0 rfl (lv_at hl 0 rfl) ?_
  refine lv_iload_n hx hb dX10_rests_1 rfl (lv_at hl 1 rfl) ?_
  refine lv_iload_n hx hb dX10_rests_2 rfl (lv_at hl 2 rfl) ?_
  refine x_roVi (As := [.int p0, .int p1]) S hK hP hD hZ (fun _ h => h) hA hS hA hl mwX10_isPair lkX10_371 (ctX10_isPair l D k z o glines ghours glaw godds grows gheads gsayings gslugs gacts p0 p1 (by omega) (by omega) (by omega) (by omega) (by omega) (by omega)) [0, 8] rfl (by decide) rfl rfl rfl rfl rfl ⟨Nat.le_of_ble_eq_true rfl, Nat.le_of_ble_eq_true rfl, Nat.le_of_ble_eq_true rfl⟩ dX10_rests_3 ⟨Nat.le_of_ble_eq_true rfl, Nat.le_of_ble_eq_true rfl⟩ (fun r_1 H locs hr_1 hP hS => ?_)
  have hp_3 := hr_1
  refine lv_if_eq (tgt := 21) hx hb dX10_rests_6 (by decide) (fun c_4 => ?_) (fun c_4 => ?_)
  · skip
    refine lv_bipush (v := (-2)) hx hb dX10_rests_21 (by decide) ?_
    exact x_reti S hr hlk hQ hS ((fun i => ([tlawNow, tharder, ttold, treply, twet] : List (Int32)).getD i 0), (fun i => ([] : List (Nat)).getD i 0), (fun i => ([f73] : List (Nat → Int32)).getD i (fun _ => 0)), (fun i => ([] : List (Nat → Int64)).getD i (fun _ => 0)), (fun i => ([] : List (Int64)).getD i 0)) trivial (x_B hP hD) dX10_rests_23
  · skip
    obtain ⟨⟨n_5, rfl, hn_5⟩, ⟨n_6, rfl, hn_6⟩⟩ := hp_3.resolve_left c_4
    refine lv_aload_n hx hb dX10_rests_9 rfl (lv_at hl 0 rfl) ?_
    refine x_get S hK hP 0 rfl cfX10 8 lkX10_66 (by decide) rfl dX10_rests_10 ?_
    refine lv_iload_n hx hb dX10_rests_13 rfl (lv_at hl 1 rfl) ?_
    refine lv_iload_n hx hb dX10_rests_14 rfl (lv_at hl 2 rfl) ?_
    refine x_muVi (wr := [((o 0), .inr (10, [.ref (o 1), .ref (o 2), .ref (o 3), .ref (o 4), .ref (o 5), .ref (o 6), .ref (o 7), .ref (o 8), .ref (o 9), .ref (o 10), .ref (o 11), .ref (o 12), .ref (o 13), .ref (o 14)]))]) (As := [.int (nI n_5), .int (nI n_6)]) S hK hP hD hZ hS hA hl mwX0_restingPairs lkX10_375 (ctX0_restingPairs l D k z o kopener kworth tlawNow tharder ttold treply twet f73 f69 f70 f71 glines ghours glaw godds grows gheads gsayings gslugs gacts f26 f30 f31 (nI n_5) (nI n_6) (by omega) (by omega) (by omega) (by omega) (by omega) (by omega)) [1, 2, 3, 4, 5, 6, 7, 8, 9, 10, 11] [0] rfl rfl (by decide) (by decide) (by decide) rfl rfl rfl rfl rfl ⟨Nat.le_of_ble_eq_true rfl, Nat.le_of_ble_eq_true rfl, Nat.le_of_ble_eq_true rfl⟩ dX10_rests_15 ⟨Nat.le_of_ble_eq_true rfl, Nat.le_of_ble_eq_true rfl⟩ (fun r_7 u_8 H locs hr_7 hP hD hS => ?_)
    have hP : va_P D vwCl [((o 0), .inr (10, [.ref (o 1), .ref (o 2), .ref (o 3), .ref (o 4), .ref (o 5), .ref (o 6), .ref (o 7), .ref (o 8), .ref (o 9), .ref (o 10), .ref (o 11), .ref (o 12), .ref (o 13), .ref (o 14)])), ((o 9), .inr (0, [.ref (o 3), .ref (o 6), .int kopener, .int kworth])), ((o 6), .inr (1, [.ref (o 3), .ref (o 4), .int (u_8.1 0), .int (u_8.1 1), .int (u_8.1 2), .int (u_8.1 3), .int (u_8.1 4), .ref (o 73)])), ((o 73), .inl (k 0, 17, .inl (u_8.2.2.1 0))), ((o 4), .inr (3, [.ref (o 69), .ref (o 70), .ref (o 71)])), ((o 69), .inl (k 0, 17, .inl f69)), ((o 70), .inl (k 0, 17, .inl f70)), ((o 71), .inl (k 0, 17, .inl f71)), ((o 3), .inr (2, [.int glines, .int (nI ghours), .int glaw, .int godds, .int (nI grows), .int (nI gheads), .int (nI gsayings), .int (nI gslugs), .int (nI gacts), .ref (o 26), .ref (o 27), .ref (o 28), .ref (o 29), .ref (o 30), .ref (o 31), .ref (o 32), .ref (o 33), .ref (o 34), .ref (o 35)])), ((o 26), .inl (k 0, 12, .inl f26)), ((o 30), .inl (k 0, 12, .inl f30)), ((o 31), .inl (k 0, 12, .inl f31))] H := hP.sub [0, 1, 2, 3, 4, 5, 6, 7, 8, 9, 10, 11] rfl
    have hD : va_D A [((o 0), .inr (10, [.ref (o 1), .ref (o 2), .ref (o 3), .ref (o 4), .ref (o 5), .ref (o 6), .ref (o 7), .ref (o 8), .ref (o 9), .ref (o 10), .ref (o 11), .ref (o 12), .ref (o 13), .ref (o 14)])), ((o 9), .inr (0, [.ref (o 3), .ref (o 6), .int kopener, .int kworth])), ((o 6), .inr (1, [.ref (o 3), .ref (o 4), .int (u_8.1 0), .int (u_8.1 1), .int (u_8.1 2), .int (u_8.1 3), .int (u_8.1 4), .ref (o 73)])), ((o 73), .inl (k 0, 17, .inl (u_8.2.2.1 0))), ((o 4), .inr (3, [.ref (o 69), .ref (o 70), .ref (o 71)])), ((o 69), .inl (k 0, 17, .inl f69)), ((o 70), .inl (k 0, 17, .inl f70)), ((o 71), .inl (k 0, 17, .inl f71)), ((o 3), .inr (2, [.int glines, .int (nI ghours), .int glaw, .int godds, .int (nI grows), .int (nI gheads), .int (nI gsayings), .int (nI gslugs), .int (nI gacts), .ref (o 26), .ref (o 27), .ref (o 28), .ref (o 29), .ref (o 30), .ref (o 31), .ref (o 32), .ref (o 33), .ref (o 34), .ref (o 35)])), ((o 26), .inl (k 0, 12, .inl f26)), ((o 30), .inl (k 0, 12, .inl f30)), ((o 31), .inl (k 0, 12, .inl f31))] := hD.sub [0, 1, 2, 3, 4, 5, 6, 7, 8, 9, 10, 11] (by decide) rfl
    refine lv_goto (tgt := 23) hx hb dX10_rests_18 (by decide) ?_
    exact x_reti S hr hlk hQ hS ((fun i => ([(u_8.1 0), (u_8.1 1), (u_8.1 2), (u_8.1 3), (u_8.1 4)] : List (Int32)).getD i 0), (fun i => ([] : List (Nat)).getD i 0), (fun i => ([(u_8.2.2.1 0)] : List (Nat → Int32)).getD i (fun _ => 0)), (fun i => ([] : List (Nat → Int64)).getD i (fun _ => 0)), (fun i => ([] : List (Int64)).getD i 0)) trivial (x_B hP hD) dX10_rests_23

set_option maxHeartbeats 4000000 in
set_option maxRecDepth 100000 in
theorem ctX10_gets (l : Launch) (D : va_G) (k : Nat → ClassId) (z : Nat → Nat) (o : Nat → Nat) (kopener : Int32) (kworth : Int32) (tlawNow : Int32) (tharder : Int32) (ttold : Int32) (treply : Int32) (twet : Int32) (f73 : Nat → Int32) (f69 : Nat → Int32) (f70 : Nat → Int32) (f71 : Nat → Int32) (glines : Int32) (ghours : Nat) (glaw : Int32) (godds : Int32) (grows : Nat) (gheads : Nat) (gsayings : Nat) (gslugs : Nat) (gacts : Nat) (f26 : Nat → Int32) (f30 : Nat → Int32) (f31 : Nat → Int32) (p0 : Int32) (p1 : Int32) (p2 : Int32) (p3 : Int32) (hghours : ghours ≤ 16) (hgrows : grows ≤ 4) (hgheads : gheads ≤ 12) (hgsayings : gsayings ≤ 8) (hgslugs : gslugs ≤ 4) (hgacts : gacts ≤ 30) : MU l yX10_gets cX10_gets 6 (some .int) 5 D k z [.ref (o 0), .int p0, .int p1, .int p2, .int p3] [((o 0), .inr (10, [.ref (o 1), .ref (o 2), .ref (o 3), .ref (o 4), .ref (o 5), .ref (o 6), .ref (o 7), .ref (o 8), .ref (o 9), .ref (o 10), .ref (o 11), .ref (o 12), .ref (o 13), .ref (o 14)])), ((o 9), .inr (0, [.ref (o 3), .ref (o 6), .int kopener, .int kworth])), ((o 6), .inr (1, [.ref (o 3), .ref (o 4), .int tlawNow, .int tharder, .int ttold, .int treply, .int twet, .ref (o 73)])), ((o 73), .inl (k 0, 17, .inl f73)), ((o 4), .inr (3, [.ref (o 69), .ref (o 70), .ref (o 71)])), ((o 69), .inl (k 0, 17, .inl f69)), ((o 70), .inl (k 0, 17, .inl f70)), ((o 71), .inl (k 0, 17, .inl f71)), ((o 3), .inr (2, [.int glines, .int (nI ghours), .int glaw, .int godds, .int (nI grows), .int (nI gheads), .int (nI gsayings), .int (nI gslugs), .int (nI gacts), .ref (o 26), .ref (o 27), .ref (o 28), .ref (o 29), .ref (o 30), .ref (o 31), .ref (o 32), .ref (o 33), .ref (o 34), .ref (o 35)])), ((o 26), .inl (k 0, 12, .inl f26)), ((o 30), .inl (k 0, 12, .inl f30)), ((o 31), .inl (k 0, 12, .inl f31))] 0 0 (Ui D (fun (r : Int32) (u : (Nat → Int32) × (Nat → Nat) × (Nat → Nat → Int32) × (Nat → Nat → Int64) × (Nat → Int64)) => True) (fun u : (Nat → Int32) × (Nat → Nat) × (Nat → Nat → Int32) × (Nat → Nat → Int64) × (Nat → Int64) => [((o 0), .inr (10, [.ref (o 1), .ref (o 2), .ref (o 3), .ref (o 4), .ref (o 5), .ref (o 6), .ref (o 7), .ref (o 8), .ref (o 9), .ref (o 10), .ref (o 11), .ref (o 12), .ref (o 13), .ref (o 14)])), ((o 9), .inr (0, [.ref (o 3), .ref (o 6), .int kopener, .int kworth])), ((o 6), .inr (1, [.ref (o 3), .ref (o 4), .int (u.1 0), .int (u.1 1), .int (u.1 2), .int (u.1 3), .int (u.1 4), .ref (o 73)])), ((o 73), .inl (k 0, 17, .inl (u.2.2.1 0))), ((o 4), .inr (3, [.ref (o 69), .ref (o 70), .ref (o 71)])), ((o 69), .inl (k 0, 17, .inl f69)), ((o 70), .inl (k 0, 17, .inl f70)), ((o 71), .inl (k 0, 17, .inl f71)), ((o 3), .inr (2, [.int glines, .int (nI ghours), .int glaw, .int godds, .int (nI grows), .int (nI gheads), .int (nI gsayings), .int (nI gslugs), .int (nI gacts), .ref (o 26), .ref (o 27), .ref (o 28), .ref (o 29), .ref (o 30), .ref (o 31), .ref (o 32), .ref (o 33), .ref (o 34), .ref (o 35)])), ((o 26), .inl (k 0, 12, .inl f26)), ((o 30), .inl (k 0, 12, .inl f30)), ((o 31), .inl (k 0, 12, .inl f31))])) := by
  refine MU.of (by decide) (Nat.le_of_ble_eq_true rfl) ?_
  intro p e s m below meth c ls A args Q S hr hlk hnm hQ hK hP hD hZ hA hS hl
  have hx := S.1
  have hb := S.2.1
  have hl : lv_has ls 6 [(0, .ref (o 0)), (1, .int p0), (2, .int p1), (3, .int p2), (4, .int p3)] := hl
  refine lv_aload_n hx hb dX10_gets_0 rfl (lv_at hl 0 rfl) ?_
  refine lv_iload_n hx hb dX10_gets_1 rfl (lv_at hl 1 rfl) ?_
  refine lv_iload_n hx hb dX10_gets_2 rfl (lv_at hl 2 rfl) ?_
  refine x_roVi (As := [.int p0, .int p1]) S hK hP hD hZ (fun _ h => h) hA hS hA hl mwX10_isPair lkX10_371 (ctX10_isPair l D k z o glines ghours glaw godds grows gheads gsayings gslugs gacts p0 p1 (by omega) (by omega) (by omega) (by omega) (by omega) (by omega)) [0, 8] rfl (by decide) rfl rfl rfl rfl rfl ⟨Nat.le_of_ble_eq_true rfl, Nat.le_of_ble_eq_true rfl, Nat.le_of_ble_eq_true rfl⟩ dX10_gets_3 ⟨Nat.le_of_ble_eq_true rfl, Nat.le_of_ble_eq_true rfl⟩ (fun r_1 H locs hr_1 hP hS => ?_)
  have hp_3 := hr_1
  refine lv_if_eq (tgt := 28) hx hb dX10_gets_6 (by decide) (fun c_4 => ?_) (fun c_4 => ?_)
  · skip
    refine lv_iconst (v := 0) hx hb dX10_gets_28 (by decide) ?_
    refine lv_istore (lv' := [(5, .int 0), (0, .ref (o 0)), (1, .int p0), (2, .int p1), (3, .int p2), (4, .int p3)]) hx hb dX10_gets_29 hl (by decide) rfl (fun ls hl => ?_)
    refine lv_iload hx hb dX10_gets_31 (lv_at hl 0 rfl) ?_
    refine lv_if_eq (tgt := 55) hx hb dX10_gets_33 (by decide) (fun c_5 => ?_) (fun c_5 => absurd (by decide) c_5)
    refine lv_sipush (v := (-1000)) hx hb dX10_gets_55 (by decide) ?_
    exact x_reti S hr hlk hQ hS ((fun i => ([tlawNow, tharder, ttold, treply, twet] : List (Int32)).getD i 0), (fun i => ([] : List (Nat)).getD i 0), (fun i => ([f73] : List (Nat → Int32)).getD i (fun _ => 0)), (fun i => ([] : List (Nat → Int64)).getD i (fun _ => 0)), (fun i => ([] : List (Int64)).getD i 0)) trivial (x_B hP hD) dX10_gets_58
  · skip
    obtain ⟨⟨n_6, rfl, hn_6⟩, ⟨n_7, rfl, hn_7⟩⟩ := hp_3.resolve_left c_4
    refine lv_iload_n hx hb dX10_gets_9 rfl (lv_at hl 3 rfl) ?_
    refine x_roSi (As := [.int p2]) S hK hP hD hZ (fun _ h => h) hA hS hA hl mwX10_isPart lkX10_291 (ctX10_isPart l D k z p2 ) [] rfl (by decide) rfl rfl ⟨Nat.le_of_ble_eq_true rfl, Nat.le_of_ble_eq_true rfl, Nat.le_of_ble_eq_true rfl⟩ dX10_gets_10 ⟨Nat.le_of_ble_eq_true rfl, Nat.le_of_ble_eq_true rfl⟩ (fun r_8 H locs hr_8 hP hS => ?_)
    refine lv_if_eq (tgt := 28) hx hb dX10_gets_13 (by decide) (fun c_10 => ?_) (fun c_10 => ?_)
    · skip
      refine lv_iconst (v := 0) hx hb dX10_gets_28 (by decide) ?_
      refine lv_istore (lv' := [(5, .int 0), (0, .ref (o 0)), (1, .int (nI n_6)), (2, .int (nI n_7)), (3, .int p2), (4, .int p3)]) hx hb dX10_gets_29 hl (by decide) rfl (fun ls hl => ?_)
      refine lv_iload hx hb dX10_gets_31 (lv_at hl 0 rfl) ?_
      refine lv_if_eq (tgt := 55) hx hb dX10_gets_33 (by decide) (fun c_11 => ?_) (fun c_11 => absurd (by decide) c_11)
      refine lv_sipush (v := (-1000)) hx hb dX10_gets_55 (by decide) ?_
      exact x_reti S hr hlk hQ hS ((fun i => ([tlawNow, tharder, ttold, treply, twet] : List (Int32)).getD i 0), (fun i => ([] : List (Nat)).getD i 0), (fun i => ([f73] : List (Nat → Int32)).getD i (fun _ => 0)), (fun i => ([] : List (Nat → Int64)).getD i (fun _ => 0)), (fun i => ([] : List (Int64)).getD i 0)) trivial (x_B hP hD) dX10_gets_58
    · skip
      refine lv_iload hx hb dX10_gets_16 (lv_at hl 4 rfl) ?_
      refine x_roSi (As := [.int p3]) S hK hP hD hZ (fun _ h => h) hA hS hA hl mwX10_isPart lkX10_291 (ctX10_isPart l D k z p3 ) [] rfl (by decide) rfl rfl ⟨Nat.le_of_ble_eq_true rfl, Nat.le_of_ble_eq_true rfl, Nat.le_of_ble_eq_true rfl⟩ dX10_gets_18 ⟨Nat.le_of_ble_eq_true rfl, Nat.le_of_ble_eq_true rfl⟩ (fun r_12 H locs hr_12 hP hS => ?_)
      refine lv_if_eq (tgt := 28) hx hb dX10_gets_21 (by decide) (fun c_14 => ?_) (fun c_14 => ?_)
      · skip
        refine lv_iconst (v := 0) hx hb dX10_gets_28 (by decide) ?_
        refine lv_istore (lv' := [(5, .int 0), (0, .ref (o 0)), (1, .int (nI n_6)), (2, .int (nI n_7)), (3, .int p2), (4, .int p3)]) hx hb dX10_gets_29 hl (by decide) rfl (fun ls hl => ?_)
        refine lv_iload hx hb dX10_gets_31 (lv_at hl 0 rfl) ?_
        refine lv_if_eq (tgt := 55) hx hb dX10_gets_33 (by decide) (fun c_15 => ?_) (fun c_15 => absurd (by decide) c_15)
        refine lv_sipush (v := (-1000)) hx hb dX10_gets_55 (by decide) ?_
        exact x_reti S hr hlk hQ hS ((fun i => ([tlawNow, tharder, ttold, treply, twet] : List (Int32)).getD i 0), (fun i => ([] : List (Nat)).getD i 0), (fun i => ([f73] : List (Nat → Int32)).getD i (fun _ => 0)), (fun i => ([] : List (Nat → Int64)).getD i (fun _ => 0)), (fun i => ([] : List (Int64)).getD i 0)) trivial (x_B hP hD) dX10_gets_58
      · skip
        refine lv_iconst (v := 1) hx hb dX10_gets_24 (by decide) ?_
        refine lv_goto (tgt := 29) hx hb dX10_gets_25 (by decide) ?_
        refine lv_istore (lv' := [(5, .int 1), (0, .ref (o 0)), (1, .int (nI n_6)), (2, .int (nI n_7)), (3, .int p2), (4, .int p3)]) hx hb dX10_gets_29 hl (by decide) rfl (fun ls hl => ?_)
        refine lv_iload hx hb dX10_gets_31 (lv_at hl 0 rfl) ?_
        refine lv_if_eq (tgt := 55) hx hb dX10_gets_33 (by decide) (fun c_16 => absurd c_16 (by decide)) (fun c_16 => ?_)
        refine lv_aload_n hx hb dX10_gets_36 rfl (lv_at hl 1 rfl) ?_
        refine x_get S hK hP 0 rfl cfX10 8 lkX10_66 (by decide) rfl dX10_gets_37 ?_
        refine lv_iload_n hx hb dX10_gets_40 rfl (lv_at hl 2 rfl) ?_
        refine lv_iload_n hx hb dX10_gets_41 rfl (lv_at hl 4 rfl) ?_
        refine lv_iload_n hx hb dX10_gets_42 rfl (lv_at hl 2 rfl) ?_
        refine lv_ishl hx hb dX10_gets_43 ?_
        refine lv_topi (fun v_17 ev_17 => ?_)
        refine lv_iload hx hb dX10_gets_44 (lv_at hl 5 rfl) ?_
        refine lv_iload_n hx hb dX10_gets_46 rfl (lv_at hl 3 rfl) ?_
        refine lv_ishl hx hb dX10_gets_47 ?_
        refine lv_topi (fun v_18 ev_18 => ?_)
        refine lv_ior hx hb dX10_gets_48 ?_
        refine lv_topi (fun v_19 ev_19 => ?_)
        refine x_muVi (wr := [((o 0), .inr (10, [.ref (o 1), .ref (o 2), .ref (o 3), .ref (o 4), .ref (o 5), .ref (o 6), .ref (o 7), .ref (o 8), .ref (o 9), .ref (o 10), .ref (o 11), .ref (o 12), .ref (o 13), .ref (o 14)]))]) (As := [.int (nI n_6), .int v_19]) S hK hP hD hZ hS hA hl mwX0_gain lkX10_378 (ctX0_gain l D k z o kopener kworth tlawNow tharder ttold treply twet f73 f69 f70 f71 glines ghours glaw godds grows gheads gsayings gslugs gacts f26 f30 f31 (nI n_6) v_19 (by omega) (by omega) (by omega) (by omega) (by omega) (by omega)) [1, 2, 3, 4, 5, 6, 7, 8, 9, 10, 11] [0] rfl rfl (by decide) (by decide) (by decide) rfl rfl rfl rfl rfl ⟨Nat.le_of_ble_eq_true rfl, Nat.le_of_ble_eq_true rfl, Nat.le_of_ble_eq_true rfl⟩ dX10_gets_49 ⟨Nat.le_of_ble_eq_true rfl, Nat.le_of_ble_eq_true rfl⟩ (fun r_20 u_21 H locs hr_20 hP hD hS => ?_)
        have hP : va_P D vwCl [((o 0), .inr (10, [.ref (o 1), .ref (o 2), .ref (o 3), .ref (o 4), .ref (o 5), .ref (o 6), .ref (o 7), .ref (o 8), .ref (o 9), .ref (o 10), .ref (o 11), .ref (o 12), .ref (o 13), .ref (o 14)])), ((o 9), .inr (0, [.ref (o 3), .ref (o 6), .int kopener, .int kworth])), ((o 6), .inr (1, [.ref (o 3), .ref (o 4), .int (u_21.1 0), .int (u_21.1 1), .int (u_21.1 2), .int (u_21.1 3), .int (u_21.1 4), .ref (o 73)])), ((o 73), .inl (k 0, 17, .inl (u_21.2.2.1 0))), ((o 4), .inr (3, [.ref (o 69), .ref (o 70), .ref (o 71)])), ((o 69), .inl (k 0, 17, .inl f69)), ((o 70), .inl (k 0, 17, .inl f70)), ((o 71), .inl (k 0, 17, .inl f71)), ((o 3), .inr (2, [.int glines, .int (nI ghours), .int glaw, .int godds, .int (nI grows), .int (nI gheads), .int (nI gsayings), .int (nI gslugs), .int (nI gacts), .ref (o 26), .ref (o 27), .ref (o 28), .ref (o 29), .ref (o 30), .ref (o 31), .ref (o 32), .ref (o 33), .ref (o 34), .ref (o 35)])), ((o 26), .inl (k 0, 12, .inl f26)), ((o 30), .inl (k 0, 12, .inl f30)), ((o 31), .inl (k 0, 12, .inl f31))] H := hP.sub [0, 1, 2, 3, 4, 5, 6, 7, 8, 9, 10, 11] rfl
        have hD : va_D A [((o 0), .inr (10, [.ref (o 1), .ref (o 2), .ref (o 3), .ref (o 4), .ref (o 5), .ref (o 6), .ref (o 7), .ref (o 8), .ref (o 9), .ref (o 10), .ref (o 11), .ref (o 12), .ref (o 13), .ref (o 14)])), ((o 9), .inr (0, [.ref (o 3), .ref (o 6), .int kopener, .int kworth])), ((o 6), .inr (1, [.ref (o 3), .ref (o 4), .int (u_21.1 0), .int (u_21.1 1), .int (u_21.1 2), .int (u_21.1 3), .int (u_21.1 4), .ref (o 73)])), ((o 73), .inl (k 0, 17, .inl (u_21.2.2.1 0))), ((o 4), .inr (3, [.ref (o 69), .ref (o 70), .ref (o 71)])), ((o 69), .inl (k 0, 17, .inl f69)), ((o 70), .inl (k 0, 17, .inl f70)), ((o 71), .inl (k 0, 17, .inl f71)), ((o 3), .inr (2, [.int glines, .int (nI ghours), .int glaw, .int godds, .int (nI grows), .int (nI gheads), .int (nI gsayings), .int (nI gslugs), .int (nI gacts), .ref (o 26), .ref (o 27), .ref (o 28), .ref (o 29), .ref (o 30), .ref (o 31), .ref (o 32), .ref (o 33), .ref (o 34), .ref (o 35)])), ((o 26), .inl (k 0, 12, .inl f26)), ((o 30), .inl (k 0, 12, .inl f30)), ((o 31), .inl (k 0, 12, .inl f31))] := hD.sub [0, 1, 2, 3, 4, 5, 6, 7, 8, 9, 10, 11] (by decide) rfl
        refine lv_goto (tgt := 58) hx hb dX10_gets_52 (by decide) ?_
        exact x_reti S hr hlk hQ hS ((fun i => ([(u_21.1 0), (u_21.1 1), (u_21.1 2), (u_21.1 3), (u_21.1 4)] : List (Int32)).getD i 0), (fun i => ([] : List (Nat)).getD i 0), (fun i => ([(u_21.2.2.1 0)] : List (Nat → Int32)).getD i (fun _ => 0)), (fun i => ([] : List (Nat → Int64)).getD i (fun _ => 0)), (fun i => ([] : List (Int64)).getD i 0)) trivial (x_B hP hD) dX10_gets_58

set_option maxHeartbeats 4000000 in
set_option maxRecDepth 100000 in
theorem ctX10_chance (l : Launch) (D : va_G) (k : Nat → ClassId) (z : Nat → Nat) (o : Nat → Nat) (wsize : Nat) (wnext : Nat) (f81 : Nat → Int32) (f82 : Nat → Int64) (f83 : Nat → Int32) (f84 : Nat → Int64) (clawNow : Int32) (charder : Int32) (ctold : Int32) (creply : Int32) (cwet : Int32) (f72 : Nat → Int32) (f69 : Nat → Int32) (f70 : Nat → Int32) (f71 : Nat → Int32) (glines : Int32) (ghours : Nat) (glaw : Int32) (godds : Int32) (grows : Nat) (gheads : Nat) (gsayings : Nat) (gslugs : Nat) (gacts : Nat) (f26 : Nat → Int32) (f30 : Nat → Int32) (f31 : Nat → Int32) (p0 : Int32) (p1 : Int32) (p2 : Int32) (p3 : Int32) (hwsize : wsize ≤ 256) (hwnext : wnext ≤ 256) (hghours : ghours ≤ 16) (hgrows : grows ≤ 4) (hgheads : gheads ≤ 12) (hgsayings : gsayings ≤ 8) (hgslugs : gslugs ≤ 4) (hgacts : gacts ≤ 30) : MU l yX10_chance cX10_chance 5 (some .long) 5 D k z [.ref (o 0), .int p0, .int p1, .int p2, .int p3] [((o 0), .inr (10, [.ref (o 1), .ref (o 2), .ref (o 3), .ref (o 4), .ref (o 5), .ref (o 6), .ref (o 7), .ref (o 8), .ref (o 9), .ref (o 10), .ref (o 11), .ref (o 12), .ref (o 13), .ref (o 14)])), ((o 12), .inr (9, [.ref (o 3), .ref (o 5), .ref (o 6), .ref (o 81), .ref (o 82), .int (nI wsize), .ref (o 83), .ref (o 84), .int (nI wnext)])), ((o 81), .inl (k 0, 256, .inl f81)), ((o 82), .inl (k 2, 256, .inr (.inl f82))), ((o 83), .inl (k 0, 256, .inl f83)), ((o 84), .inl (k 2, 256, .inr (.inl f84))), ((o 5), .inr (1, [.ref (o 3), .ref (o 4), .int clawNow, .int charder, .int ctold, .int creply, .int cwet, .ref (o 72)])), ((o 72), .inl (k 0, 17, .inl f72)), ((o 4), .inr (3, [.ref (o 69), .ref (o 70), .ref (o 71)])), ((o 69), .inl (k 0, 17, .inl f69)), ((o 70), .inl (k 0, 17, .inl f70)), ((o 71), .inl (k 0, 17, .inl f71)), ((o 3), .inr (2, [.int glines, .int (nI ghours), .int glaw, .int godds, .int (nI grows), .int (nI gheads), .int (nI gsayings), .int (nI gslugs), .int (nI gacts), .ref (o 26), .ref (o 27), .ref (o 28), .ref (o 29), .ref (o 30), .ref (o 31), .ref (o 32), .ref (o 33), .ref (o 34), .ref (o 35)])), ((o 26), .inl (k 0, 12, .inl f26)), ((o 30), .inl (k 0, 12, .inl f30)), ((o 31), .inl (k 0, 12, .inl f31))] 0 0 (Ul D (fun (r : Int64) (u : (Nat → Int32) × (Nat → Nat) × (Nat → Nat → Int32) × (Nat → Nat → Int64) × (Nat → Int64)) => (u.2.1 0 ≤ 256) ∧ (u.2.1 1 ≤ 256)) (fun u : (Nat → Int32) × (Nat → Nat) × (Nat → Nat → Int32) × (Nat → Nat → Int64) × (Nat → Int64) => [((o 0), .inr (10, [.ref (o 1), .ref (o 2), .ref (o 3), .ref (o 4), .ref (o 5), .ref (o 6), .ref (o 7), .ref (o 8), .ref (o 9), .ref (o 10), .ref (o 11), .ref (o 12), .ref (o 13), .ref (o 14)])), ((o 12), .inr (9, [.ref (o 3), .ref (o 5), .ref (o 6), .ref (o 81), .ref (o 82), .int (nI (u.2.1 0)), .ref (o 83), .ref (o 84), .int (nI (u.2.1 1))])), ((o 81), .inl (k 0, 256, .inl (u.2.2.1 0))), ((o 82), .inl (k 2, 256, .inr (.inl (u.2.2.2.1 0)))), ((o 83), .inl (k 0, 256, .inl (u.2.2.1 1))), ((o 84), .inl (k 2, 256, .inr (.inl (u.2.2.2.1 1)))), ((o 5), .inr (1, [.ref (o 3), .ref (o 4), .int clawNow, .int charder, .int ctold, .int creply, .int cwet, .ref (o 72)])), ((o 72), .inl (k 0, 17, .inl f72)), ((o 4), .inr (3, [.ref (o 69), .ref (o 70), .ref (o 71)])), ((o 69), .inl (k 0, 17, .inl f69)), ((o 70), .inl (k 0, 17, .inl f70)), ((o 71), .inl (k 0, 17, .inl f71)), ((o 3), .inr (2, [.int glines, .int (nI ghours), .int glaw, .int godds, .int (nI grows), .int (nI gheads), .int (nI gsayings), .int (nI gslugs), .int (nI gacts), .ref (o 26), .ref (o 27), .ref (o 28), .ref (o 29), .ref (o 30), .ref (o 31), .ref (o 32), .ref (o 33), .ref (o 34), .ref (o 35)])), ((o 26), .inl (k 0, 12, .inl f26)), ((o 30), .inl (k 0, 12, .inl f30)), ((o 31), .inl (k 0, 12, .inl f31))])) := by
  refine MU.of (by decide) (Nat.le_of_ble_eq_true rfl) ?_
  intro p e s m below meth c ls A args Q S hr hlk hnm hQ hK hP hD hZ hA hS hl
  have hx := S.1
  have hb := S.2.1
  have hl : lv_has ls 5 [(0, .ref (o 0)), (1, .int p0), (2, .int p1), (3, .int p2), (4, .int p3)] := hl
  refine lv_aload_n hx hb dX10_chance_0 rfl (lv_at hl 0 rfl) ?_
  refine lv_iload_n hx hb dX10_chance_1 rfl (lv_at hl 1 rfl) ?_
  refine x_roVi (As := [.int p0]) S hK hP hD hZ (fun _ h => h) hA hS hA hl mwX10_isHead lkX10_135 (ctX10_isHead l D k z o glines ghours glaw godds grows gheads gsayings gslugs gacts p0 (by omega) (by omega) (by omega) (by omega) (by omega) (by omega)) [0, 12] rfl (by decide) rfl rfl rfl rfl rfl ⟨Nat.le_of_ble_eq_true rfl, Nat.le_of_ble_eq_true rfl, Nat.le_of_ble_eq_true rfl⟩ dX10_chance_2 ⟨Nat.le_of_ble_eq_true rfl, Nat.le_of_ble_eq_true rfl⟩ (fun r_1 H locs hr_1 hP hS => ?_)
  have hp_3 := hr_1
  refine lv_if_eq (tgt := 31) hx hb dX10_chance_5 (by decide) (fun c_4 => ?_) (fun c_4 => ?_)
  · skip
    refine lv_ldc2 hx hb S.2.2.2.1 (S.2.2.2.2 _ lkX10_294) dX10_chance_31 ?_
    exact x_retl S hr hlk hQ hS ((fun i => ([] : List (Int32)).getD i 0), (fun i => ([wsize, wnext] : List (Nat)).getD i 0), (fun i => ([f81, f83] : List (Nat → Int32)).getD i (fun _ => 0)), (fun i => ([f82, f84] : List (Nat → Int64)).getD i (fun _ => 0)), (fun i => ([] : List (Int64)).getD i 0)) ⟨(show wsize ≤ 256 by omega), (show wnext ≤ 256 by omega)⟩ (x_B hP hD) dX10_chance_34
  · skip
    obtain ⟨n_5, rfl, hn_5⟩ := hp_3.resolve_left c_4
    refine lv_iload_n hx hb dX10_chance_8 rfl (lv_at hl 2 rfl) ?_
    refine x_roSi (As := [.int p1]) S hK hP hD hZ (fun _ h => h) hA hS hA hl mwX10_isAnyView lkX10_168 (ctX10_isAnyView l D k z p1 ) [] rfl (by decide) rfl rfl ⟨Nat.le_of_ble_eq_true rfl, Nat.le_of_ble_eq_true rfl, Nat.le_of_ble_eq_true rfl⟩ dX10_chance_9 ⟨Nat.le_of_ble_eq_true rfl, Nat.le_of_ble_eq_true rfl⟩ (fun r_6 H locs hr_6 hP hS => ?_)
    refine lv_if_eq (tgt := 31) hx hb dX10_chance_12 (by decide) (fun c_8 => ?_) (fun c_8 => ?_)
    · skip
      refine lv_ldc2 hx hb S.2.2.2.1 (S.2.2.2.2 _ lkX10_294) dX10_chance_31 ?_
      exact x_retl S hr hlk hQ hS ((fun i => ([] : List (Int32)).getD i 0), (fun i => ([wsize, wnext] : List (Nat)).getD i 0), (fun i => ([f81, f83] : List (Nat → Int32)).getD i (fun _ => 0)), (fun i => ([f82, f84] : List (Nat → Int64)).getD i (fun _ => 0)), (fun i => ([] : List (Int64)).getD i 0)) ⟨(show wsize ≤ 256 by omega), (show wnext ≤ 256 by omega)⟩ (x_B hP hD) dX10_chance_34
    · skip
      refine lv_aload_n hx hb dX10_chance_15 rfl (lv_at hl 0 rfl) ?_
      refine lv_iload_n hx hb dX10_chance_16 rfl (lv_at hl 3 rfl) ?_
      refine x_roVi (As := [.int p2]) S hK hP hD hZ (fun _ h => h) hA hS hA hl mwX10_isWetHour lkX10_381 (ctX10_isWetHour l D k z o glines ghours glaw godds grows gheads gsayings gslugs gacts p2 (by omega) (by omega) (by omega) (by omega) (by omega) (by omega)) [0, 12] rfl (by decide) rfl rfl rfl rfl rfl ⟨Nat.le_of_ble_eq_true rfl, Nat.le_of_ble_eq_true rfl, Nat.le_of_ble_eq_true rfl⟩ dX10_chance_17 ⟨Nat.le_of_ble_eq_true rfl, Nat.le_of_ble_eq_true rfl⟩ (fun r_9 H locs hr_9 hP hS => ?_)
      have hp_11 := hr_9
      refine lv_if_eq (tgt := 31) hx hb dX10_chance_20 (by decide) (fun c_12 => ?_) (fun c_12 => ?_)
      · skip
        refine lv_ldc2 hx hb S.2.2.2.1 (S.2.2.2.2 _ lkX10_294) dX10_chance_31 ?_
        exact x_retl S hr hlk hQ hS ((fun i => ([] : List (Int32)).getD i 0), (fun i => ([wsize, wnext] : List (Nat)).getD i 0), (fun i => ([f81, f83] : List (Nat → Int32)).getD i (fun _ => 0)), (fun i => ([f82, f84] : List (Nat → Int64)).getD i (fun _ => 0)), (fun i => ([] : List (Int64)).getD i 0)) ⟨(show wsize ≤ 256 by omega), (show wnext ≤ 256 by omega)⟩ (x_B hP hD) dX10_chance_34
      · skip
        obtain ⟨n_13, rfl, hn_13⟩ := hp_11.resolve_left c_12
        refine lv_iload hx hb dX10_chance_23 (lv_at hl 4 rfl) ?_
        refine x_roSi (As := [.int p3]) S hK hP hD hZ (fun _ h => h) hA hS hA hl mwX10_isPart lkX10_291 (ctX10_isPart l D k z p3 ) [] rfl (by decide) rfl rfl ⟨Nat.le_of_ble_eq_true rfl, Nat.le_of_ble_eq_true rfl, Nat.le_of_ble_eq_true rfl⟩ dX10_chance_25 ⟨Nat.le_of_ble_eq_true rfl, Nat.le_of_ble_eq_true rfl⟩ (fun r_14 H locs hr_14 hP hS => ?_)
        refine lv_if_ne (tgt := 35) hx hb dX10_chance_28 (by decide) (fun c_16 => ?_) (fun c_16 => ?_)
        · skip
          refine lv_aload_n hx hb dX10_chance_35 rfl (lv_at hl 0 rfl) ?_
          refine x_get S hK hP 0 rfl cfX10 11 lkX10_91 (by decide) rfl dX10_chance_36 ?_
          refine lv_iload_n hx hb dX10_chance_39 rfl (lv_at hl 1 rfl) ?_
          refine lv_iload_n hx hb dX10_chance_40 rfl (lv_at hl 2 rfl) ?_
          refine lv_iload_n hx hb dX10_chance_41 rfl (lv_at hl 3 rfl) ?_
          refine x_muVl (wr := [((o 0), .inr (10, [.ref (o 1), .ref (o 2), .ref (o 3), .ref (o 4), .ref (o 5), .ref (o 6), .ref (o 7), .ref (o 8), .ref (o 9), .ref (o 10), .ref (o 11), .ref (o 12), .ref (o 13), .ref (o 14)]))]) (As := [.int (nI n_5), .int p1, .int (nI n_13)]) S hK hP hD hZ hS hA hl mwX9_weightOfView lkX10_384 (ctX9_weightOfView l D k z o wsize wnext f81 f82 f83 f84 clawNow charder ctold creply cwet f72 f69 f70 f71 glines ghours glaw godds grows gheads gsayings gslugs gacts f26 f30 f31 (nI n_5) p1 n_13 (by omega) (by omega) (by omega) (by omega) (by omega) (by omega) (by omega) (by omega) (by omega)) [1, 2, 3, 4, 5, 6, 7, 8, 9, 10, 11, 12, 13, 14, 15] [0] rfl rfl (by decide) (by decide) (by decide) rfl rfl rfl rfl rfl ⟨Nat.le_of_ble_eq_true rfl, Nat.le_of_ble_eq_true rfl, Nat.le_of_ble_eq_true rfl⟩ dX10_chance_42 ⟨Nat.le_of_ble_eq_true rfl, Nat.le_of_ble_eq_true rfl⟩ (fun r_17 u_18 H locs hr_17 hP hD hS => ?_)
          have hP : va_P D vwCl [((o 0), .inr (10, [.ref (o 1), .ref (o 2), .ref (o 3), .ref (o 4), .ref (o 5), .ref (o 6), .ref (o 7), .ref (o 8), .ref (o 9), .ref (o 10), .ref (o 11), .ref (o 12), .ref (o 13), .ref (o 14)])), ((o 12), .inr (9, [.ref (o 3), .ref (o 5), .ref (o 6), .ref (o 81), .ref (o 82), .int (nI (u_18.2.1 0)), .ref (o 83), .ref (o 84), .int (nI (u_18.2.1 1))])), ((o 81), .inl (k 0, 256, .inl (u_18.2.2.1 0))), ((o 82), .inl (k 2, 256, .inr (.inl (u_18.2.2.2.1 0)))), ((o 83), .inl (k 0, 256, .inl (u_18.2.2.1 1))), ((o 84), .inl (k 2, 256, .inr (.inl (u_18.2.2.2.1 1)))), ((o 5), .inr (1, [.ref (o 3), .ref (o 4), .int clawNow, .int charder, .int ctold, .int creply, .int cwet, .ref (o 72)])), ((o 72), .inl (k 0, 17, .inl f72)), ((o 4), .inr (3, [.ref (o 69), .ref (o 70), .ref (o 71)])), ((o 69), .inl (k 0, 17, .inl f69)), ((o 70), .inl (k 0, 17, .inl f70)), ((o 71), .inl (k 0, 17, .inl f71)), ((o 3), .inr (2, [.int glines, .int (nI ghours), .int glaw, .int godds, .int (nI grows), .int (nI gheads), .int (nI gsayings), .int (nI gslugs), .int (nI gacts), .ref (o 26), .ref (o 27), .ref (o 28), .ref (o 29), .ref (o 30), .ref (o 31), .ref (o 32), .ref (o 33), .ref (o 34), .ref (o 35)])), ((o 26), .inl (k 0, 12, .inl f26)), ((o 30), .inl (k 0, 12, .inl f30)), ((o 31), .inl (k 0, 12, .inl f31))] H := hP.sub [0, 1, 2, 3, 4, 5, 6, 7, 8, 9, 10, 11, 12, 13, 14, 15] rfl
          have hD : va_D A [((o 0), .inr (10, [.ref (o 1), .ref (o 2), .ref (o 3), .ref (o 4), .ref (o 5), .ref (o 6), .ref (o 7), .ref (o 8), .ref (o 9), .ref (o 10), .ref (o 11), .ref (o 12), .ref (o 13), .ref (o 14)])), ((o 12), .inr (9, [.ref (o 3), .ref (o 5), .ref (o 6), .ref (o 81), .ref (o 82), .int (nI (u_18.2.1 0)), .ref (o 83), .ref (o 84), .int (nI (u_18.2.1 1))])), ((o 81), .inl (k 0, 256, .inl (u_18.2.2.1 0))), ((o 82), .inl (k 2, 256, .inr (.inl (u_18.2.2.2.1 0)))), ((o 83), .inl (k 0, 256, .inl (u_18.2.2.1 1))), ((o 84), .inl (k 2, 256, .inr (.inl (u_18.2.2.2.1 1)))), ((o 5), .inr (1, [.ref (o 3), .ref (o 4), .int clawNow, .int charder, .int ctold, .int creply, .int cwet, .ref (o 72)])), ((o 72), .inl (k 0, 17, .inl f72)), ((o 4), .inr (3, [.ref (o 69), .ref (o 70), .ref (o 71)])), ((o 69), .inl (k 0, 17, .inl f69)), ((o 70), .inl (k 0, 17, .inl f70)), ((o 71), .inl (k 0, 17, .inl f71)), ((o 3), .inr (2, [.int glines, .int (nI ghours), .int glaw, .int godds, .int (nI grows), .int (nI gheads), .int (nI gsayings), .int (nI gslugs), .int (nI gacts), .ref (o 26), .ref (o 27), .ref (o 28), .ref (o 29), .ref (o 30), .ref (o 31), .ref (o 32), .ref (o 33), .ref (o 34), .ref (o 35)])), ((o 26), .inl (k 0, 12, .inl f26)), ((o 30), .inl (k 0, 12, .inl f30)), ((o 31), .inl (k 0, 12, .inl f31))] := hD.sub [0, 1, 2, 3, 4, 5, 6, 7, 8, 9, 10, 11, 12, 13, 14, 15] (by decide) rfl
          obtain ⟨hg_19, hg_20⟩ := hr_17
          refine lv_aload_n hx hb dX10_chance_45 rfl (lv_at hl 0 rfl) ?_
          refine x_get S hK hP 0 rfl cfX10 11 lkX10_91 (by decide) rfl dX10_chance_46 ?_
          refine lv_iload_n hx hb dX10_chance_49 rfl (lv_at hl 3 rfl) ?_
          refine x_roVl (As := [.int (nI n_13)]) S hK hP hD hZ (fun _ h => h) hA hS hA hl mwX9_weightOfAll lkX10_388 (ctX9_weightOfAll l D k z o (u_18.2.1 0) (u_18.2.1 1) (u_18.2.2.1 0) (u_18.2.2.2.1 0) (u_18.2.2.1 1) (u_18.2.2.2.1 1) clawNow charder ctold creply cwet f72 f69 f70 f71 glines ghours glaw godds grows gheads gsayings gslugs gacts f26 f30 f31 n_13 (by omega) (by omega) (by omega) (by omega) (by omega) (by omega) (by omega) (by omega) (by omega)) [1, 2, 3, 4, 5, 6, 7, 8, 9, 10, 11, 12, 13, 14, 15] rfl (by decide) rfl rfl rfl rfl rfl ⟨Nat.le_of_ble_eq_true rfl, Nat.le_of_ble_eq_true rfl, Nat.le_of_ble_eq_true rfl⟩ dX10_chance_50 ⟨Nat.le_of_ble_eq_true rfl, Nat.le_of_ble_eq_true rfl⟩ (fun r_21 H locs hr_21 hP hS => ?_)
          refine lv_iload hx hb dX10_chance_53 (lv_at hl 4 rfl) ?_
          refine x_roSl (As := [.long r_17, .long r_21, .int p3]) S hK hP hD hZ (fun _ h => h) hA hS hA hl mwX10_part lkX10_309 (ctX10_part l D k z r_17 r_21 p3 ) [] rfl (by decide) rfl rfl ⟨Nat.le_of_ble_eq_true rfl, Nat.le_of_ble_eq_true rfl, Nat.le_of_ble_eq_true rfl⟩ dX10_chance_55 ⟨Nat.le_of_ble_eq_true rfl, Nat.le_of_ble_eq_true rfl⟩ (fun r_23 H locs hr_23 hP hS => ?_)
          exact x_retl S hr hlk hQ hS ((fun i => ([] : List (Int32)).getD i 0), (fun i => ([u_18.2.1 0, u_18.2.1 1] : List (Nat)).getD i 0), (fun i => ([(u_18.2.2.1 0), (u_18.2.2.1 1)] : List (Nat → Int32)).getD i (fun _ => 0)), (fun i => ([(u_18.2.2.2.1 0), (u_18.2.2.2.1 1)] : List (Nat → Int64)).getD i (fun _ => 0)), (fun i => ([] : List (Int64)).getD i 0)) ⟨(show u_18.2.1 0 ≤ 256 by omega), (show u_18.2.1 1 ≤ 256 by omega)⟩ (x_B hP hD) dX10_chance_58
        · skip
          refine lv_ldc2 hx hb S.2.2.2.1 (S.2.2.2.2 _ lkX10_294) dX10_chance_31 ?_
          exact x_retl S hr hlk hQ hS ((fun i => ([] : List (Int32)).getD i 0), (fun i => ([wsize, wnext] : List (Nat)).getD i 0), (fun i => ([f81, f83] : List (Nat → Int32)).getD i (fun _ => 0)), (fun i => ([f82, f84] : List (Nat → Int64)).getD i (fun _ => 0)), (fun i => ([] : List (Int64)).getD i 0)) ⟨(show wsize ≤ 256 by omega), (show wnext ≤ 256 by omega)⟩ (x_B hP hD) dX10_chance_34

set_option maxHeartbeats 4000000 in
set_option maxRecDepth 100000 in
theorem ctX10_mean (l : Launch) (D : va_G) (k : Nat → ClassId) (z : Nat → Nat) (o : Nat → Nat) (wsize : Nat) (wnext : Nat) (f81 : Nat → Int32) (f82 : Nat → Int64) (f83 : Nat → Int32) (f84 : Nat → Int64) (clawNow : Int32) (charder : Int32) (ctold : Int32) (creply : Int32) (cwet : Int32) (f72 : Nat → Int32) (f69 : Nat → Int32) (f70 : Nat → Int32) (f71 : Nat → Int32) (glines : Int32) (ghours : Nat) (glaw : Int32) (godds : Int32) (grows : Nat) (gheads : Nat) (gsayings : Nat) (gslugs : Nat) (gacts : Nat) (f26 : Nat → Int32) (f30 : Nat → Int32) (f31 : Nat → Int32) (p0 : Int32) (p1 : Int32) (hwsize : wsize ≤ 256) (hwnext : wnext ≤ 256) (hghours : ghours ≤ 16) (hgrows : grows ≤ 4) (hgheads : gheads ≤ 12) (hgsayings : gsayings ≤ 8) (hgslugs : gslugs ≤ 4) (hgacts : gacts ≤ 30) : MU l yX10_mean cX10_mean 3 (some .long) 5 D k z [.ref (o 0), .int p0, .int p1] [((o 0), .inr (10, [.ref (o 1), .ref (o 2), .ref (o 3), .ref (o 4), .ref (o 5), .ref (o 6), .ref (o 7), .ref (o 8), .ref (o 9), .ref (o 10), .ref (o 11), .ref (o 12), .ref (o 13), .ref (o 14)])), ((o 12), .inr (9, [.ref (o 3), .ref (o 5), .ref (o 6), .ref (o 81), .ref (o 82), .int (nI wsize), .ref (o 83), .ref (o 84), .int (nI wnext)])), ((o 81), .inl (k 0, 256, .inl f81)), ((o 82), .inl (k 2, 256, .inr (.inl f82))), ((o 83), .inl (k 0, 256, .inl f83)), ((o 84), .inl (k 2, 256, .inr (.inl f84))), ((o 5), .inr (1, [.ref (o 3), .ref (o 4), .int clawNow, .int charder, .int ctold, .int creply, .int cwet, .ref (o 72)])), ((o 72), .inl (k 0, 17, .inl f72)), ((o 4), .inr (3, [.ref (o 69), .ref (o 70), .ref (o 71)])), ((o 69), .inl (k 0, 17, .inl f69)), ((o 70), .inl (k 0, 17, .inl f70)), ((o 71), .inl (k 0, 17, .inl f71)), ((o 3), .inr (2, [.int glines, .int (nI ghours), .int glaw, .int godds, .int (nI grows), .int (nI gheads), .int (nI gsayings), .int (nI gslugs), .int (nI gacts), .ref (o 26), .ref (o 27), .ref (o 28), .ref (o 29), .ref (o 30), .ref (o 31), .ref (o 32), .ref (o 33), .ref (o 34), .ref (o 35)])), ((o 26), .inl (k 0, 12, .inl f26)), ((o 30), .inl (k 0, 12, .inl f30)), ((o 31), .inl (k 0, 12, .inl f31))] 0 0 (Ul D (fun (r : Int64) (u : (Nat → Int32) × (Nat → Nat) × (Nat → Nat → Int32) × (Nat → Nat → Int64) × (Nat → Int64)) => (u.2.1 0 ≤ 256) ∧ (u.2.1 1 ≤ 256)) (fun u : (Nat → Int32) × (Nat → Nat) × (Nat → Nat → Int32) × (Nat → Nat → Int64) × (Nat → Int64) => [((o 0), .inr (10, [.ref (o 1), .ref (o 2), .ref (o 3), .ref (o 4), .ref (o 5), .ref (o 6), .ref (o 7), .ref (o 8), .ref (o 9), .ref (o 10), .ref (o 11), .ref (o 12), .ref (o 13), .ref (o 14)])), ((o 12), .inr (9, [.ref (o 3), .ref (o 5), .ref (o 6), .ref (o 81), .ref (o 82), .int (nI (u.2.1 0)), .ref (o 83), .ref (o 84), .int (nI (u.2.1 1))])), ((o 81), .inl (k 0, 256, .inl (u.2.2.1 0))), ((o 82), .inl (k 2, 256, .inr (.inl (u.2.2.2.1 0)))), ((o 83), .inl (k 0, 256, .inl (u.2.2.1 1))), ((o 84), .inl (k 2, 256, .inr (.inl (u.2.2.2.1 1)))), ((o 5), .inr (1, [.ref (o 3), .ref (o 4), .int clawNow, .int charder, .int ctold, .int creply, .int cwet, .ref (o 72)])), ((o 72), .inl (k 0, 17, .inl f72)), ((o 4), .inr (3, [.ref (o 69), .ref (o 70), .ref (o 71)])), ((o 69), .inl (k 0, 17, .inl f69)), ((o 70), .inl (k 0, 17, .inl f70)), ((o 71), .inl (k 0, 17, .inl f71)), ((o 3), .inr (2, [.int glines, .int (nI ghours), .int glaw, .int godds, .int (nI grows), .int (nI gheads), .int (nI gsayings), .int (nI gslugs), .int (nI gacts), .ref (o 26), .ref (o 27), .ref (o 28), .ref (o 29), .ref (o 30), .ref (o 31), .ref (o 32), .ref (o 33), .ref (o 34), .ref (o 35)])), ((o 26), .inl (k 0, 12, .inl f26)), ((o 30), .inl (k 0, 12, .inl f30)), ((o 31), .inl (k 0, 12, .inl f31))])) := by
  refine MU.of (by decide) (Nat.le_of_ble_eq_true rfl) ?_
  intro p e s m below meth c ls A args Q S hr hlk hnm hQ hK hP hD hZ hA hS hl
  have hx := S.1
  have hb := S.2.1
  have hl : lv_has ls 3 [(0, .ref (o 0)), (1, .int p0), (2, .int p1)] := hl
  refine lv_aload_n hx hb dX10_mean_0 rfl (lv_at hl 0 rfl) ?_
  refine lv_iload_n hx hb dX10_mean_1 rfl (lv_at hl 1 rfl) ?_
  refine x_roVi (As := [.int p0]) S hK hP hD hZ (fun _ h => h) hA hS hA hl mwX10_isWetHour lkX10_381 (ctX10_isWetHour l D k z o glines ghours glaw godds grows gheads gsayings gslugs gacts p0 (by omega) (by omega) (by omega) (by omega) (by omega) (by omega)) [0, 12] rfl (by decide) rfl rfl rfl rfl rfl ⟨Nat.le_of_ble_eq_true rfl, Nat.le_of_ble_eq_true rfl, Nat.le_of_ble_eq_true rfl⟩ dX10_mean_2 ⟨Nat.le_of_ble_eq_true rfl, Nat.le_of_ble_eq_true rfl⟩ (fun r_1 H locs hr_1 hP hS => ?_)
  have hp_3 := hr_1
  refine lv_if_eq (tgt := 15) hx hb dX10_mean_5 (by decide) (fun c_4 => ?_) (fun c_4 => ?_)
  · skip
    refine lv_ldc2 hx hb S.2.2.2.1 (S.2.2.2.2 _ lkX10_294) dX10_mean_15 ?_
    exact x_retl S hr hlk hQ hS ((fun i => ([] : List (Int32)).getD i 0), (fun i => ([wsize, wnext] : List (Nat)).getD i 0), (fun i => ([f81, f83] : List (Nat → Int32)).getD i (fun _ => 0)), (fun i => ([f82, f84] : List (Nat → Int64)).getD i (fun _ => 0)), (fun i => ([] : List (Int64)).getD i 0)) ⟨(show wsize ≤ 256 by omega), (show wnext ≤ 256 by omega)⟩ (x_B hP hD) dX10_mean_18
  · skip
    obtain ⟨n_5, rfl, hn_5⟩ := hp_3.resolve_left c_4
    refine lv_iload_n hx hb dX10_mean_8 rfl (lv_at hl 2 rfl) ?_
    refine x_roSi (As := [.int p1]) S hK hP hD hZ (fun _ h => h) hA hS hA hl mwX10_isPart lkX10_291 (ctX10_isPart l D k z p1 ) [] rfl (by decide) rfl rfl ⟨Nat.le_of_ble_eq_true rfl, Nat.le_of_ble_eq_true rfl, Nat.le_of_ble_eq_true rfl⟩ dX10_mean_9 ⟨Nat.le_of_ble_eq_true rfl, Nat.le_of_ble_eq_true rfl⟩ (fun r_6 H locs hr_6 hP hS => ?_)
    refine lv_if_ne (tgt := 19) hx hb dX10_mean_12 (by decide) (fun c_8 => ?_) (fun c_8 => ?_)
    · skip
      refine lv_aload_n hx hb dX10_mean_19 rfl (lv_at hl 0 rfl) ?_
      refine x_get S hK hP 0 rfl cfX10 11 lkX10_91 (by decide) rfl dX10_mean_20 ?_
      refine lv_iload_n hx hb dX10_mean_23 rfl (lv_at hl 1 rfl) ?_
      refine x_muVl (wr := [((o 0), .inr (10, [.ref (o 1), .ref (o 2), .ref (o 3), .ref (o 4), .ref (o 5), .ref (o 6), .ref (o 7), .ref (o 8), .ref (o 9), .ref (o 10), .ref (o 11), .ref (o 12), .ref (o 13), .ref (o 14)]))]) (As := [.int (nI n_5)]) S hK hP hD hZ hS hA hl mwX9_weightOfOnes lkX10_391 (ctX9_weightOfOnes l D k z o wsize wnext f81 f82 f83 f84 clawNow charder ctold creply cwet f72 f69 f70 f71 glines ghours glaw godds grows gheads gsayings gslugs gacts f26 f30 f31 n_5 (by omega) (by omega) (by omega) (by omega) (by omega) (by omega) (by omega) (by omega) (by omega)) [1, 2, 3, 4, 5, 6, 7, 8, 9, 10, 11, 12, 13, 14, 15] [0] rfl rfl (by decide) (by decide) (by decide) rfl rfl rfl rfl rfl ⟨Nat.le_of_ble_eq_true rfl, Nat.le_of_ble_eq_true rfl, Nat.le_of_ble_eq_true rfl⟩ dX10_mean_24 ⟨Nat.le_of_ble_eq_true rfl, Nat.le_of_ble_eq_true rfl⟩ (fun r_9 u_10 H locs hr_9 hP hD hS => ?_)
      have hP : va_P D vwCl [((o 0), .inr (10, [.ref (o 1), .ref (o 2), .ref (o 3), .ref (o 4), .ref (o 5), .ref (o 6), .ref (o 7), .ref (o 8), .ref (o 9), .ref (o 10), .ref (o 11), .ref (o 12), .ref (o 13), .ref (o 14)])), ((o 12), .inr (9, [.ref (o 3), .ref (o 5), .ref (o 6), .ref (o 81), .ref (o 82), .int (nI (u_10.2.1 0)), .ref (o 83), .ref (o 84), .int (nI (u_10.2.1 1))])), ((o 81), .inl (k 0, 256, .inl (u_10.2.2.1 0))), ((o 82), .inl (k 2, 256, .inr (.inl (u_10.2.2.2.1 0)))), ((o 83), .inl (k 0, 256, .inl (u_10.2.2.1 1))), ((o 84), .inl (k 2, 256, .inr (.inl (u_10.2.2.2.1 1)))), ((o 5), .inr (1, [.ref (o 3), .ref (o 4), .int clawNow, .int charder, .int ctold, .int creply, .int cwet, .ref (o 72)])), ((o 72), .inl (k 0, 17, .inl f72)), ((o 4), .inr (3, [.ref (o 69), .ref (o 70), .ref (o 71)])), ((o 69), .inl (k 0, 17, .inl f69)), ((o 70), .inl (k 0, 17, .inl f70)), ((o 71), .inl (k 0, 17, .inl f71)), ((o 3), .inr (2, [.int glines, .int (nI ghours), .int glaw, .int godds, .int (nI grows), .int (nI gheads), .int (nI gsayings), .int (nI gslugs), .int (nI gacts), .ref (o 26), .ref (o 27), .ref (o 28), .ref (o 29), .ref (o 30), .ref (o 31), .ref (o 32), .ref (o 33), .ref (o 34), .ref (o 35)])), ((o 26), .inl (k 0, 12, .inl f26)), ((o 30), .inl (k 0, 12, .inl f30)), ((o 31), .inl (k 0, 12, .inl f31))] H := hP.sub [0, 1, 2, 3, 4, 5, 6, 7, 8, 9, 10, 11, 12, 13, 14, 15] rfl
      have hD : va_D A [((o 0), .inr (10, [.ref (o 1), .ref (o 2), .ref (o 3), .ref (o 4), .ref (o 5), .ref (o 6), .ref (o 7), .ref (o 8), .ref (o 9), .ref (o 10), .ref (o 11), .ref (o 12), .ref (o 13), .ref (o 14)])), ((o 12), .inr (9, [.ref (o 3), .ref (o 5), .ref (o 6), .ref (o 81), .ref (o 82), .int (nI (u_10.2.1 0)), .ref (o 83), .ref (o 84), .int (nI (u_10.2.1 1))])), ((o 81), .inl (k 0, 256, .inl (u_10.2.2.1 0))), ((o 82), .inl (k 2, 256, .inr (.inl (u_10.2.2.2.1 0)))), ((o 83), .inl (k 0, 256, .inl (u_10.2.2.1 1))), ((o 84), .inl (k 2, 256, .inr (.inl (u_10.2.2.2.1 1)))), ((o 5), .inr (1, [.ref (o 3), .ref (o 4), .int clawNow, .int charder, .int ctold, .int creply, .int cwet, .ref (o 72)])), ((o 72), .inl (k 0, 17, .inl f72)), ((o 4), .inr (3, [.ref (o 69), .ref (o 70), .ref (o 71)])), ((o 69), .inl (k 0, 17, .inl f69)), ((o 70), .inl (k 0, 17, .inl f70)), ((o 71), .inl (k 0, 17, .inl f71)), ((o 3), .inr (2, [.int glines, .int (nI ghours), .int glaw, .int godds, .int (nI grows), .int (nI gheads), .int (nI gsayings), .int (nI gslugs), .int (nI gacts), .ref (o 26), .ref (o 27), .ref (o 28), .ref (o 29), .ref (o 30), .ref (o 31), .ref (o 32), .ref (o 33), .ref (o 34), .ref (o 35)])), ((o 26), .inl (k 0, 12, .inl f26)), ((o 30), .inl (k 0, 12, .inl f30)), ((o 31), .inl (k 0, 12, .inl f31))] := hD.sub [0, 1, 2, 3, 4, 5, 6, 7, 8, 9, 10, 11, 12, 13, 14, 15] (by decide) rfl
      obtain ⟨hg_11, hg_12⟩ := hr_9
      refine lv_aload_n hx hb dX10_mean_27 rfl (lv_at hl 0 rfl) ?_
      refine x_get S hK hP 0 rfl cfX10 11 lkX10_91 (by decide) rfl dX10_mean_28 ?_
      refine lv_iload_n hx hb dX10_mean_31 rfl (lv_at hl 1 rfl) ?_
      refine x_roVl (As := [.int (nI n_5)]) S hK hP hD hZ (fun _ h => h) hA hS hA hl mwX9_weightOfAll lkX10_388 (ctX9_weightOfAll l D k z o (u_10.2.1 0) (u_10.2.1 1) (u_10.2.2.1 0) (u_10.2.2.2.1 0) (u_10.2.2.1 1) (u_10.2.2.2.1 1) clawNow charder ctold creply cwet f72 f69 f70 f71 glines ghours glaw godds grows gheads gsayings gslugs gacts f26 f30 f31 n_5 (by omega) (by omega) (by omega) (by omega) (by omega) (by omega) (by omega) (by omega) (by omega)) [1, 2, 3, 4, 5, 6, 7, 8, 9, 10, 11, 12, 13, 14, 15] rfl (by decide) rfl rfl rfl rfl rfl ⟨Nat.le_of_ble_eq_true rfl, Nat.le_of_ble_eq_true rfl, Nat.le_of_ble_eq_true rfl⟩ dX10_mean_32 ⟨Nat.le_of_ble_eq_true rfl, Nat.le_of_ble_eq_true rfl⟩ (fun r_13 H locs hr_13 hP hS => ?_)
      refine lv_iload_n hx hb dX10_mean_35 rfl (lv_at hl 2 rfl) ?_
      refine x_roSl (As := [.long r_9, .long r_13, .int p1]) S hK hP hD hZ (fun _ h => h) hA hS hA hl mwX10_part lkX10_309 (ctX10_part l D k z r_9 r_13 p1 ) [] rfl (by decide) rfl rfl ⟨Nat.le_of_ble_eq_true rfl, Nat.le_of_ble_eq_true rfl, Nat.le_of_ble_eq_true rfl⟩ dX10_mean_36 ⟨Nat.le_of_ble_eq_true rfl, Nat.le_of_ble_eq_true rfl⟩ (fun r_15 H locs hr_15 hP hS => ?_)
      exact x_retl S hr hlk hQ hS ((fun i => ([] : List (Int32)).getD i 0), (fun i => ([u_10.2.1 0, u_10.2.1 1] : List (Nat)).getD i 0), (fun i => ([(u_10.2.2.1 0), (u_10.2.2.1 1)] : List (Nat → Int32)).getD i (fun _ => 0)), (fun i => ([(u_10.2.2.2.1 0), (u_10.2.2.2.1 1)] : List (Nat → Int64)).getD i (fun _ => 0)), (fun i => ([] : List (Int64)).getD i 0)) ⟨(show u_10.2.1 0 ≤ 256 by omega), (show u_10.2.1 1 ≤ 256 by omega)⟩ (x_B hP hD) dX10_mean_39
    · skip
      refine lv_ldc2 hx hb S.2.2.2.1 (S.2.2.2.2 _ lkX10_294) dX10_mean_15 ?_
      exact x_retl S hr hlk hQ hS ((fun i => ([] : List (Int32)).getD i 0), (fun i => ([wsize, wnext] : List (Nat)).getD i 0), (fun i => ([f81, f83] : List (Nat → Int32)).getD i (fun _ => 0)), (fun i => ([f82, f84] : List (Nat → Int64)).getD i (fun _ => 0)), (fun i => ([] : List (Int64)).getD i 0)) ⟨(show wsize ≤ 256 by omega), (show wnext ≤ 256 by omega)⟩ (x_B hP hD) dX10_mean_18

set_option maxHeartbeats 4000000 in
set_option maxRecDepth 100000 in
theorem ctX10_say (l : Launch) (D : va_G) (k : Nat → ClassId) (z : Nat → Nat) (o : Nat → Nat) (glines : Int32) (ghours : Nat) (glaw : Int32) (godds : Int32) (grows : Nat) (gheads : Nat) (gsayings : Nat) (gslugs : Nat) (gacts : Nat) (f26 : Nat → Int32) (f27 : Nat → Int32) (f30 : Nat → Int32) (f31 : Nat → Int32) (f33 : Nat → Int32) (f34 : Nat → Int32) (f35 : Nat → Int32) (f69 : Nat → Int32) (f70 : Nat → Int32) (f71 : Nat → Int32) (clawNow : Int32) (charder : Int32) (ctold : Int32) (creply : Int32) (cwet : Int32) (f72 : Nat → Int32) (f74 : Nat → Int32) (f76 : Nat → Int32) (kopener : Int32) (kworth : Int32) (p0 : Int32) (p1 : Int32) (p2 : Int32) (hghours : ghours ≤ 16) (hgrows : grows ≤ 4) (hgheads : gheads ≤ 12) (hgsayings : gsayings ≤ 8) (hgslugs : gslugs ≤ 4) (hgacts : gacts ≤ 30) : MU l yX10_say cX10_say 4 (some .int) 5 D k z [.ref (o 0), .int p0, .int p1, .int p2] [((o 0), .inr (10, [.ref (o 1), .ref (o 2), .ref (o 3), .ref (o 4), .ref (o 5), .ref (o 6), .ref (o 7), .ref (o 8), .ref (o 9), .ref (o 10), .ref (o 11), .ref (o 12), .ref (o 13), .ref (o 14)])), ((o 3), .inr (2, [.int glines, .int (nI ghours), .int glaw, .int godds, .int (nI grows), .int (nI gheads), .int (nI gsayings), .int (nI gslugs), .int (nI gacts), .ref (o 26), .ref (o 27), .ref (o 28), .ref (o 29), .ref (o 30), .ref (o 31), .ref (o 32), .ref (o 33), .ref (o 34), .ref (o 35)])), ((o 26), .inl (k 0, 12, .inl f26)), ((o 27), .inl (k 0, 12, .inl f27)), ((o 30), .inl (k 0, 12, .inl f30)), ((o 31), .inl (k 0, 12, .inl f31)), ((o 33), .inl (k 0, 42, .inl f33)), ((o 34), .inl (k 0, 42, .inl f34)), ((o 35), .inl (k 0, 42, .inl f35)), ((o 4), .inr (3, [.ref (o 69), .ref (o 70), .ref (o 71)])), ((o 69), .inl (k 0, 17, .inl f69)), ((o 70), .inl (k 0, 17, .inl f70)), ((o 71), .inl (k 0, 17, .inl f71)), ((o 5), .inr (1, [.ref (o 3), .ref (o 4), .int clawNow, .int charder, .int ctold, .int creply, .int cwet, .ref (o 72)])), ((o 72), .inl (k 0, 17, .inl f72)), ((o 8), .inr (8, [.ref (o 3), .ref (o 4), .ref (o 6), .ref (o 74), .ref (o 75), .ref (o 76)])), ((o 74), .inl (k 0, 3, .inl f74)), ((o 76), .inl (k 3, 3, .inl f76)), ((o 9), .inr (0, [.ref (o 3), .ref (o 6), .int kopener, .int kworth]))] 0 0 (Ui D (fun (r : Int32) (u : (Nat → Int32) × (Nat → Nat) × (Nat → Nat → Int32) × (Nat → Nat → Int64) × (Nat → Int64)) => (u.2.1 0 ≤ 30)) (fun u : (Nat → Int32) × (Nat → Nat) × (Nat → Nat → Int32) × (Nat → Nat → Int64) × (Nat → Int64) => [((o 0), .inr (10, [.ref (o 1), .ref (o 2), .ref (o 3), .ref (o 4), .ref (o 5), .ref (o 6), .ref (o 7), .ref (o 8), .ref (o 9), .ref (o 10), .ref (o 11), .ref (o 12), .ref (o 13), .ref (o 14)])), ((o 3), .inr (2, [.int glines, .int (nI ghours), .int glaw, .int godds, .int (nI grows), .int (nI gheads), .int (nI gsayings), .int (nI gslugs), .int (nI (u.2.1 0)), .ref (o 26), .ref (o 27), .ref (o 28), .ref (o 29), .ref (o 30), .ref (o 31), .ref (o 32), .ref (o 33), .ref (o 34), .ref (o 35)])), ((o 26), .inl (k 0, 12, .inl f26)), ((o 27), .inl (k 0, 12, .inl f27)), ((o 30), .inl (k 0, 12, .inl f30)), ((o 31), .inl (k 0, 12, .inl f31)), ((o 33), .inl (k 0, 42, .inl (u.2.2.1 0))), ((o 34), .inl (k 0, 42, .inl (u.2.2.1 1))), ((o 35), .inl (k 0, 42, .inl (u.2.2.1 2))), ((o 4), .inr (3, [.ref (o 69), .ref (o 70), .ref (o 71)])), ((o 69), .inl (k 0, 17, .inl (u.2.2.1 3))), ((o 70), .inl (k 0, 17, .inl (u.2.2.1 4))), ((o 71), .inl (k 0, 17, .inl (u.2.2.1 5))), ((o 5), .inr (1, [.ref (o 3), .ref (o 4), .int (u.1 0), .int (u.1 1), .int (u.1 2), .int (u.1 3), .int (u.1 4), .ref (o 72)])), ((o 72), .inl (k 0, 17, .inl (u.2.2.1 6))), ((o 8), .inr (8, [.ref (o 3), .ref (o 4), .ref (o 6), .ref (o 74), .ref (o 75), .ref (o 76)])), ((o 74), .inl (k 0, 3, .inl (u.2.2.1 7))), ((o 76), .inl (k 3, 3, .inl (u.2.2.1 8))), ((o 9), .inr (0, [.ref (o 3), .ref (o 6), .int (u.1 5), .int kworth]))])) := by
  refine MU.of (by decide) (Nat.le_of_ble_eq_true rfl) ?_
  intro p e s m below meth c ls A args Q S hr hlk hnm hQ hK hP hD hZ hA hS hl
  have hx := S.1
  have hb := S.2.1
  have hl : lv_has ls 4 [(0, .ref (o 0)), (1, .int p0), (2, .int p1), (3, .int p2)] := hl
  refine lv_iload_n hx hb dX10_say_0 rfl (lv_at hl 1 rfl) ?_
  refine x_roSi (As := [.int p0]) S hK hP hD hZ (fun _ h => h) hA hS hA hl mwX10_isView lkX10_184 (ctX10_isView l D k z p0 ) [] rfl (by decide) rfl rfl ⟨Nat.le_of_ble_eq_true rfl, Nat.le_of_ble_eq_true rfl, Nat.le_of_ble_eq_true rfl⟩ dX10_say_1 ⟨Nat.le_of_ble_eq_true rfl, Nat.le_of_ble_eq_true rfl⟩ (fun r_1 H locs hr_1 hP hS => ?_)
  have hp_3 := hr_1
  refine lv_if_eq (tgt := 23) hx hb dX10_say_4 (by decide) (fun c_4 => ?_) (fun c_4 => ?_)
  · skip
    refine lv_bipush (v := (-2)) hx hb dX10_say_23 (by decide) ?_
    exact x_reti S hr hlk hQ hS ((fun i => ([clawNow, charder, ctold, creply, cwet, kopener] : List (Int32)).getD i 0), (fun i => ([gacts] : List (Nat)).getD i 0), (fun i => ([f33, f34, f35, f69, f70, f71, f72, f74, f76] : List (Nat → Int32)).getD i (fun _ => 0)), (fun i => ([] : List (Nat → Int64)).getD i (fun _ => 0)), (fun i => ([] : List (Int64)).getD i 0)) (show gacts ≤ 30 by omega) (x_B hP hD) dX10_say_25
  · skip
    obtain ⟨n_5, rfl, hn_5⟩ := hp_3.resolve_left c_4
    refine lv_aload_n hx hb dX10_say_7 rfl (lv_at hl 0 rfl) ?_
    refine lv_iload_n hx hb dX10_say_8 rfl (lv_at hl 2 rfl) ?_
    refine x_roVi (As := [.int p1]) S hK hP hD hZ (fun _ h => h) hA hS hA hl mwX10_isHead lkX10_135 (ctX10_isHead l D k z o glines ghours glaw godds grows gheads gsayings gslugs gacts p1 (by omega) (by omega) (by omega) (by omega) (by omega) (by omega)) [0, 1] rfl (by decide) rfl rfl rfl rfl rfl ⟨Nat.le_of_ble_eq_true rfl, Nat.le_of_ble_eq_true rfl, Nat.le_of_ble_eq_true rfl⟩ dX10_say_9 ⟨Nat.le_of_ble_eq_true rfl, Nat.le_of_ble_eq_true rfl⟩ (fun r_6 H locs hr_6 hP hS => ?_)
    have hp_8 := hr_6
    refine lv_if_eq (tgt := 23) hx hb dX10_say_12 (by decide) (fun c_9 => ?_) (fun c_9 => ?_)
    · skip
      refine lv_bipush (v := (-2)) hx hb dX10_say_23 (by decide) ?_
      exact x_reti S hr hlk hQ hS ((fun i => ([clawNow, charder, ctold, creply, cwet, kopener] : List (Int32)).getD i 0), (fun i => ([gacts] : List (Nat)).getD i 0), (fun i => ([f33, f34, f35, f69, f70, f71, f72, f74, f76] : List (Nat → Int32)).getD i (fun _ => 0)), (fun i => ([] : List (Nat → Int64)).getD i (fun _ => 0)), (fun i => ([] : List (Int64)).getD i 0)) (show gacts ≤ 30 by omega) (x_B hP hD) dX10_say_25
    · skip
      obtain ⟨n_10, rfl, hn_10⟩ := hp_8.resolve_left c_9
      refine lv_aload_n hx hb dX10_say_15 rfl (lv_at hl 0 rfl) ?_
      refine lv_iload_n hx hb dX10_say_16 rfl (lv_at hl 3 rfl) ?_
      refine x_roVi (As := [.int p2]) S hK hP hD hZ (fun _ h => h) hA hS hA hl mwX10_isHour lkX10_161 (ctX10_isHour l D k z o glines ghours glaw godds grows gheads gsayings gslugs gacts p2 (by omega) (by omega) (by omega) (by omega) (by omega) (by omega)) [0, 1] rfl (by decide) rfl rfl rfl rfl rfl ⟨Nat.le_of_ble_eq_true rfl, Nat.le_of_ble_eq_true rfl, Nat.le_of_ble_eq_true rfl⟩ dX10_say_17 ⟨Nat.le_of_ble_eq_true rfl, Nat.le_of_ble_eq_true rfl⟩ (fun r_11 H locs hr_11 hP hS => ?_)
      have hp_13 := hr_11
      refine lv_if_ne (tgt := 26) hx hb dX10_say_20 (by decide) (fun c_14 => ?_) (fun c_14 => ?_)
      · skip
        obtain ⟨n_15, rfl, hn_15⟩ := hp_13.resolve_left c_14
        refine lv_aload_n hx hb dX10_say_26 rfl (lv_at hl 0 rfl) ?_
        refine x_get S hK hP 0 rfl cfX10 2 lkX10_23 (by decide) rfl dX10_say_27 ?_
        refine x_get S hK hP 1 rfl cfX2 8 lkX10_394 (by decide) rfl dX10_say_30 ?_
        refine lv_bipush (v := 30) hx hb dX10_say_33 (by decide) ?_
        refine lv_icmp_lt (tgt := 41) hx hb dX10_say_35 (by decide) (fun c_16 => ?_) (fun c_16 => ?_)
        · skip
          have c_16 : gacts < 30 := (ni_lt rfl (by decide) (by omega) (by omega)).mp c_16
          refine lv_aload_n hx hb dX10_say_41 rfl (lv_at hl 0 rfl) ?_
          refine x_get S hK hP 0 rfl cfX10 2 lkX10_23 (by decide) rfl dX10_say_42 ?_
          refine lv_iload_n hx hb dX10_say_45 rfl (lv_at hl 1 rfl) ?_
          refine lv_iload_n hx hb dX10_say_46 rfl (lv_at hl 2 rfl) ?_
          refine lv_iload_n hx hb dX10_say_47 rfl (lv_at hl 3 rfl) ?_
          refine x_muVv (wr := [((o 0), .inr (10, [.ref (o 1), .ref (o 2), .ref (o 3), .ref (o 4), .ref (o 5), .ref (o 6), .ref (o 7), .ref (o 8), .ref (o 9), .ref (o 10), .ref (o 11), .ref (o 12), .ref (o 13), .ref (o 14)])), ((o 26), .inl (k 0, 12, .inl f26)), ((o 27), .inl (k 0, 12, .inl f27)), ((o 30), .inl (k 0, 12, .inl f30)), ((o 31), .inl (k 0, 12, .inl f31)), ((o 4), .inr (3, [.ref (o 69), .ref (o 70), .ref (o 71)])), ((o 69), .inl (k 0, 17, .inl f69)), ((o 70), .inl (k 0, 17, .inl f70)), ((o 71), .inl (k 0, 17, .inl f71)), ((o 5), .inr (1, [.ref (o 3), .ref (o 4), .int clawNow, .int charder, .int ctold, .int creply, .int cwet, .ref (o 72)])), ((o 72), .inl (k 0, 17, .inl f72)), ((o 8), .inr (8, [.ref (o 3), .ref (o 4), .ref (o 6), .ref (o 74), .ref (o 75), .ref (o 76)])), ((o 74), .inl (k 0, 3, .inl f74)), ((o 76), .inl (k 3, 3, .inl f76)), ((o 9), .inr (0, [.ref (o 3), .ref (o 6), .int kopener, .int kworth]))]) (As := [.int (nI n_5), .int (nI n_10), .int (nI n_15)]) S hK hP hD hZ hS hA hl mwX2_act lkX10_397 (ctX2_act l D k z o glines ghours glaw godds grows gheads gsayings gslugs gacts f33 f34 f35 (nI n_5) (nI n_10) (nI n_15) (by omega) (by omega) (by omega) (by omega) (by omega) (by omega) (by omega)) [1, 6, 7, 8] [0, 2, 3, 4, 5, 9, 10, 11, 12, 13, 14, 15, 16, 17, 18] rfl rfl (by decide) (by decide) (by decide) rfl rfl rfl rfl rfl ⟨Nat.le_of_ble_eq_true rfl, Nat.le_of_ble_eq_true rfl, Nat.le_of_ble_eq_true rfl⟩ dX10_say_48 ⟨Nat.le_of_ble_eq_true rfl, Nat.le_of_ble_eq_true rfl⟩ (fun u_18 H locs hr_17 hP hD hS => ?_)
          have hP : va_P D vwCl [((o 0), .inr (10, [.ref (o 1), .ref (o 2), .ref (o 3), .ref (o 4), .ref (o 5), .ref (o 6), .ref (o 7), .ref (o 8), .ref (o 9), .ref (o 10), .ref (o 11), .ref (o 12), .ref (o 13), .ref (o 14)])), ((o 3), .inr (2, [.int glines, .int (nI ghours), .int glaw, .int godds, .int (nI grows), .int (nI gheads), .int (nI gsayings), .int (nI gslugs), .int (nI (u_18.2.1 0)), .ref (o 26), .ref (o 27), .ref (o 28), .ref (o 29), .ref (o 30), .ref (o 31), .ref (o 32), .ref (o 33), .ref (o 34), .ref (o 35)])), ((o 26), .inl (k 0, 12, .inl f26)), ((o 27), .inl (k 0, 12, .inl f27)), ((o 30), .inl (k 0, 12, .inl f30)), ((o 31), .inl (k 0, 12, .inl f31)), ((o 33), .inl (k 0, 42, .inl (u_18.2.2.1 0))), ((o 34), .inl (k 0, 42, .inl (u_18.2.2.1 1))), ((o 35), .inl (k 0, 42, .inl (u_18.2.2.1 2))), ((o 4), .inr (3, [.ref (o 69), .ref (o 70), .ref (o 71)])), ((o 69), .inl (k 0, 17, .inl f69)), ((o 70), .inl (k 0, 17, .inl f70)), ((o 71), .inl (k 0, 17, .inl f71)), ((o 5), .inr (1, [.ref (o 3), .ref (o 4), .int clawNow, .int charder, .int ctold, .int creply, .int cwet, .ref (o 72)])), ((o 72), .inl (k 0, 17, .inl f72)), ((o 8), .inr (8, [.ref (o 3), .ref (o 4), .ref (o 6), .ref (o 74), .ref (o 75), .ref (o 76)])), ((o 74), .inl (k 0, 3, .inl f74)), ((o 76), .inl (k 3, 3, .inl f76)), ((o 9), .inr (0, [.ref (o 3), .ref (o 6), .int kopener, .int kworth]))] H := hP.sub [0, 15, 1, 2, 3, 4, 16, 17, 18, 5, 6, 7, 8, 9, 10, 11, 12, 13, 14] rfl
          have hD : va_D A [((o 0), .inr (10, [.ref (o 1), .ref (o 2), .ref (o 3), .ref (o 4), .ref (o 5), .ref (o 6), .ref (o 7), .ref (o 8), .ref (o 9), .ref (o 10), .ref (o 11), .ref (o 12), .ref (o 13), .ref (o 14)])), ((o 3), .inr (2, [.int glines, .int (nI ghours), .int glaw, .int godds, .int (nI grows), .int (nI gheads), .int (nI gsayings), .int (nI gslugs), .int (nI (u_18.2.1 0)), .ref (o 26), .ref (o 27), .ref (o 28), .ref (o 29), .ref (o 30), .ref (o 31), .ref (o 32), .ref (o 33), .ref (o 34), .ref (o 35)])), ((o 26), .inl (k 0, 12, .inl f26)), ((o 27), .inl (k 0, 12, .inl f27)), ((o 30), .inl (k 0, 12, .inl f30)), ((o 31), .inl (k 0, 12, .inl f31)), ((o 33), .inl (k 0, 42, .inl (u_18.2.2.1 0))), ((o 34), .inl (k 0, 42, .inl (u_18.2.2.1 1))), ((o 35), .inl (k 0, 42, .inl (u_18.2.2.1 2))), ((o 4), .inr (3, [.ref (o 69), .ref (o 70), .ref (o 71)])), ((o 69), .inl (k 0, 17, .inl f69)), ((o 70), .inl (k 0, 17, .inl f70)), ((o 71), .inl (k 0, 17, .inl f71)), ((o 5), .inr (1, [.ref (o 3), .ref (o 4), .int clawNow, .int charder, .int ctold, .int creply, .int cwet, .ref (o 72)])), ((o 72), .inl (k 0, 17, .inl f72)), ((o 8), .inr (8, [.ref (o 3), .ref (o 4), .ref (o 6), .ref (o 74), .ref (o 75), .ref (o 76)])), ((o 74), .inl (k 0, 3, .inl f74)), ((o 76), .inl (k 3, 3, .inl f76)), ((o 9), .inr (0, [.ref (o 3), .ref (o 6), .int kopener, .int kworth]))] := hD.sub [0, 15, 1, 2, 3, 4, 16, 17, 18, 5, 6, 7, 8, 9, 10, 11, 12, 13, 14] (by decide) rfl
          have hg_19 := hr_17
          refine lv_aload_n hx hb dX10_say_51 rfl (lv_at hl 0 rfl) ?_
          refine x_muVv (wr := []) (As := []) S hK hP hD hZ hS hA hl mwX10_retell lkX10_103 (ctX10_retell l D k z o f69 f70 f71 clawNow charder ctold creply cwet f72 f74 f76 kopener kworth glines ghours glaw godds grows gheads gsayings gslugs (u_18.2.1 0) f26 f27 f30 f31 (u_18.2.2.1 0) (u_18.2.2.1 1) (u_18.2.2.1 2) (by omega) (by omega) (by omega) (by omega) (by omega) (by omega)) [0, 9, 10, 11, 12, 13, 14, 15, 16, 17, 18, 1, 2, 3, 4, 5, 6, 7, 8] [] rfl rfl (by decide) (by decide) (by decide) rfl rfl rfl rfl rfl ⟨Nat.le_of_ble_eq_true rfl, Nat.le_of_ble_eq_true rfl, Nat.le_of_ble_eq_true rfl⟩ dX10_say_52 ⟨Nat.le_of_ble_eq_true rfl, Nat.le_of_ble_eq_true rfl⟩ (fun u_21 H locs hr_20 hP hD hS => ?_)
          have hP : va_P D vwCl [((o 0), .inr (10, [.ref (o 1), .ref (o 2), .ref (o 3), .ref (o 4), .ref (o 5), .ref (o 6), .ref (o 7), .ref (o 8), .ref (o 9), .ref (o 10), .ref (o 11), .ref (o 12), .ref (o 13), .ref (o 14)])), ((o 3), .inr (2, [.int glines, .int (nI ghours), .int glaw, .int godds, .int (nI grows), .int (nI gheads), .int (nI gsayings), .int (nI gslugs), .int (nI (u_18.2.1 0)), .ref (o 26), .ref (o 27), .ref (o 28), .ref (o 29), .ref (o 30), .ref (o 31), .ref (o 32), .ref (o 33), .ref (o 34), .ref (o 35)])), ((o 26), .inl (k 0, 12, .inl f26)), ((o 27), .inl (k 0, 12, .inl f27)), ((o 30), .inl (k 0, 12, .inl f30)), ((o 31), .inl (k 0, 12, .inl f31)), ((o 33), .inl (k 0, 42, .inl (u_18.2.2.1 0))), ((o 34), .inl (k 0, 42, .inl (u_18.2.2.1 1))), ((o 35), .inl (k 0, 42, .inl (u_18.2.2.1 2))), ((o 4), .inr (3, [.ref (o 69), .ref (o 70), .ref (o 71)])), ((o 69), .inl (k 0, 17, .inl (u_21.2.2.1 0))), ((o 70), .inl (k 0, 17, .inl (u_21.2.2.1 1))), ((o 71), .inl (k 0, 17, .inl (u_21.2.2.1 2))), ((o 5), .inr (1, [.ref (o 3), .ref (o 4), .int (u_21.1 0), .int (u_21.1 1), .int (u_21.1 2), .int (u_21.1 3), .int (u_21.1 4), .ref (o 72)])), ((o 72), .inl (k 0, 17, .inl (u_21.2.2.1 3))), ((o 8), .inr (8, [.ref (o 3), .ref (o 4), .ref (o 6), .ref (o 74), .ref (o 75), .ref (o 76)])), ((o 74), .inl (k 0, 3, .inl (u_21.2.2.1 4))), ((o 76), .inl (k 3, 3, .inl (u_21.2.2.1 5))), ((o 9), .inr (0, [.ref (o 3), .ref (o 6), .int (u_21.1 5), .int kworth]))] H := hP.sub [0, 11, 12, 13, 14, 15, 16, 17, 18, 1, 2, 3, 4, 5, 6, 7, 8, 9, 10] rfl
          have hD : va_D A [((o 0), .inr (10, [.ref (o 1), .ref (o 2), .ref (o 3), .ref (o 4), .ref (o 5), .ref (o 6), .ref (o 7), .ref (o 8), .ref (o 9), .ref (o 10), .ref (o 11), .ref (o 12), .ref (o 13), .ref (o 14)])), ((o 3), .inr (2, [.int glines, .int (nI ghours), .int glaw, .int godds, .int (nI grows), .int (nI gheads), .int (nI gsayings), .int (nI gslugs), .int (nI (u_18.2.1 0)), .ref (o 26), .ref (o 27), .ref (o 28), .ref (o 29), .ref (o 30), .ref (o 31), .ref (o 32), .ref (o 33), .ref (o 34), .ref (o 35)])), ((o 26), .inl (k 0, 12, .inl f26)), ((o 27), .inl (k 0, 12, .inl f27)), ((o 30), .inl (k 0, 12, .inl f30)), ((o 31), .inl (k 0, 12, .inl f31)), ((o 33), .inl (k 0, 42, .inl (u_18.2.2.1 0))), ((o 34), .inl (k 0, 42, .inl (u_18.2.2.1 1))), ((o 35), .inl (k 0, 42, .inl (u_18.2.2.1 2))), ((o 4), .inr (3, [.ref (o 69), .ref (o 70), .ref (o 71)])), ((o 69), .inl (k 0, 17, .inl (u_21.2.2.1 0))), ((o 70), .inl (k 0, 17, .inl (u_21.2.2.1 1))), ((o 71), .inl (k 0, 17, .inl (u_21.2.2.1 2))), ((o 5), .inr (1, [.ref (o 3), .ref (o 4), .int (u_21.1 0), .int (u_21.1 1), .int (u_21.1 2), .int (u_21.1 3), .int (u_21.1 4), .ref (o 72)])), ((o 72), .inl (k 0, 17, .inl (u_21.2.2.1 3))), ((o 8), .inr (8, [.ref (o 3), .ref (o 4), .ref (o 6), .ref (o 74), .ref (o 75), .ref (o 76)])), ((o 74), .inl (k 0, 3, .inl (u_21.2.2.1 4))), ((o 76), .inl (k 3, 3, .inl (u_21.2.2.1 5))), ((o 9), .inr (0, [.ref (o 3), .ref (o 6), .int (u_21.1 5), .int kworth]))] := hD.sub [0, 11, 12, 13, 14, 15, 16, 17, 18, 1, 2, 3, 4, 5, 6, 7, 8, 9, 10] (by decide) rfl
          refine lv_aload_n hx hb dX10_say_55 rfl (lv_at hl 0 rfl) ?_
          refine x_get S hK hP 0 rfl cfX10 4 lkX10_38 (by decide) rfl dX10_say_56 ?_
          refine x_roVi (As := []) S hK hP hD hZ (fun _ h => h) hA hS hA hl mwX1_lastState lkX10_362 (ctX1_lastState_c l D k z o (u_21.1 0) (u_21.1 1) (u_21.1 2) (u_21.1 3) (u_21.1 4) (u_21.2.2.1 3) (u_21.2.2.1 0) (u_21.2.2.1 1) (u_21.2.2.1 2) glines ghours glaw godds grows gheads gsayings gslugs (u_18.2.1 0) f26 f30 f31 (by omega) (by omega) (by omega) (by omega) (by omega) (by omega)) [13, 14, 9, 10, 11, 12, 1, 2, 4, 5] rfl (by decide) rfl rfl rfl rfl rfl ⟨Nat.le_of_ble_eq_true rfl, Nat.le_of_ble_eq_true rfl, Nat.le_of_ble_eq_true rfl⟩ dX10_say_59 ⟨Nat.le_of_ble_eq_true rfl, Nat.le_of_ble_eq_true rfl⟩ (fun r_22 H locs hr_22 hP hS => ?_)
          refine lv_iload_n hx hb dX10_say_62 rfl (lv_at hl 1 rfl) ?_
          refine x_roSi (As := [.int r_22, .int (nI n_5)]) S hK hP hD hZ (fun _ h => h) hA hS hA hl mwX10_holdersIn lkX10_365 (ctX10_holdersIn l D k z r_22 (nI n_5) ) [] rfl (by decide) rfl rfl ⟨Nat.le_of_ble_eq_true rfl, Nat.le_of_ble_eq_true rfl, Nat.le_of_ble_eq_true rfl⟩ dX10_say_63 ⟨Nat.le_of_ble_eq_true rfl, Nat.le_of_ble_eq_true rfl⟩ (fun r_24 H locs hr_24 hP hS => ?_)
          refine x_roSi (As := [.int r_24]) S hK hP hD hZ (fun _ h => h) hA hS hA hl mwJ6_bitCount_0f7a4 lkX10_277 (ctJ6_bitCount_0f7a4 l D k z r_24 ) [] rfl (by decide) rfl rfl ⟨Nat.le_of_ble_eq_true rfl, Nat.le_of_ble_eq_true rfl, Nat.le_of_ble_eq_true rfl⟩ dX10_say_66 ⟨Nat.le_of_ble_eq_true rfl, Nat.le_of_ble_eq_true rfl⟩ (fun r_26 H locs hr_26 hP hS => ?_)
          obtain ⟨n_28, rfl, hn_28⟩ := hr_26
          exact x_reti S hr hlk hQ hS ((fun i => ([(u_21.1 0), (u_21.1 1), (u_21.1 2), (u_21.1 3), (u_21.1 4), (u_21.1 5)] : List (Int32)).getD i 0), (fun i => ([u_18.2.1 0] : List (Nat)).getD i 0), (fun i => ([(u_18.2.2.1 0), (u_18.2.2.1 1), (u_18.2.2.1 2), (u_21.2.2.1 0), (u_21.2.2.1 1), (u_21.2.2.1 2), (u_21.2.2.1 3), (u_21.2.2.1 4), (u_21.2.2.1 5)] : List (Nat → Int32)).getD i (fun _ => 0)), (fun i => ([] : List (Nat → Int64)).getD i (fun _ => 0)), (fun i => ([] : List (Int64)).getD i 0)) (show u_18.2.1 0 ≤ 30 by omega) (x_B hP hD) dX10_say_69
        · skip
          have c_16 : ¬ gacts < 30 := fun q => c_16 ((ni_lt rfl (by decide) (by omega) (by omega)).mpr q)
          refine lv_bipush (v := (-5)) hx hb dX10_say_38 (by decide) ?_
          exact x_reti S hr hlk hQ hS ((fun i => ([clawNow, charder, ctold, creply, cwet, kopener] : List (Int32)).getD i 0), (fun i => ([gacts] : List (Nat)).getD i 0), (fun i => ([f33, f34, f35, f69, f70, f71, f72, f74, f76] : List (Nat → Int32)).getD i (fun _ => 0)), (fun i => ([] : List (Nat → Int64)).getD i (fun _ => 0)), (fun i => ([] : List (Int64)).getD i 0)) (show gacts ≤ 30 by omega) (x_B hP hD) dX10_say_40
      · skip
        refine lv_bipush (v := (-2)) hx hb dX10_say_23 (by decide) ?_
        exact x_reti S hr hlk hQ hS ((fun i => ([clawNow, charder, ctold, creply, cwet, kopener] : List (Int32)).getD i 0), (fun i => ([gacts] : List (Nat)).getD i 0), (fun i => ([f33, f34, f35, f69, f70, f71, f72, f74, f76] : List (Nat → Int32)).getD i (fun _ => 0)), (fun i => ([] : List (Nat → Int64)).getD i (fun _ => 0)), (fun i => ([] : List (Int64)).getD i 0)) (show gacts ≤ 30 by omega) (x_B hP hD) dX10_say_25

set_option maxHeartbeats 4000000 in
set_option maxRecDepth 100000 in
theorem ctX10_slug (l : Launch) (D : va_G) (k : Nat → ClassId) (z : Nat → Nat) (o : Nat → Nat) (glines : Int32) (ghours : Nat) (glaw : Int32) (godds : Int32) (grows : Nat) (gheads : Nat) (gsayings : Nat) (gslugs : Nat) (gacts : Nat) (f26 : Nat → Int32) (f27 : Nat → Int32) (f30 : Nat → Int32) (f31 : Nat → Int32) (f33 : Nat → Int32) (f34 : Nat → Int32) (f35 : Nat → Int32) (f69 : Nat → Int32) (f70 : Nat → Int32) (f71 : Nat → Int32) (clawNow : Int32) (charder : Int32) (ctold : Int32) (creply : Int32) (cwet : Int32) (f72 : Nat → Int32) (f74 : Nat → Int32) (f76 : Nat → Int32) (kopener : Int32) (kworth : Int32) (p0 : Int32) (p1 : Int32) (hghours : ghours ≤ 16) (hgrows : grows ≤ 4) (hgheads : gheads ≤ 12) (hgsayings : gsayings ≤ 8) (hgslugs : gslugs ≤ 4) (hgacts : gacts ≤ 30) : MU l yX10_slug cX10_slug 3 (some .int) 5 D k z [.ref (o 0), .int p0, .int p1] [((o 0), .inr (10, [.ref (o 1), .ref (o 2), .ref (o 3), .ref (o 4), .ref (o 5), .ref (o 6), .ref (o 7), .ref (o 8), .ref (o 9), .ref (o 10), .ref (o 11), .ref (o 12), .ref (o 13), .ref (o 14)])), ((o 3), .inr (2, [.int glines, .int (nI ghours), .int glaw, .int godds, .int (nI grows), .int (nI gheads), .int (nI gsayings), .int (nI gslugs), .int (nI gacts), .ref (o 26), .ref (o 27), .ref (o 28), .ref (o 29), .ref (o 30), .ref (o 31), .ref (o 32), .ref (o 33), .ref (o 34), .ref (o 35)])), ((o 26), .inl (k 0, 12, .inl f26)), ((o 27), .inl (k 0, 12, .inl f27)), ((o 30), .inl (k 0, 12, .inl f30)), ((o 31), .inl (k 0, 12, .inl f31)), ((o 33), .inl (k 0, 42, .inl f33)), ((o 34), .inl (k 0, 42, .inl f34)), ((o 35), .inl (k 0, 42, .inl f35)), ((o 4), .inr (3, [.ref (o 69), .ref (o 70), .ref (o 71)])), ((o 69), .inl (k 0, 17, .inl f69)), ((o 70), .inl (k 0, 17, .inl f70)), ((o 71), .inl (k 0, 17, .inl f71)), ((o 5), .inr (1, [.ref (o 3), .ref (o 4), .int clawNow, .int charder, .int ctold, .int creply, .int cwet, .ref (o 72)])), ((o 72), .inl (k 0, 17, .inl f72)), ((o 8), .inr (8, [.ref (o 3), .ref (o 4), .ref (o 6), .ref (o 74), .ref (o 75), .ref (o 76)])), ((o 74), .inl (k 0, 3, .inl f74)), ((o 76), .inl (k 3, 3, .inl f76)), ((o 9), .inr (0, [.ref (o 3), .ref (o 6), .int kopener, .int kworth]))] 0 0 (Ui D (fun (r : Int32) (u : (Nat → Int32) × (Nat → Nat) × (Nat → Nat → Int32) × (Nat → Nat → Int64) × (Nat → Int64)) => (u.2.1 0 ≤ 30)) (fun u : (Nat → Int32) × (Nat → Nat) × (Nat → Nat → Int32) × (Nat → Nat → Int64) × (Nat → Int64) => [((o 0), .inr (10, [.ref (o 1), .ref (o 2), .ref (o 3), .ref (o 4), .ref (o 5), .ref (o 6), .ref (o 7), .ref (o 8), .ref (o 9), .ref (o 10), .ref (o 11), .ref (o 12), .ref (o 13), .ref (o 14)])), ((o 3), .inr (2, [.int glines, .int (nI ghours), .int glaw, .int godds, .int (nI grows), .int (nI gheads), .int (nI gsayings), .int (nI gslugs), .int (nI (u.2.1 0)), .ref (o 26), .ref (o 27), .ref (o 28), .ref (o 29), .ref (o 30), .ref (o 31), .ref (o 32), .ref (o 33), .ref (o 34), .ref (o 35)])), ((o 26), .inl (k 0, 12, .inl f26)), ((o 27), .inl (k 0, 12, .inl f27)), ((o 30), .inl (k 0, 12, .inl f30)), ((o 31), .inl (k 0, 12, .inl f31)), ((o 33), .inl (k 0, 42, .inl (u.2.2.1 0))), ((o 34), .inl (k 0, 42, .inl (u.2.2.1 1))), ((o 35), .inl (k 0, 42, .inl (u.2.2.1 2))), ((o 4), .inr (3, [.ref (o 69), .ref (o 70), .ref (o 71)])), ((o 69), .inl (k 0, 17, .inl (u.2.2.1 3))), ((o 70), .inl (k 0, 17, .inl (u.2.2.1 4))), ((o 71), .inl (k 0, 17, .inl (u.2.2.1 5))), ((o 5), .inr (1, [.ref (o 3), .ref (o 4), .int (u.1 0), .int (u.1 1), .int (u.1 2), .int (u.1 3), .int (u.1 4), .ref (o 72)])), ((o 72), .inl (k 0, 17, .inl (u.2.2.1 6))), ((o 8), .inr (8, [.ref (o 3), .ref (o 4), .ref (o 6), .ref (o 74), .ref (o 75), .ref (o 76)])), ((o 74), .inl (k 0, 3, .inl (u.2.2.1 7))), ((o 76), .inl (k 3, 3, .inl (u.2.2.1 8))), ((o 9), .inr (0, [.ref (o 3), .ref (o 6), .int (u.1 5), .int kworth]))])) := by
  refine MU.of (by decide) (Nat.le_of_ble_eq_true rfl) ?_
  intro p e s m below meth c ls A args Q S hr hlk hnm hQ hK hP hD hZ hA hS hl
  have hx := S.1
  have hb := S.2.1
  have hl : lv_has ls 3 [(0, .ref (o 0)), (1, .int p0), (2, .int p1)] := hl
  refine lv_aload_n hx hb dX10_slug_0 rfl (lv_at hl 0 rfl) ?_
  refine lv_iload_n hx hb dX10_slug_1 rfl (lv_at hl 1 rfl) ?_
  refine x_roVi (As := [.int p0]) S hK hP hD hZ (fun _ h => h) hA hS hA hl mwX10_isHead lkX10_135 (ctX10_isHead l D k z o glines ghours glaw godds grows gheads gsayings gslugs gacts p0 (by omega) (by omega) (by omega) (by omega) (by omega) (by omega)) [0, 1] rfl (by decide) rfl rfl rfl rfl rfl ⟨Nat.le_of_ble_eq_true rfl, Nat.le_of_ble_eq_true rfl, Nat.le_of_ble_eq_true rfl⟩ dX10_slug_2 ⟨Nat.le_of_ble_eq_true rfl, Nat.le_of_ble_eq_true rfl⟩ (fun r_1 H locs hr_1 hP hS => ?_)
  have hp_3 := hr_1
  refine lv_if_eq (tgt := 16) hx hb dX10_slug_5 (by decide) (fun c_4 => ?_) (fun c_4 => ?_)
  · skip
    refine lv_bipush (v := (-2)) hx hb dX10_slug_16 (by decide) ?_
    exact x_reti S hr hlk hQ hS ((fun i => ([clawNow, charder, ctold, creply, cwet, kopener] : List (Int32)).getD i 0), (fun i => ([gacts] : List (Nat)).getD i 0), (fun i => ([f33, f34, f35, f69, f70, f71, f72, f74, f76] : List (Nat → Int32)).getD i (fun _ => 0)), (fun i => ([] : List (Nat → Int64)).getD i (fun _ => 0)), (fun i => ([] : List (Int64)).getD i 0)) (show gacts ≤ 30 by omega) (x_B hP hD) dX10_slug_18
  · skip
    obtain ⟨n_5, rfl, hn_5⟩ := hp_3.resolve_left c_4
    refine lv_aload_n hx hb dX10_slug_8 rfl (lv_at hl 0 rfl) ?_
    refine lv_iload_n hx hb dX10_slug_9 rfl (lv_at hl 2 rfl) ?_
    refine x_roVi (As := [.int p1]) S hK hP hD hZ (fun _ h => h) hA hS hA hl mwX10_isHour lkX10_161 (ctX10_isHour l D k z o glines ghours glaw godds grows gheads gsayings gslugs gacts p1 (by omega) (by omega) (by omega) (by omega) (by omega) (by omega)) [0, 1] rfl (by decide) rfl rfl rfl rfl rfl ⟨Nat.le_of_ble_eq_true rfl, Nat.le_of_ble_eq_true rfl, Nat.le_of_ble_eq_true rfl⟩ dX10_slug_10 ⟨Nat.le_of_ble_eq_true rfl, Nat.le_of_ble_eq_true rfl⟩ (fun r_6 H locs hr_6 hP hS => ?_)
    have hp_8 := hr_6
    refine lv_if_ne (tgt := 19) hx hb dX10_slug_13 (by decide) (fun c_9 => ?_) (fun c_9 => ?_)
    · skip
      obtain ⟨n_10, rfl, hn_10⟩ := hp_8.resolve_left c_9
      refine lv_aload_n hx hb dX10_slug_19 rfl (lv_at hl 0 rfl) ?_
      refine x_get S hK hP 0 rfl cfX10 2 lkX10_23 (by decide) rfl dX10_slug_20 ?_
      refine x_get S hK hP 1 rfl cfX2 8 lkX10_394 (by decide) rfl dX10_slug_23 ?_
      refine lv_bipush (v := 30) hx hb dX10_slug_26 (by decide) ?_
      refine lv_icmp_lt (tgt := 34) hx hb dX10_slug_28 (by decide) (fun c_11 => ?_) (fun c_11 => ?_)
      · skip
        have c_11 : gacts < 30 := (ni_lt rfl (by decide) (by omega) (by omega)).mp c_11
        refine lv_aload_n hx hb dX10_slug_34 rfl (lv_at hl 0 rfl) ?_
        refine x_get S hK hP 0 rfl cfX10 2 lkX10_23 (by decide) rfl dX10_slug_35 ?_
        refine lv_iconst (v := 0) hx hb dX10_slug_38 (by decide) ?_
        refine lv_iload_n hx hb dX10_slug_39 rfl (lv_at hl 1 rfl) ?_
        refine lv_iload_n hx hb dX10_slug_40 rfl (lv_at hl 2 rfl) ?_
        refine x_muVv (wr := [((o 0), .inr (10, [.ref (o 1), .ref (o 2), .ref (o 3), .ref (o 4), .ref (o 5), .ref (o 6), .ref (o 7), .ref (o 8), .ref (o 9), .ref (o 10), .ref (o 11), .ref (o 12), .ref (o 13), .ref (o 14)])), ((o 26), .inl (k 0, 12, .inl f26)), ((o 27), .inl (k 0, 12, .inl f27)), ((o 30), .inl (k 0, 12, .inl f30)), ((o 31), .inl (k 0, 12, .inl f31)), ((o 4), .inr (3, [.ref (o 69), .ref (o 70), .ref (o 71)])), ((o 69), .inl (k 0, 17, .inl f69)), ((o 70), .inl (k 0, 17, .inl f70)), ((o 71), .inl (k 0, 17, .inl f71)), ((o 5), .inr (1, [.ref (o 3), .ref (o 4), .int clawNow, .int charder, .int ctold, .int creply, .int cwet, .ref (o 72)])), ((o 72), .inl (k 0, 17, .inl f72)), ((o 8), .inr (8, [.ref (o 3), .ref (o 4), .ref (o 6), .ref (o 74), .ref (o 75), .ref (o 76)])), ((o 74), .inl (k 0, 3, .inl f74)), ((o 76), .inl (k 3, 3, .inl f76)), ((o 9), .inr (0, [.ref (o 3), .ref (o 6), .int kopener, .int kworth]))]) (As := [.int 0, .int (nI n_5), .int (nI n_10)]) S hK hP hD hZ hS hA hl mwX2_act lkX10_397 (ctX2_act l D k z o glines ghours glaw godds grows gheads gsayings gslugs gacts f33 f34 f35 0 (nI n_5) (nI n_10) (by omega) (by omega) (by omega) (by omega) (by omega) (by omega) (by omega)) [1, 6, 7, 8] [0, 2, 3, 4, 5, 9, 10, 11, 12, 13, 14, 15, 16, 17, 18] rfl rfl (by decide) (by decide) (by decide) rfl rfl rfl rfl rfl ⟨Nat.le_of_ble_eq_true rfl, Nat.le_of_ble_eq_true rfl, Nat.le_of_ble_eq_true rfl⟩ dX10_slug_41 ⟨Nat.le_of_ble_eq_true rfl, Nat.le_of_ble_eq_true rfl⟩ (fun u_13 H locs hr_12 hP hD hS => ?_)
        have hP : va_P D vwCl [((o 0), .inr (10, [.ref (o 1), .ref (o 2), .ref (o 3), .ref (o 4), .ref (o 5), .ref (o 6), .ref (o 7), .ref (o 8), .ref (o 9), .ref (o 10), .ref (o 11), .ref (o 12), .ref (o 13), .ref (o 14)])), ((o 3), .inr (2, [.int glines, .int (nI ghours), .int glaw, .int godds, .int (nI grows), .int (nI gheads), .int (nI gsayings), .int (nI gslugs), .int (nI (u_13.2.1 0)), .ref (o 26), .ref (o 27), .ref (o 28), .ref (o 29), .ref (o 30), .ref (o 31), .ref (o 32), .ref (o 33), .ref (o 34), .ref (o 35)])), ((o 26), .inl (k 0, 12, .inl f26)), ((o 27), .inl (k 0, 12, .inl f27)), ((o 30), .inl (k 0, 12, .inl f30)), ((o 31), .inl (k 0, 12, .inl f31)), ((o 33), .inl (k 0, 42, .inl (u_13.2.2.1 0))), ((o 34), .inl (k 0, 42, .inl (u_13.2.2.1 1))), ((o 35), .inl (k 0, 42, .inl (u_13.2.2.1 2))), ((o 4), .inr (3, [.ref (o 69), .ref (o 70), .ref (o 71)])), ((o 69), .inl (k 0, 17, .inl f69)), ((o 70), .inl (k 0, 17, .inl f70)), ((o 71), .inl (k 0, 17, .inl f71)), ((o 5), .inr (1, [.ref (o 3), .ref (o 4), .int clawNow, .int charder, .int ctold, .int creply, .int cwet, .ref (o 72)])), ((o 72), .inl (k 0, 17, .inl f72)), ((o 8), .inr (8, [.ref (o 3), .ref (o 4), .ref (o 6), .ref (o 74), .ref (o 75), .ref (o 76)])), ((o 74), .inl (k 0, 3, .inl f74)), ((o 76), .inl (k 3, 3, .inl f76)), ((o 9), .inr (0, [.ref (o 3), .ref (o 6), .int kopener, .int kworth]))] H := hP.sub [0, 15, 1, 2, 3, 4, 16, 17, 18, 5, 6, 7, 8, 9, 10, 11, 12, 13, 14] rfl
        have hD : va_D A [((o 0), .inr (10, [.ref (o 1), .ref (o 2), .ref (o 3), .ref (o 4), .ref (o 5), .ref (o 6), .ref (o 7), .ref (o 8), .ref (o 9), .ref (o 10), .ref (o 11), .ref (o 12), .ref (o 13), .ref (o 14)])), ((o 3), .inr (2, [.int glines, .int (nI ghours), .int glaw, .int godds, .int (nI grows), .int (nI gheads), .int (nI gsayings), .int (nI gslugs), .int (nI (u_13.2.1 0)), .ref (o 26), .ref (o 27), .ref (o 28), .ref (o 29), .ref (o 30), .ref (o 31), .ref (o 32), .ref (o 33), .ref (o 34), .ref (o 35)])), ((o 26), .inl (k 0, 12, .inl f26)), ((o 27), .inl (k 0, 12, .inl f27)), ((o 30), .inl (k 0, 12, .inl f30)), ((o 31), .inl (k 0, 12, .inl f31)), ((o 33), .inl (k 0, 42, .inl (u_13.2.2.1 0))), ((o 34), .inl (k 0, 42, .inl (u_13.2.2.1 1))), ((o 35), .inl (k 0, 42, .inl (u_13.2.2.1 2))), ((o 4), .inr (3, [.ref (o 69), .ref (o 70), .ref (o 71)])), ((o 69), .inl (k 0, 17, .inl f69)), ((o 70), .inl (k 0, 17, .inl f70)), ((o 71), .inl (k 0, 17, .inl f71)), ((o 5), .inr (1, [.ref (o 3), .ref (o 4), .int clawNow, .int charder, .int ctold, .int creply, .int cwet, .ref (o 72)])), ((o 72), .inl (k 0, 17, .inl f72)), ((o 8), .inr (8, [.ref (o 3), .ref (o 4), .ref (o 6), .ref (o 74), .ref (o 75), .ref (o 76)])), ((o 74), .inl (k 0, 3, .inl f74)), ((o 76), .inl (k 3, 3, .inl f76)), ((o 9), .inr (0, [.ref (o 3), .ref (o 6), .int kopener, .int kworth]))] := hD.sub [0, 15, 1, 2, 3, 4, 16, 17, 18, 5, 6, 7, 8, 9, 10, 11, 12, 13, 14] (by decide) rfl
        have hg_14 := hr_12
        refine lv_aload_n hx hb dX10_slug_44 rfl (lv_at hl 0 rfl) ?_
        refine x_muVv (wr := []) (As := []) S hK hP hD hZ hS hA hl mwX10_retell lkX10_103 (ctX10_retell l D k z o f69 f70 f71 clawNow charder ctold creply cwet f72 f74 f76 kopener kworth glines ghours glaw godds grows gheads gsayings gslugs (u_13.2.1 0) f26 f27 f30 f31 (u_13.2.2.1 0) (u_13.2.2.1 1) (u_13.2.2.1 2) (by omega) (by omega) (by omega) (by omega) (by omega) (by omega)) [0, 9, 10, 11, 12, 13, 14, 15, 16, 17, 18, 1, 2, 3, 4, 5, 6, 7, 8] [] rfl rfl (by decide) (by decide) (by decide) rfl rfl rfl rfl rfl ⟨Nat.le_of_ble_eq_true rfl, Nat.le_of_ble_eq_true rfl, Nat.le_of_ble_eq_true rfl⟩ dX10_slug_45 ⟨Nat.le_of_ble_eq_true rfl, Nat.le_of_ble_eq_true rfl⟩ (fun u_16 H locs hr_15 hP hD hS => ?_)
        have hP : va_P D vwCl [((o 0), .inr (10, [.ref (o 1), .ref (o 2), .ref (o 3), .ref (o 4), .ref (o 5), .ref (o 6), .ref (o 7), .ref (o 8), .ref (o 9), .ref (o 10), .ref (o 11), .ref (o 12), .ref (o 13), .ref (o 14)])), ((o 3), .inr (2, [.int glines, .int (nI ghours), .int glaw, .int godds, .int (nI grows), .int (nI gheads), .int (nI gsayings), .int (nI gslugs), .int (nI (u_13.2.1 0)), .ref (o 26), .ref (o 27), .ref (o 28), .ref (o 29), .ref (o 30), .ref (o 31), .ref (o 32), .ref (o 33), .ref (o 34), .ref (o 35)])), ((o 26), .inl (k 0, 12, .inl f26)), ((o 27), .inl (k 0, 12, .inl f27)), ((o 30), .inl (k 0, 12, .inl f30)), ((o 31), .inl (k 0, 12, .inl f31)), ((o 33), .inl (k 0, 42, .inl (u_13.2.2.1 0))), ((o 34), .inl (k 0, 42, .inl (u_13.2.2.1 1))), ((o 35), .inl (k 0, 42, .inl (u_13.2.2.1 2))), ((o 4), .inr (3, [.ref (o 69), .ref (o 70), .ref (o 71)])), ((o 69), .inl (k 0, 17, .inl (u_16.2.2.1 0))), ((o 70), .inl (k 0, 17, .inl (u_16.2.2.1 1))), ((o 71), .inl (k 0, 17, .inl (u_16.2.2.1 2))), ((o 5), .inr (1, [.ref (o 3), .ref (o 4), .int (u_16.1 0), .int (u_16.1 1), .int (u_16.1 2), .int (u_16.1 3), .int (u_16.1 4), .ref (o 72)])), ((o 72), .inl (k 0, 17, .inl (u_16.2.2.1 3))), ((o 8), .inr (8, [.ref (o 3), .ref (o 4), .ref (o 6), .ref (o 74), .ref (o 75), .ref (o 76)])), ((o 74), .inl (k 0, 3, .inl (u_16.2.2.1 4))), ((o 76), .inl (k 3, 3, .inl (u_16.2.2.1 5))), ((o 9), .inr (0, [.ref (o 3), .ref (o 6), .int (u_16.1 5), .int kworth]))] H := hP.sub [0, 11, 12, 13, 14, 15, 16, 17, 18, 1, 2, 3, 4, 5, 6, 7, 8, 9, 10] rfl
        have hD : va_D A [((o 0), .inr (10, [.ref (o 1), .ref (o 2), .ref (o 3), .ref (o 4), .ref (o 5), .ref (o 6), .ref (o 7), .ref (o 8), .ref (o 9), .ref (o 10), .ref (o 11), .ref (o 12), .ref (o 13), .ref (o 14)])), ((o 3), .inr (2, [.int glines, .int (nI ghours), .int glaw, .int godds, .int (nI grows), .int (nI gheads), .int (nI gsayings), .int (nI gslugs), .int (nI (u_13.2.1 0)), .ref (o 26), .ref (o 27), .ref (o 28), .ref (o 29), .ref (o 30), .ref (o 31), .ref (o 32), .ref (o 33), .ref (o 34), .ref (o 35)])), ((o 26), .inl (k 0, 12, .inl f26)), ((o 27), .inl (k 0, 12, .inl f27)), ((o 30), .inl (k 0, 12, .inl f30)), ((o 31), .inl (k 0, 12, .inl f31)), ((o 33), .inl (k 0, 42, .inl (u_13.2.2.1 0))), ((o 34), .inl (k 0, 42, .inl (u_13.2.2.1 1))), ((o 35), .inl (k 0, 42, .inl (u_13.2.2.1 2))), ((o 4), .inr (3, [.ref (o 69), .ref (o 70), .ref (o 71)])), ((o 69), .inl (k 0, 17, .inl (u_16.2.2.1 0))), ((o 70), .inl (k 0, 17, .inl (u_16.2.2.1 1))), ((o 71), .inl (k 0, 17, .inl (u_16.2.2.1 2))), ((o 5), .inr (1, [.ref (o 3), .ref (o 4), .int (u_16.1 0), .int (u_16.1 1), .int (u_16.1 2), .int (u_16.1 3), .int (u_16.1 4), .ref (o 72)])), ((o 72), .inl (k 0, 17, .inl (u_16.2.2.1 3))), ((o 8), .inr (8, [.ref (o 3), .ref (o 4), .ref (o 6), .ref (o 74), .ref (o 75), .ref (o 76)])), ((o 74), .inl (k 0, 3, .inl (u_16.2.2.1 4))), ((o 76), .inl (k 3, 3, .inl (u_16.2.2.1 5))), ((o 9), .inr (0, [.ref (o 3), .ref (o 6), .int (u_16.1 5), .int kworth]))] := hD.sub [0, 11, 12, 13, 14, 15, 16, 17, 18, 1, 2, 3, 4, 5, 6, 7, 8, 9, 10] (by decide) rfl
        refine lv_aload_n hx hb dX10_slug_48 rfl (lv_at hl 0 rfl) ?_
        refine x_get S hK hP 0 rfl cfX10 3 lkX10_29 (by decide) rfl dX10_slug_49 ?_
        refine x_get S hK hP 9 rfl cfX3 1 lkX10_174 (by decide) rfl dX10_slug_52 ?_
        refine lv_aload_n hx hb dX10_slug_55 rfl (lv_at hl 0 rfl) ?_
        refine x_get S hK hP 0 rfl cfX10 2 lkX10_23 (by decide) rfl dX10_slug_56 ?_
        refine x_get S hK hP 1 rfl cfX2 1 lkX10_401 (by decide) rfl dX10_slug_59 ?_
        refine x_iald S hK hP 11 rfl (vp_in_nI (by omega) (by decide)) dX10_slug_62 ?_
        refine lv_topi (fun v_17 ev_17 => ?_)
        exact x_reti S hr hlk hQ hS ((fun i => ([(u_16.1 0), (u_16.1 1), (u_16.1 2), (u_16.1 3), (u_16.1 4), (u_16.1 5)] : List (Int32)).getD i 0), (fun i => ([u_13.2.1 0] : List (Nat)).getD i 0), (fun i => ([(u_13.2.2.1 0), (u_13.2.2.1 1), (u_13.2.2.1 2), (u_16.2.2.1 0), (u_16.2.2.1 1), (u_16.2.2.1 2), (u_16.2.2.1 3), (u_16.2.2.1 4), (u_16.2.2.1 5)] : List (Nat → Int32)).getD i (fun _ => 0)), (fun i => ([] : List (Nat → Int64)).getD i (fun _ => 0)), (fun i => ([] : List (Int64)).getD i 0)) (show u_13.2.1 0 ≤ 30 by omega) (x_B hP hD) dX10_slug_63
      · skip
        have c_11 : ¬ gacts < 30 := fun q => c_11 ((ni_lt rfl (by decide) (by omega) (by omega)).mpr q)
        refine lv_bipush (v := (-5)) hx hb dX10_slug_31 (by decide) ?_
        exact x_reti S hr hlk hQ hS ((fun i => ([clawNow, charder, ctold, creply, cwet, kopener] : List (Int32)).getD i 0), (fun i => ([gacts] : List (Nat)).getD i 0), (fun i => ([f33, f34, f35, f69, f70, f71, f72, f74, f76] : List (Nat → Int32)).getD i (fun _ => 0)), (fun i => ([] : List (Nat → Int64)).getD i (fun _ => 0)), (fun i => ([] : List (Int64)).getD i 0)) (show gacts ≤ 30 by omega) (x_B hP hD) dX10_slug_33
    · skip
      refine lv_bipush (v := (-2)) hx hb dX10_slug_16 (by decide) ?_
      exact x_reti S hr hlk hQ hS ((fun i => ([clawNow, charder, ctold, creply, cwet, kopener] : List (Int32)).getD i 0), (fun i => ([gacts] : List (Nat)).getD i 0), (fun i => ([f33, f34, f35, f69, f70, f71, f72, f74, f76] : List (Nat → Int32)).getD i (fun _ => 0)), (fun i => ([] : List (Nat → Int64)).getD i (fun _ => 0)), (fun i => ([] : List (Int64)).getD i 0)) (show gacts ≤ 30 by omega) (x_B hP hD) dX10_slug_18

set_option maxHeartbeats 4000000 in
set_option maxRecDepth 100000 in
theorem ctX10_undo (l : Launch) (D : va_G) (k : Nat → ClassId) (z : Nat → Nat) (o : Nat → Nat) (glines : Int32) (ghours : Nat) (glaw : Int32) (godds : Int32) (grows : Nat) (gheads : Nat) (gsayings : Nat) (gslugs : Nat) (gacts : Nat) (f26 : Nat → Int32) (f27 : Nat → Int32) (f30 : Nat → Int32) (f31 : Nat → Int32) (f33 : Nat → Int32) (f34 : Nat → Int32) (f35 : Nat → Int32) (f69 : Nat → Int32) (f70 : Nat → Int32) (f71 : Nat → Int32) (clawNow : Int32) (charder : Int32) (ctold : Int32) (creply : Int32) (cwet : Int32) (f72 : Nat → Int32) (f74 : Nat → Int32) (f76 : Nat → Int32) (kopener : Int32) (kworth : Int32) (hghours : ghours ≤ 16) (hgrows : grows ≤ 4) (hgheads : gheads ≤ 12) (hgsayings : gsayings ≤ 8) (hgslugs : gslugs ≤ 4) (hgacts : gacts ≤ 30) : MU l yX10_undo cX10_undo 1 (some .int) 5 D k z [.ref (o 0)] [((o 0), .inr (10, [.ref (o 1), .ref (o 2), .ref (o 3), .ref (o 4), .ref (o 5), .ref (o 6), .ref (o 7), .ref (o 8), .ref (o 9), .ref (o 10), .ref (o 11), .ref (o 12), .ref (o 13), .ref (o 14)])), ((o 3), .inr (2, [.int glines, .int (nI ghours), .int glaw, .int godds, .int (nI grows), .int (nI gheads), .int (nI gsayings), .int (nI gslugs), .int (nI gacts), .ref (o 26), .ref (o 27), .ref (o 28), .ref (o 29), .ref (o 30), .ref (o 31), .ref (o 32), .ref (o 33), .ref (o 34), .ref (o 35)])), ((o 26), .inl (k 0, 12, .inl f26)), ((o 27), .inl (k 0, 12, .inl f27)), ((o 30), .inl (k 0, 12, .inl f30)), ((o 31), .inl (k 0, 12, .inl f31)), ((o 33), .inl (k 0, 42, .inl f33)), ((o 34), .inl (k 0, 42, .inl f34)), ((o 35), .inl (k 0, 42, .inl f35)), ((o 4), .inr (3, [.ref (o 69), .ref (o 70), .ref (o 71)])), ((o 69), .inl (k 0, 17, .inl f69)), ((o 70), .inl (k 0, 17, .inl f70)), ((o 71), .inl (k 0, 17, .inl f71)), ((o 5), .inr (1, [.ref (o 3), .ref (o 4), .int clawNow, .int charder, .int ctold, .int creply, .int cwet, .ref (o 72)])), ((o 72), .inl (k 0, 17, .inl f72)), ((o 8), .inr (8, [.ref (o 3), .ref (o 4), .ref (o 6), .ref (o 74), .ref (o 75), .ref (o 76)])), ((o 74), .inl (k 0, 3, .inl f74)), ((o 76), .inl (k 3, 3, .inl f76)), ((o 9), .inr (0, [.ref (o 3), .ref (o 6), .int kopener, .int kworth]))] 0 0 (Ui D (fun (r : Int32) (u : (Nat → Int32) × (Nat → Nat) × (Nat → Nat → Int32) × (Nat → Nat → Int64) × (Nat → Int64)) => (u.2.1 0 ≤ 30)) (fun u : (Nat → Int32) × (Nat → Nat) × (Nat → Nat → Int32) × (Nat → Nat → Int64) × (Nat → Int64) => [((o 0), .inr (10, [.ref (o 1), .ref (o 2), .ref (o 3), .ref (o 4), .ref (o 5), .ref (o 6), .ref (o 7), .ref (o 8), .ref (o 9), .ref (o 10), .ref (o 11), .ref (o 12), .ref (o 13), .ref (o 14)])), ((o 3), .inr (2, [.int glines, .int (nI ghours), .int glaw, .int godds, .int (nI grows), .int (nI gheads), .int (nI gsayings), .int (nI gslugs), .int (nI (u.2.1 0)), .ref (o 26), .ref (o 27), .ref (o 28), .ref (o 29), .ref (o 30), .ref (o 31), .ref (o 32), .ref (o 33), .ref (o 34), .ref (o 35)])), ((o 26), .inl (k 0, 12, .inl f26)), ((o 27), .inl (k 0, 12, .inl f27)), ((o 30), .inl (k 0, 12, .inl f30)), ((o 31), .inl (k 0, 12, .inl f31)), ((o 33), .inl (k 0, 42, .inl f33)), ((o 34), .inl (k 0, 42, .inl f34)), ((o 35), .inl (k 0, 42, .inl f35)), ((o 4), .inr (3, [.ref (o 69), .ref (o 70), .ref (o 71)])), ((o 69), .inl (k 0, 17, .inl (u.2.2.1 0))), ((o 70), .inl (k 0, 17, .inl (u.2.2.1 1))), ((o 71), .inl (k 0, 17, .inl (u.2.2.1 2))), ((o 5), .inr (1, [.ref (o 3), .ref (o 4), .int (u.1 0), .int (u.1 1), .int (u.1 2), .int (u.1 3), .int (u.1 4), .ref (o 72)])), ((o 72), .inl (k 0, 17, .inl (u.2.2.1 3))), ((o 8), .inr (8, [.ref (o 3), .ref (o 4), .ref (o 6), .ref (o 74), .ref (o 75), .ref (o 76)])), ((o 74), .inl (k 0, 3, .inl (u.2.2.1 4))), ((o 76), .inl (k 3, 3, .inl (u.2.2.1 5))), ((o 9), .inr (0, [.ref (o 3), .ref (o 6), .int (u.1 5), .int kworth]))])) := by
  refine MU.of (by decide) (Nat.le_of_ble_eq_true rfl) ?_
  intro p e s m below meth c ls A args Q S hr hlk hnm hQ hK hP hD hZ hA hS hl
  have hx := S.1
  have hb := S.2.1
  have hl : lv_has ls 1 [(0, .ref (o 0))] := hl
  refine lv_aload_n hx hb dX10_undo_0 rfl (lv_at hl 0 rfl) ?_
  refine x_roVi (As := []) S hK hP hD hZ (fun _ h => h) hA hS hA hl mwX10_isGarden lkX10_196 (ctX10_isGarden l D k z o glines ghours glaw godds grows gheads gsayings gslugs gacts (by omega) (by omega) (by omega) (by omega) (by omega) (by omega)) [0, 1] rfl (by decide) rfl rfl rfl rfl rfl ⟨Nat.le_of_ble_eq_true rfl, Nat.le_of_ble_eq_true rfl, Nat.le_of_ble_eq_true rfl⟩ dX10_undo_1 ⟨Nat.le_of_ble_eq_true rfl, Nat.le_of_ble_eq_true rfl⟩ (fun r_1 H locs hr_1 hP hS => ?_)
  refine lv_if_ne (tgt := 10) hx hb dX10_undo_4 (by decide) (fun c_3 => ?_) (fun c_3 => ?_)
  · skip
    refine lv_aload_n hx hb dX10_undo_10 rfl (lv_at hl 0 rfl) ?_
    refine x_get S hK hP 0 rfl cfX10 2 lkX10_23 (by decide) rfl dX10_undo_11 ?_
    refine x_get S hK hP 1 rfl cfX2 8 lkX10_394 (by decide) rfl dX10_undo_14 ?_
    refine lv_if_ne (tgt := 23) hx hb dX10_undo_17 (by decide) (fun c_4 => ?_) (fun c_4 => ?_)
    · skip
      have c_4 : ¬ gacts = 0 := fun q => c_4 ((ni_eq rfl (by decide) (by omega) (by omega)).mpr q)
      refine lv_aload_n hx hb dX10_undo_23 rfl (lv_at hl 0 rfl) ?_
      refine x_get S hK hP 0 rfl cfX10 2 lkX10_23 (by decide) rfl dX10_undo_24 ?_
      refine lv_dup hx hb dX10_undo_27 rfl ?_
      refine x_get S hK hP 1 rfl cfX2 8 lkX10_394 (by decide) rfl dX10_undo_28 ?_
      refine lv_iconst (v := 1) hx hb dX10_undo_31 (by decide) ?_
      refine lv_isub hx hb dX10_undo_32 ?_
      refine x_is (nI (gacts - 1)) (ni_sub rfl (by decide) (by omega)) ?_
      refine x_put (ws' := [((o 0), .inr (10, [.ref (o 1), .ref (o 2), .ref (o 3), .ref (o 4), .ref (o 5), .ref (o 6), .ref (o 7), .ref (o 8), .ref (o 9), .ref (o 10), .ref (o 11), .ref (o 12), .ref (o 13), .ref (o 14)])), ((o 3), .inr (2, [.int glines, .int (nI ghours), .int glaw, .int godds, .int (nI grows), .int (nI gheads), .int (nI gsayings), .int (nI gslugs), .int (nI (gacts - 1)), .ref (o 26), .ref (o 27), .ref (o 28), .ref (o 29), .ref (o 30), .ref (o 31), .ref (o 32), .ref (o 33), .ref (o 34), .ref (o 35)])), ((o 26), .inl (k 0, 12, .inl f26)), ((o 27), .inl (k 0, 12, .inl f27)), ((o 30), .inl (k 0, 12, .inl f30)), ((o 31), .inl (k 0, 12, .inl f31)), ((o 33), .inl (k 0, 42, .inl f33)), ((o 34), .inl (k 0, 42, .inl f34)), ((o 35), .inl (k 0, 42, .inl f35)), ((o 4), .inr (3, [.ref (o 69), .ref (o 70), .ref (o 71)])), ((o 69), .inl (k 0, 17, .inl f69)), ((o 70), .inl (k 0, 17, .inl f70)), ((o 71), .inl (k 0, 17, .inl f71)), ((o 5), .inr (1, [.ref (o 3), .ref (o 4), .int clawNow, .int charder, .int ctold, .int creply, .int cwet, .ref (o 72)])), ((o 72), .inl (k 0, 17, .inl f72)), ((o 8), .inr (8, [.ref (o 3), .ref (o 4), .ref (o 6), .ref (o 74), .ref (o 75), .ref (o 76)])), ((o 74), .inl (k 0, 3, .inl f74)), ((o 76), .inl (k 3, 3, .inl f76)), ((o 9), .inr (0, [.ref (o 3), .ref (o 6), .int kopener, .int kworth]))]) S hK hP hD hS 1 rfl cfX2 8 lkX10_394 (by decide) rfl rfl rfl (Nat.le_of_ble_eq_true rfl) rfl dX10_undo_33 (fun H locs hP hD hS => ?_)
      refine lv_aload_n hx hb dX10_undo_36 rfl (lv_at hl 0 rfl) ?_
      refine x_muVv (wr := []) (As := []) S hK hP hD hZ hS hA hl mwX10_retell lkX10_103 (ctX10_retell l D k z o f69 f70 f71 clawNow charder ctold creply cwet f72 f74 f76 kopener kworth glines ghours glaw godds grows gheads gsayings gslugs (gacts - 1) f26 f27 f30 f31 f33 f34 f35 (by omega) (by omega) (by omega) (by omega) (by omega) (by omega)) [0, 9, 10, 11, 12, 13, 14, 15, 16, 17, 18, 1, 2, 3, 4, 5, 6, 7, 8] [] rfl rfl (by decide) (by decide) (by decide) rfl rfl rfl rfl rfl ⟨Nat.le_of_ble_eq_true rfl, Nat.le_of_ble_eq_true rfl, Nat.le_of_ble_eq_true rfl⟩ dX10_undo_37 ⟨Nat.le_of_ble_eq_true rfl, Nat.le_of_ble_eq_true rfl⟩ (fun u_6 H locs hr_5 hP hD hS => ?_)
      have hP : va_P D vwCl [((o 0), .inr (10, [.ref (o 1), .ref (o 2), .ref (o 3), .ref (o 4), .ref (o 5), .ref (o 6), .ref (o 7), .ref (o 8), .ref (o 9), .ref (o 10), .ref (o 11), .ref (o 12), .ref (o 13), .ref (o 14)])), ((o 3), .inr (2, [.int glines, .int (nI ghours), .int glaw, .int godds, .int (nI grows), .int (nI gheads), .int (nI gsayings), .int (nI gslugs), .int (nI (gacts - 1)), .ref (o 26), .ref (o 27), .ref (o 28), .ref (o 29), .ref (o 30), .ref (o 31), .ref (o 32), .ref (o 33), .ref (o 34), .ref (o 35)])), ((o 26), .inl (k 0, 12, .inl f26)), ((o 27), .inl (k 0, 12, .inl f27)), ((o 30), .inl (k 0, 12, .inl f30)), ((o 31), .inl (k 0, 12, .inl f31)), ((o 33), .inl (k 0, 42, .inl f33)), ((o 34), .inl (k 0, 42, .inl f34)), ((o 35), .inl (k 0, 42, .inl f35)), ((o 4), .inr (3, [.ref (o 69), .ref (o 70), .ref (o 71)])), ((o 69), .inl (k 0, 17, .inl (u_6.2.2.1 0))), ((o 70), .inl (k 0, 17, .inl (u_6.2.2.1 1))), ((o 71), .inl (k 0, 17, .inl (u_6.2.2.1 2))), ((o 5), .inr (1, [.ref (o 3), .ref (o 4), .int (u_6.1 0), .int (u_6.1 1), .int (u_6.1 2), .int (u_6.1 3), .int (u_6.1 4), .ref (o 72)])), ((o 72), .inl (k 0, 17, .inl (u_6.2.2.1 3))), ((o 8), .inr (8, [.ref (o 3), .ref (o 4), .ref (o 6), .ref (o 74), .ref (o 75), .ref (o 76)])), ((o 74), .inl (k 0, 3, .inl (u_6.2.2.1 4))), ((o 76), .inl (k 3, 3, .inl (u_6.2.2.1 5))), ((o 9), .inr (0, [.ref (o 3), .ref (o 6), .int (u_6.1 5), .int kworth]))] H := hP.sub [0, 11, 12, 13, 14, 15, 16, 17, 18, 1, 2, 3, 4, 5, 6, 7, 8, 9, 10] rfl
      have hD : va_D A [((o 0), .inr (10, [.ref (o 1), .ref (o 2), .ref (o 3), .ref (o 4), .ref (o 5), .ref (o 6), .ref (o 7), .ref (o 8), .ref (o 9), .ref (o 10), .ref (o 11), .ref (o 12), .ref (o 13), .ref (o 14)])), ((o 3), .inr (2, [.int glines, .int (nI ghours), .int glaw, .int godds, .int (nI grows), .int (nI gheads), .int (nI gsayings), .int (nI gslugs), .int (nI (gacts - 1)), .ref (o 26), .ref (o 27), .ref (o 28), .ref (o 29), .ref (o 30), .ref (o 31), .ref (o 32), .ref (o 33), .ref (o 34), .ref (o 35)])), ((o 26), .inl (k 0, 12, .inl f26)), ((o 27), .inl (k 0, 12, .inl f27)), ((o 30), .inl (k 0, 12, .inl f30)), ((o 31), .inl (k 0, 12, .inl f31)), ((o 33), .inl (k 0, 42, .inl f33)), ((o 34), .inl (k 0, 42, .inl f34)), ((o 35), .inl (k 0, 42, .inl f35)), ((o 4), .inr (3, [.ref (o 69), .ref (o 70), .ref (o 71)])), ((o 69), .inl (k 0, 17, .inl (u_6.2.2.1 0))), ((o 70), .inl (k 0, 17, .inl (u_6.2.2.1 1))), ((o 71), .inl (k 0, 17, .inl (u_6.2.2.1 2))), ((o 5), .inr (1, [.ref (o 3), .ref (o 4), .int (u_6.1 0), .int (u_6.1 1), .int (u_6.1 2), .int (u_6.1 3), .int (u_6.1 4), .ref (o 72)])), ((o 72), .inl (k 0, 17, .inl (u_6.2.2.1 3))), ((o 8), .inr (8, [.ref (o 3), .ref (o 4), .ref (o 6), .ref (o 74), .ref (o 75), .ref (o 76)])), ((o 74), .inl (k 0, 3, .inl (u_6.2.2.1 4))), ((o 76), .inl (k 3, 3, .inl (u_6.2.2.1 5))), ((o 9), .inr (0, [.ref (o 3), .ref (o 6), .int (u_6.1 5), .int kworth]))] := hD.sub [0, 11, 12, 13, 14, 15, 16, 17, 18, 1, 2, 3, 4, 5, 6, 7, 8, 9, 10] (by decide) rfl
      refine lv_aload_n hx hb dX10_undo_40 rfl (lv_at hl 0 rfl) ?_
      refine x_get S hK hP 0 rfl cfX10 2 lkX10_23 (by decide) rfl dX10_undo_41 ?_
      refine x_get S hK hP 1 rfl cfX2 8 lkX10_394 (by decide) rfl dX10_undo_44 ?_
      exact x_reti S hr hlk hQ hS ((fun i => ([(u_6.1 0), (u_6.1 1), (u_6.1 2), (u_6.1 3), (u_6.1 4), (u_6.1 5)] : List (Int32)).getD i 0), (fun i => ([gacts - 1] : List (Nat)).getD i 0), (fun i => ([(u_6.2.2.1 0), (u_6.2.2.1 1), (u_6.2.2.1 2), (u_6.2.2.1 3), (u_6.2.2.1 4), (u_6.2.2.1 5)] : List (Nat → Int32)).getD i (fun _ => 0)), (fun i => ([] : List (Nat → Int64)).getD i (fun _ => 0)), (fun i => ([] : List (Int64)).getD i 0)) (show gacts - 1 ≤ 30 by omega) (x_B hP hD) dX10_undo_47
    · skip
      have c_4 : gacts = 0 := (ni_eq rfl (by decide) (by omega) (by omega)).mp c_4
      refine lv_bipush (v := (-5)) hx hb dX10_undo_20 (by decide) ?_
      exact x_reti S hr hlk hQ hS ((fun i => ([clawNow, charder, ctold, creply, cwet, kopener] : List (Int32)).getD i 0), (fun i => ([gacts] : List (Nat)).getD i 0), (fun i => ([f69, f70, f71, f72, f74, f76] : List (Nat → Int32)).getD i (fun _ => 0)), (fun i => ([] : List (Nat → Int64)).getD i (fun _ => 0)), (fun i => ([] : List (Int64)).getD i 0)) (show gacts ≤ 30 by omega) (x_B hP hD) dX10_undo_22
  · skip
    refine lv_bipush (v := (-2)) hx hb dX10_undo_7 (by decide) ?_
    exact x_reti S hr hlk hQ hS ((fun i => ([clawNow, charder, ctold, creply, cwet, kopener] : List (Int32)).getD i 0), (fun i => ([gacts] : List (Nat)).getD i 0), (fun i => ([f69, f70, f71, f72, f74, f76] : List (Nat → Int32)).getD i (fun _ => 0)), (fun i => ([] : List (Nat → Int64)).getD i (fun _ => 0)), (fun i => ([] : List (Int64)).getD i 0)) (show gacts ≤ 30 by omega) (x_B hP hD) dX10_undo_9

set_option maxHeartbeats 4000000 in
set_option maxRecDepth 100000 in
theorem ctX10_anew (l : Launch) (D : va_G) (k : Nat → ClassId) (z : Nat → Nat) (o : Nat → Nat) (glines : Int32) (ghours : Nat) (glaw : Int32) (godds : Int32) (grows : Nat) (gheads : Nat) (gsayings : Nat) (gslugs : Nat) (gacts : Nat) (f26 : Nat → Int32) (f27 : Nat → Int32) (f30 : Nat → Int32) (f31 : Nat → Int32) (f33 : Nat → Int32) (f34 : Nat → Int32) (f35 : Nat → Int32) (f69 : Nat → Int32) (f70 : Nat → Int32) (f71 : Nat → Int32) (clawNow : Int32) (charder : Int32) (ctold : Int32) (creply : Int32) (cwet : Int32) (f72 : Nat → Int32) (f74 : Nat → Int32) (f76 : Nat → Int32) (kopener : Int32) (kworth : Int32) (hghours : ghours ≤ 16) (hgrows : grows ≤ 4) (hgheads : gheads ≤ 12) (hgsayings : gsayings ≤ 8) (hgslugs : gslugs ≤ 4) (hgacts : gacts ≤ 30) : MU l yX10_anew cX10_anew 2 (some .int) 5 D k z [.ref (o 0)] [((o 0), .inr (10, [.ref (o 1), .ref (o 2), .ref (o 3), .ref (o 4), .ref (o 5), .ref (o 6), .ref (o 7), .ref (o 8), .ref (o 9), .ref (o 10), .ref (o 11), .ref (o 12), .ref (o 13), .ref (o 14)])), ((o 3), .inr (2, [.int glines, .int (nI ghours), .int glaw, .int godds, .int (nI grows), .int (nI gheads), .int (nI gsayings), .int (nI gslugs), .int (nI gacts), .ref (o 26), .ref (o 27), .ref (o 28), .ref (o 29), .ref (o 30), .ref (o 31), .ref (o 32), .ref (o 33), .ref (o 34), .ref (o 35)])), ((o 26), .inl (k 0, 12, .inl f26)), ((o 27), .inl (k 0, 12, .inl f27)), ((o 30), .inl (k 0, 12, .inl f30)), ((o 31), .inl (k 0, 12, .inl f31)), ((o 33), .inl (k 0, 42, .inl f33)), ((o 34), .inl (k 0, 42, .inl f34)), ((o 35), .inl (k 0, 42, .inl f35)), ((o 4), .inr (3, [.ref (o 69), .ref (o 70), .ref (o 71)])), ((o 69), .inl (k 0, 17, .inl f69)), ((o 70), .inl (k 0, 17, .inl f70)), ((o 71), .inl (k 0, 17, .inl f71)), ((o 5), .inr (1, [.ref (o 3), .ref (o 4), .int clawNow, .int charder, .int ctold, .int creply, .int cwet, .ref (o 72)])), ((o 72), .inl (k 0, 17, .inl f72)), ((o 8), .inr (8, [.ref (o 3), .ref (o 4), .ref (o 6), .ref (o 74), .ref (o 75), .ref (o 76)])), ((o 74), .inl (k 0, 3, .inl f74)), ((o 76), .inl (k 3, 3, .inl f76)), ((o 9), .inr (0, [.ref (o 3), .ref (o 6), .int kopener, .int kworth]))] 0 0 (Ui D (fun (r : Int32) (u : (Nat → Int32) × (Nat → Nat) × (Nat → Nat → Int32) × (Nat → Nat → Int64) × (Nat → Int64)) => (u.2.1 0 ≤ 30)) (fun u : (Nat → Int32) × (Nat → Nat) × (Nat → Nat → Int32) × (Nat → Nat → Int64) × (Nat → Int64) => [((o 0), .inr (10, [.ref (o 1), .ref (o 2), .ref (o 3), .ref (o 4), .ref (o 5), .ref (o 6), .ref (o 7), .ref (o 8), .ref (o 9), .ref (o 10), .ref (o 11), .ref (o 12), .ref (o 13), .ref (o 14)])), ((o 3), .inr (2, [.int glines, .int (nI ghours), .int glaw, .int godds, .int (nI grows), .int (nI gheads), .int (nI gsayings), .int (nI gslugs), .int (nI (u.2.1 0)), .ref (o 26), .ref (o 27), .ref (o 28), .ref (o 29), .ref (o 30), .ref (o 31), .ref (o 32), .ref (o 33), .ref (o 34), .ref (o 35)])), ((o 26), .inl (k 0, 12, .inl f26)), ((o 27), .inl (k 0, 12, .inl f27)), ((o 30), .inl (k 0, 12, .inl f30)), ((o 31), .inl (k 0, 12, .inl f31)), ((o 33), .inl (k 0, 42, .inl f33)), ((o 34), .inl (k 0, 42, .inl f34)), ((o 35), .inl (k 0, 42, .inl f35)), ((o 4), .inr (3, [.ref (o 69), .ref (o 70), .ref (o 71)])), ((o 69), .inl (k 0, 17, .inl (u.2.2.1 0))), ((o 70), .inl (k 0, 17, .inl (u.2.2.1 1))), ((o 71), .inl (k 0, 17, .inl (u.2.2.1 2))), ((o 5), .inr (1, [.ref (o 3), .ref (o 4), .int (u.1 0), .int (u.1 1), .int (u.1 2), .int (u.1 3), .int (u.1 4), .ref (o 72)])), ((o 72), .inl (k 0, 17, .inl (u.2.2.1 3))), ((o 8), .inr (8, [.ref (o 3), .ref (o 4), .ref (o 6), .ref (o 74), .ref (o 75), .ref (o 76)])), ((o 74), .inl (k 0, 3, .inl (u.2.2.1 4))), ((o 76), .inl (k 3, 3, .inl (u.2.2.1 5))), ((o 9), .inr (0, [.ref (o 3), .ref (o 6), .int (u.1 5), .int kworth]))])) := by
  refine MU.of (by decide) (Nat.le_of_ble_eq_true rfl) ?_
  intro p e s m below meth c ls A args Q S hr hlk hnm hQ hK hP hD hZ hA hS hl
  have hx := S.1
  have hb := S.2.1
  have hl : lv_has ls 2 [(0, .ref (o 0))] := hl
  refine lv_aload_n hx hb dX10_anew_0 rfl (lv_at hl 0 rfl) ?_
  refine x_roVi (As := []) S hK hP hD hZ (fun _ h => h) hA hS hA hl mwX10_isGarden lkX10_196 (ctX10_isGarden l D k z o glines ghours glaw godds grows gheads gsayings gslugs gacts (by omega) (by omega) (by omega) (by omega) (by omega) (by omega)) [0, 1] rfl (by decide) rfl rfl rfl rfl rfl ⟨Nat.le_of_ble_eq_true rfl, Nat.le_of_ble_eq_true rfl, Nat.le_of_ble_eq_true rfl⟩ dX10_anew_1 ⟨Nat.le_of_ble_eq_true rfl, Nat.le_of_ble_eq_true rfl⟩ (fun r_1 H locs hr_1 hP hS => ?_)
  refine lv_if_ne (tgt := 10) hx hb dX10_anew_4 (by decide) (fun c_3 => ?_) (fun c_3 => ?_)
  · skip
    refine lv_aload_n hx hb dX10_anew_10 rfl (lv_at hl 0 rfl) ?_
    refine x_get S hK hP 0 rfl cfX10 2 lkX10_23 (by decide) rfl dX10_anew_11 ?_
    refine x_get S hK hP 1 rfl cfX2 8 lkX10_394 (by decide) rfl dX10_anew_14 ?_
    refine lv_istore_n (lv' := [(1, .int (nI gacts)), (0, .ref (o 0))]) hx hb dX10_anew_17 rfl hl (by decide) rfl (fun ls hl => ?_)
    refine lv_aload_n hx hb dX10_anew_18 rfl (lv_at hl 1 rfl) ?_
    refine x_get S hK hP 0 rfl cfX10 2 lkX10_23 (by decide) rfl dX10_anew_19 ?_
    refine lv_iconst (v := 0) hx hb dX10_anew_22 (by decide) ?_
    refine x_put (ws' := [((o 0), .inr (10, [.ref (o 1), .ref (o 2), .ref (o 3), .ref (o 4), .ref (o 5), .ref (o 6), .ref (o 7), .ref (o 8), .ref (o 9), .ref (o 10), .ref (o 11), .ref (o 12), .ref (o 13), .ref (o 14)])), ((o 3), .inr (2, [.int glines, .int (nI ghours), .int glaw, .int godds, .int (nI grows), .int (nI gheads), .int (nI gsayings), .int (nI gslugs), .int 0, .ref (o 26), .ref (o 27), .ref (o 28), .ref (o 29), .ref (o 30), .ref (o 31), .ref (o 32), .ref (o 33), .ref (o 34), .ref (o 35)])), ((o 26), .inl (k 0, 12, .inl f26)), ((o 27), .inl (k 0, 12, .inl f27)), ((o 30), .inl (k 0, 12, .inl f30)), ((o 31), .inl (k 0, 12, .inl f31)), ((o 33), .inl (k 0, 42, .inl f33)), ((o 34), .inl (k 0, 42, .inl f34)), ((o 35), .inl (k 0, 42, .inl f35)), ((o 4), .inr (3, [.ref (o 69), .ref (o 70), .ref (o 71)])), ((o 69), .inl (k 0, 17, .inl f69)), ((o 70), .inl (k 0, 17, .inl f70)), ((o 71), .inl (k 0, 17, .inl f71)), ((o 5), .inr (1, [.ref (o 3), .ref (o 4), .int clawNow, .int charder, .int ctold, .int creply, .int cwet, .ref (o 72)])), ((o 72), .inl (k 0, 17, .inl f72)), ((o 8), .inr (8, [.ref (o 3), .ref (o 4), .ref (o 6), .ref (o 74), .ref (o 75), .ref (o 76)])), ((o 74), .inl (k 0, 3, .inl f74)), ((o 76), .inl (k 3, 3, .inl f76)), ((o 9), .inr (0, [.ref (o 3), .ref (o 6), .int kopener, .int kworth]))]) S hK hP hD hS 1 rfl cfX2 8 lkX10_394 (by decide) rfl rfl rfl (Nat.le_of_ble_eq_true rfl) rfl dX10_anew_23 (fun H locs hP hD hS => ?_)
    refine lv_aload_n hx hb dX10_anew_26 rfl (lv_at hl 1 rfl) ?_
    refine x_muVv (wr := []) (As := []) S hK hP hD hZ hS hA hl mwX10_retell lkX10_103 (ctX10_retell l D k z o f69 f70 f71 clawNow charder ctold creply cwet f72 f74 f76 kopener kworth glines ghours glaw godds grows gheads gsayings gslugs 0 f26 f27 f30 f31 f33 f34 f35 (by omega) (by omega) (by omega) (by omega) (by omega) (by omega)) [0, 9, 10, 11, 12, 13, 14, 15, 16, 17, 18, 1, 2, 3, 4, 5, 6, 7, 8] [] rfl rfl (by decide) (by decide) (by decide) rfl rfl rfl rfl rfl ⟨Nat.le_of_ble_eq_true rfl, Nat.le_of_ble_eq_true rfl, Nat.le_of_ble_eq_true rfl⟩ dX10_anew_27 ⟨Nat.le_of_ble_eq_true rfl, Nat.le_of_ble_eq_true rfl⟩ (fun u_5 H locs hr_4 hP hD hS => ?_)
    have hP : va_P D vwCl [((o 0), .inr (10, [.ref (o 1), .ref (o 2), .ref (o 3), .ref (o 4), .ref (o 5), .ref (o 6), .ref (o 7), .ref (o 8), .ref (o 9), .ref (o 10), .ref (o 11), .ref (o 12), .ref (o 13), .ref (o 14)])), ((o 3), .inr (2, [.int glines, .int (nI ghours), .int glaw, .int godds, .int (nI grows), .int (nI gheads), .int (nI gsayings), .int (nI gslugs), .int (nI 0), .ref (o 26), .ref (o 27), .ref (o 28), .ref (o 29), .ref (o 30), .ref (o 31), .ref (o 32), .ref (o 33), .ref (o 34), .ref (o 35)])), ((o 26), .inl (k 0, 12, .inl f26)), ((o 27), .inl (k 0, 12, .inl f27)), ((o 30), .inl (k 0, 12, .inl f30)), ((o 31), .inl (k 0, 12, .inl f31)), ((o 33), .inl (k 0, 42, .inl f33)), ((o 34), .inl (k 0, 42, .inl f34)), ((o 35), .inl (k 0, 42, .inl f35)), ((o 4), .inr (3, [.ref (o 69), .ref (o 70), .ref (o 71)])), ((o 69), .inl (k 0, 17, .inl (u_5.2.2.1 0))), ((o 70), .inl (k 0, 17, .inl (u_5.2.2.1 1))), ((o 71), .inl (k 0, 17, .inl (u_5.2.2.1 2))), ((o 5), .inr (1, [.ref (o 3), .ref (o 4), .int (u_5.1 0), .int (u_5.1 1), .int (u_5.1 2), .int (u_5.1 3), .int (u_5.1 4), .ref (o 72)])), ((o 72), .inl (k 0, 17, .inl (u_5.2.2.1 3))), ((o 8), .inr (8, [.ref (o 3), .ref (o 4), .ref (o 6), .ref (o 74), .ref (o 75), .ref (o 76)])), ((o 74), .inl (k 0, 3, .inl (u_5.2.2.1 4))), ((o 76), .inl (k 3, 3, .inl (u_5.2.2.1 5))), ((o 9), .inr (0, [.ref (o 3), .ref (o 6), .int (u_5.1 5), .int kworth]))] H := hP.sub [0, 11, 12, 13, 14, 15, 16, 17, 18, 1, 2, 3, 4, 5, 6, 7, 8, 9, 10] rfl
    have hD : va_D A [((o 0), .inr (10, [.ref (o 1), .ref (o 2), .ref (o 3), .ref (o 4), .ref (o 5), .ref (o 6), .ref (o 7), .ref (o 8), .ref (o 9), .ref (o 10), .ref (o 11), .ref (o 12), .ref (o 13), .ref (o 14)])), ((o 3), .inr (2, [.int glines, .int (nI ghours), .int glaw, .int godds, .int (nI grows), .int (nI gheads), .int (nI gsayings), .int (nI gslugs), .int (nI 0), .ref (o 26), .ref (o 27), .ref (o 28), .ref (o 29), .ref (o 30), .ref (o 31), .ref (o 32), .ref (o 33), .ref (o 34), .ref (o 35)])), ((o 26), .inl (k 0, 12, .inl f26)), ((o 27), .inl (k 0, 12, .inl f27)), ((o 30), .inl (k 0, 12, .inl f30)), ((o 31), .inl (k 0, 12, .inl f31)), ((o 33), .inl (k 0, 42, .inl f33)), ((o 34), .inl (k 0, 42, .inl f34)), ((o 35), .inl (k 0, 42, .inl f35)), ((o 4), .inr (3, [.ref (o 69), .ref (o 70), .ref (o 71)])), ((o 69), .inl (k 0, 17, .inl (u_5.2.2.1 0))), ((o 70), .inl (k 0, 17, .inl (u_5.2.2.1 1))), ((o 71), .inl (k 0, 17, .inl (u_5.2.2.1 2))), ((o 5), .inr (1, [.ref (o 3), .ref (o 4), .int (u_5.1 0), .int (u_5.1 1), .int (u_5.1 2), .int (u_5.1 3), .int (u_5.1 4), .ref (o 72)])), ((o 72), .inl (k 0, 17, .inl (u_5.2.2.1 3))), ((o 8), .inr (8, [.ref (o 3), .ref (o 4), .ref (o 6), .ref (o 74), .ref (o 75), .ref (o 76)])), ((o 74), .inl (k 0, 3, .inl (u_5.2.2.1 4))), ((o 76), .inl (k 3, 3, .inl (u_5.2.2.1 5))), ((o 9), .inr (0, [.ref (o 3), .ref (o 6), .int (u_5.1 5), .int kworth]))] := hD.sub [0, 11, 12, 13, 14, 15, 16, 17, 18, 1, 2, 3, 4, 5, 6, 7, 8, 9, 10] (by decide) rfl
    refine lv_iload_n hx hb dX10_anew_30 rfl (lv_at hl 0 rfl) ?_
    exact x_reti S hr hlk hQ hS ((fun i => ([(u_5.1 0), (u_5.1 1), (u_5.1 2), (u_5.1 3), (u_5.1 4), (u_5.1 5)] : List (Int32)).getD i 0), (fun i => ([0] : List (Nat)).getD i 0), (fun i => ([(u_5.2.2.1 0), (u_5.2.2.1 1), (u_5.2.2.1 2), (u_5.2.2.1 3), (u_5.2.2.1 4), (u_5.2.2.1 5)] : List (Nat → Int32)).getD i (fun _ => 0)), (fun i => ([] : List (Nat → Int64)).getD i (fun _ => 0)), (fun i => ([] : List (Int64)).getD i 0)) (show 0 ≤ 30 by omega) (x_B hP hD) dX10_anew_31
  · skip
    refine lv_bipush (v := (-2)) hx hb dX10_anew_7 (by decide) ?_
    exact x_reti S hr hlk hQ hS ((fun i => ([clawNow, charder, ctold, creply, cwet, kopener] : List (Int32)).getD i 0), (fun i => ([gacts] : List (Nat)).getD i 0), (fun i => ([f69, f70, f71, f72, f74, f76] : List (Nat → Int32)).getD i (fun _ => 0)), (fun i => ([] : List (Nat → Int64)).getD i (fun _ => 0)), (fun i => ([] : List (Int64)).getD i 0)) (show gacts ≤ 30 by omega) (x_B hP hD) dX10_anew_9

set_option maxHeartbeats 4000000 in
set_option maxRecDepth 100000 in
theorem ctX10_rate (l : Launch) (D : va_G) (k : Nat → ClassId) (z : Nat → Nat) (o : Nat → Nat) (glines : Int32) (ghours : Nat) (glaw : Int32) (godds : Int32) (grows : Nat) (gheads : Nat) (gsayings : Nat) (gslugs : Nat) (gacts : Nat) (f26 : Nat → Int32) (f27 : Nat → Int32) (f30 : Nat → Int32) (f31 : Nat → Int32) (f33 : Nat → Int32) (f34 : Nat → Int32) (f35 : Nat → Int32) (f69 : Nat → Int32) (f70 : Nat → Int32) (f71 : Nat → Int32) (clawNow : Int32) (charder : Int32) (ctold : Int32) (creply : Int32) (cwet : Int32) (f72 : Nat → Int32) (f74 : Nat → Int32) (f76 : Nat → Int32) (kopener : Int32) (kworth : Int32) (p0 : Int32) (p1 : Int32) (hghours : ghours ≤ 16) (hgrows : grows ≤ 4) (hgheads : gheads ≤ 12) (hgsayings : gsayings ≤ 8) (hgslugs : gslugs ≤ 4) (hgacts : gacts ≤ 30) : MU l yX10_rate cX10_rate 4 (some .int) 5 D k z [.ref (o 0), .int p0, .int p1] [((o 0), .inr (10, [.ref (o 1), .ref (o 2), .ref (o 3), .ref (o 4), .ref (o 5), .ref (o 6), .ref (o 7), .ref (o 8), .ref (o 9), .ref (o 10), .ref (o 11), .ref (o 12), .ref (o 13), .ref (o 14)])), ((o 3), .inr (2, [.int glines, .int (nI ghours), .int glaw, .int godds, .int (nI grows), .int (nI gheads), .int (nI gsayings), .int (nI gslugs), .int (nI gacts), .ref (o 26), .ref (o 27), .ref (o 28), .ref (o 29), .ref (o 30), .ref (o 31), .ref (o 32), .ref (o 33), .ref (o 34), .ref (o 35)])), ((o 26), .inl (k 0, 12, .inl f26)), ((o 27), .inl (k 0, 12, .inl f27)), ((o 30), .inl (k 0, 12, .inl f30)), ((o 31), .inl (k 0, 12, .inl f31)), ((o 33), .inl (k 0, 42, .inl f33)), ((o 34), .inl (k 0, 42, .inl f34)), ((o 35), .inl (k 0, 42, .inl f35)), ((o 4), .inr (3, [.ref (o 69), .ref (o 70), .ref (o 71)])), ((o 69), .inl (k 0, 17, .inl f69)), ((o 70), .inl (k 0, 17, .inl f70)), ((o 71), .inl (k 0, 17, .inl f71)), ((o 5), .inr (1, [.ref (o 3), .ref (o 4), .int clawNow, .int charder, .int ctold, .int creply, .int cwet, .ref (o 72)])), ((o 72), .inl (k 0, 17, .inl f72)), ((o 8), .inr (8, [.ref (o 3), .ref (o 4), .ref (o 6), .ref (o 74), .ref (o 75), .ref (o 76)])), ((o 74), .inl (k 0, 3, .inl f74)), ((o 76), .inl (k 3, 3, .inl f76)), ((o 9), .inr (0, [.ref (o 3), .ref (o 6), .int kopener, .int kworth]))] 0 0 (Ui D (fun (r : Int32) (u : (Nat → Int32) × (Nat → Nat) × (Nat → Nat → Int32) × (Nat → Nat → Int64) × (Nat → Int64)) => True) (fun u : (Nat → Int32) × (Nat → Nat) × (Nat → Nat → Int32) × (Nat → Nat → Int64) × (Nat → Int64) => [((o 0), .inr (10, [.ref (o 1), .ref (o 2), .ref (o 3), .ref (o 4), .ref (o 5), .ref (o 6), .ref (o 7), .ref (o 8), .ref (o 9), .ref (o 10), .ref (o 11), .ref (o 12), .ref (o 13), .ref (o 14)])), ((o 3), .inr (2, [.int glines, .int (nI ghours), .int glaw, .int godds, .int (nI grows), .int (nI gheads), .int (nI gsayings), .int (nI gslugs), .int (nI gacts), .ref (o 26), .ref (o 27), .ref (o 28), .ref (o 29), .ref (o 30), .ref (o 31), .ref (o 32), .ref (o 33), .ref (o 34), .ref (o 35)])), ((o 26), .inl (k 0, 12, .inl (u.2.2.1 0))), ((o 27), .inl (k 0, 12, .inl f27)), ((o 30), .inl (k 0, 12, .inl f30)), ((o 31), .inl (k 0, 12, .inl f31)), ((o 33), .inl (k 0, 42, .inl f33)), ((o 34), .inl (k 0, 42, .inl f34)), ((o 35), .inl (k 0, 42, .inl f35)), ((o 4), .inr (3, [.ref (o 69), .ref (o 70), .ref (o 71)])), ((o 69), .inl (k 0, 17, .inl (u.2.2.1 1))), ((o 70), .inl (k 0, 17, .inl (u.2.2.1 2))), ((o 71), .inl (k 0, 17, .inl (u.2.2.1 3))), ((o 5), .inr (1, [.ref (o 3), .ref (o 4), .int (u.1 0), .int (u.1 1), .int (u.1 2), .int (u.1 3), .int (u.1 4), .ref (o 72)])), ((o 72), .inl (k 0, 17, .inl (u.2.2.1 4))), ((o 8), .inr (8, [.ref (o 3), .ref (o 4), .ref (o 6), .ref (o 74), .ref (o 75), .ref (o 76)])), ((o 74), .inl (k 0, 3, .inl (u.2.2.1 5))), ((o 76), .inl (k 3, 3, .inl (u.2.2.1 6))), ((o 9), .inr (0, [.ref (o 3), .ref (o 6), .int (u.1 5), .int kworth]))])) := by
  refine MU.of (by decide) (Nat.le_of_ble_eq_true rfl) ?_
  intro p e s m below meth c ls A args Q S hr hlk hnm hQ hK hP hD hZ hA hS hl
  have hx := S.1
  have hb := S.2.1
  have hl : lv_has ls 4 [(0, .ref (o 0)), (1, .int p0), (2, .int p1)] := hl
  refine lv_aload_n hx hb dX10_rate_0 rfl (lv_at hl 0 rfl) ?_
  refine lv_iload_n hx hb dX10_rate_1 rfl (lv_at hl 1 rfl) ?_
  refine x_roVi (As := [.int p0]) S hK hP hD hZ (fun _ h => h) hA hS hA hl mwX10_isHead lkX10_135 (ctX10_isHead l D k z o glines ghours glaw godds grows gheads gsayings gslugs gacts p0 (by omega) (by omega) (by omega) (by omega) (by omega) (by omega)) [0, 1] rfl (by decide) rfl rfl rfl rfl rfl ⟨Nat.le_of_ble_eq_true rfl, Nat.le_of_ble_eq_true rfl, Nat.le_of_ble_eq_true rfl⟩ dX10_rate_2 ⟨Nat.le_of_ble_eq_true rfl, Nat.le_of_ble_eq_true rfl⟩ (fun r_1 H locs hr_1 hP hS => ?_)
  have hp_3 := hr_1
  refine lv_if_eq (tgt := 18) hx hb dX10_rate_5 (by decide) (fun c_4 => ?_) (fun c_4 => ?_)
  · skip
    refine lv_bipush (v := (-2)) hx hb dX10_rate_18 (by decide) ?_
    exact x_reti S hr hlk hQ hS ((fun i => ([clawNow, charder, ctold, creply, cwet, kopener] : List (Int32)).getD i 0), (fun i => ([] : List (Nat)).getD i 0), (fun i => ([f26, f69, f70, f71, f72, f74, f76] : List (Nat → Int32)).getD i (fun _ => 0)), (fun i => ([] : List (Nat → Int64)).getD i (fun _ => 0)), (fun i => ([] : List (Int64)).getD i 0)) trivial (x_B hP hD) dX10_rate_20
  · skip
    obtain ⟨n_5, rfl, hn_5⟩ := hp_3.resolve_left c_4
    refine lv_iload_n hx hb dX10_rate_8 rfl (lv_at hl 2 rfl) ?_
    refine lv_iconst (v := 1) hx hb dX10_rate_9 (by decide) ?_
    refine lv_icmp_lt (tgt := 18) hx hb dX10_rate_10 (by decide) (fun c_6 => ?_) (fun c_6 => ?_)
    · skip
      refine lv_bipush (v := (-2)) hx hb dX10_rate_18 (by decide) ?_
      exact x_reti S hr hlk hQ hS ((fun i => ([clawNow, charder, ctold, creply, cwet, kopener] : List (Int32)).getD i 0), (fun i => ([] : List (Nat)).getD i 0), (fun i => ([f26, f69, f70, f71, f72, f74, f76] : List (Nat → Int32)).getD i (fun _ => 0)), (fun i => ([] : List (Nat → Int64)).getD i (fun _ => 0)), (fun i => ([] : List (Int64)).getD i 0)) trivial (x_B hP hD) dX10_rate_20
    · skip
      refine lv_iload_n hx hb dX10_rate_13 rfl (lv_at hl 2 rfl) ?_
      refine lv_iconst (v := 4) hx hb dX10_rate_14 (by decide) ?_
      refine lv_icmp_le (tgt := 21) hx hb dX10_rate_15 (by decide) (fun c_7 => ?_) (fun c_7 => ?_)
      · skip
        refine lv_aload_n hx hb dX10_rate_21 rfl (lv_at hl 0 rfl) ?_
        refine x_get S hK hP 0 rfl cfX10 2 lkX10_23 (by decide) rfl dX10_rate_22 ?_
        refine x_get S hK hP 1 rfl cfX2 8 lkX10_394 (by decide) rfl dX10_rate_25 ?_
        refine lv_if_le (tgt := 34) hx hb dX10_rate_28 (by decide) (fun c_8 => ?_) (fun c_8 => ?_)
        · skip
          have c_8 : gacts ≤ 0 := (ni_le rfl (by decide) (by omega) (by omega)).mp c_8
          refine lv_aload_n hx hb dX10_rate_34 rfl (lv_at hl 0 rfl) ?_
          refine x_get S hK hP 0 rfl cfX10 2 lkX10_23 (by decide) rfl dX10_rate_35 ?_
          refine x_get S hK hP 1 rfl cfX2 9 lkX10_139 (by decide) rfl dX10_rate_38 ?_
          refine lv_iload_n hx hb dX10_rate_41 rfl (lv_at hl 1 rfl) ?_
          refine x_iald S hK hP 2 rfl (vp_in_nI (by omega) (by decide)) dX10_rate_42 ?_
          refine lv_topi (fun v_9 ev_9 => ?_)
          refine lv_istore_n (lv' := [(3, .int v_9), (0, .ref (o 0)), (1, .int (nI n_5)), (2, .int p1)]) hx hb dX10_rate_43 rfl hl (by decide) rfl (fun ls hl => ?_)
          refine lv_aload_n hx hb dX10_rate_44 rfl (lv_at hl 1 rfl) ?_
          refine x_get S hK hP 0 rfl cfX10 2 lkX10_23 (by decide) rfl dX10_rate_45 ?_
          refine x_get S hK hP 1 rfl cfX2 9 lkX10_139 (by decide) rfl dX10_rate_48 ?_
          refine lv_iload_n hx hb dX10_rate_51 rfl (lv_at hl 2 rfl) ?_
          refine lv_iload_n hx hb dX10_rate_52 rfl (lv_at hl 3 rfl) ?_
          refine x_iast (ws' := fun f_10 => [((o 0), .inr (10, [.ref (o 1), .ref (o 2), .ref (o 3), .ref (o 4), .ref (o 5), .ref (o 6), .ref (o 7), .ref (o 8), .ref (o 9), .ref (o 10), .ref (o 11), .ref (o 12), .ref (o 13), .ref (o 14)])), ((o 3), .inr (2, [.int glines, .int (nI ghours), .int glaw, .int godds, .int (nI grows), .int (nI gheads), .int (nI gsayings), .int (nI gslugs), .int (nI gacts), .ref (o 26), .ref (o 27), .ref (o 28), .ref (o 29), .ref (o 30), .ref (o 31), .ref (o 32), .ref (o 33), .ref (o 34), .ref (o 35)])), ((o 26), .inl (k 0, 12, .inl f_10)), ((o 27), .inl (k 0, 12, .inl f27)), ((o 30), .inl (k 0, 12, .inl f30)), ((o 31), .inl (k 0, 12, .inl f31)), ((o 33), .inl (k 0, 42, .inl f33)), ((o 34), .inl (k 0, 42, .inl f34)), ((o 35), .inl (k 0, 42, .inl f35)), ((o 4), .inr (3, [.ref (o 69), .ref (o 70), .ref (o 71)])), ((o 69), .inl (k 0, 17, .inl f69)), ((o 70), .inl (k 0, 17, .inl f70)), ((o 71), .inl (k 0, 17, .inl f71)), ((o 5), .inr (1, [.ref (o 3), .ref (o 4), .int clawNow, .int charder, .int ctold, .int creply, .int cwet, .ref (o 72)])), ((o 72), .inl (k 0, 17, .inl f72)), ((o 8), .inr (8, [.ref (o 3), .ref (o 4), .ref (o 6), .ref (o 74), .ref (o 75), .ref (o 76)])), ((o 74), .inl (k 0, 3, .inl f74)), ((o 76), .inl (k 3, 3, .inl f76)), ((o 9), .inr (0, [.ref (o 3), .ref (o 6), .int kopener, .int kworth]))]) S hK hP hD hS 2 rfl (vp_in_nI (by omega) (by decide)) (fun _ => rfl) dX10_rate_53 (fun f_10 H locs ef_10 hP hD hS => ?_)
          refine lv_aload_n hx hb dX10_rate_54 rfl (lv_at hl 1 rfl) ?_
          refine x_muVv (wr := []) (As := []) S hK hP hD hZ hS hA hl mwX10_retell lkX10_103 (ctX10_retell l D k z o f69 f70 f71 clawNow charder ctold creply cwet f72 f74 f76 kopener kworth glines ghours glaw godds grows gheads gsayings gslugs gacts f_10 f27 f30 f31 f33 f34 f35 (by omega) (by omega) (by omega) (by omega) (by omega) (by omega)) [0, 9, 10, 11, 12, 13, 14, 15, 16, 17, 18, 1, 2, 3, 4, 5, 6, 7, 8] [] rfl rfl (by decide) (by decide) (by decide) rfl rfl rfl rfl rfl ⟨Nat.le_of_ble_eq_true rfl, Nat.le_of_ble_eq_true rfl, Nat.le_of_ble_eq_true rfl⟩ dX10_rate_55 ⟨Nat.le_of_ble_eq_true rfl, Nat.le_of_ble_eq_true rfl⟩ (fun u_12 H locs hr_11 hP hD hS => ?_)
          have hP : va_P D vwCl [((o 0), .inr (10, [.ref (o 1), .ref (o 2), .ref (o 3), .ref (o 4), .ref (o 5), .ref (o 6), .ref (o 7), .ref (o 8), .ref (o 9), .ref (o 10), .ref (o 11), .ref (o 12), .ref (o 13), .ref (o 14)])), ((o 3), .inr (2, [.int glines, .int (nI ghours), .int glaw, .int godds, .int (nI grows), .int (nI gheads), .int (nI gsayings), .int (nI gslugs), .int (nI gacts), .ref (o 26), .ref (o 27), .ref (o 28), .ref (o 29), .ref (o 30), .ref (o 31), .ref (o 32), .ref (o 33), .ref (o 34), .ref (o 35)])), ((o 26), .inl (k 0, 12, .inl f_10)), ((o 27), .inl (k 0, 12, .inl f27)), ((o 30), .inl (k 0, 12, .inl f30)), ((o 31), .inl (k 0, 12, .inl f31)), ((o 33), .inl (k 0, 42, .inl f33)), ((o 34), .inl (k 0, 42, .inl f34)), ((o 35), .inl (k 0, 42, .inl f35)), ((o 4), .inr (3, [.ref (o 69), .ref (o 70), .ref (o 71)])), ((o 69), .inl (k 0, 17, .inl (u_12.2.2.1 0))), ((o 70), .inl (k 0, 17, .inl (u_12.2.2.1 1))), ((o 71), .inl (k 0, 17, .inl (u_12.2.2.1 2))), ((o 5), .inr (1, [.ref (o 3), .ref (o 4), .int (u_12.1 0), .int (u_12.1 1), .int (u_12.1 2), .int (u_12.1 3), .int (u_12.1 4), .ref (o 72)])), ((o 72), .inl (k 0, 17, .inl (u_12.2.2.1 3))), ((o 8), .inr (8, [.ref (o 3), .ref (o 4), .ref (o 6), .ref (o 74), .ref (o 75), .ref (o 76)])), ((o 74), .inl (k 0, 3, .inl (u_12.2.2.1 4))), ((o 76), .inl (k 3, 3, .inl (u_12.2.2.1 5))), ((o 9), .inr (0, [.ref (o 3), .ref (o 6), .int (u_12.1 5), .int kworth]))] H := hP.sub [0, 11, 12, 13, 14, 15, 16, 17, 18, 1, 2, 3, 4, 5, 6, 7, 8, 9, 10] rfl
          have hD : va_D A [((o 0), .inr (10, [.ref (o 1), .ref (o 2), .ref (o 3), .ref (o 4), .ref (o 5), .ref (o 6), .ref (o 7), .ref (o 8), .ref (o 9), .ref (o 10), .ref (o 11), .ref (o 12), .ref (o 13), .ref (o 14)])), ((o 3), .inr (2, [.int glines, .int (nI ghours), .int glaw, .int godds, .int (nI grows), .int (nI gheads), .int (nI gsayings), .int (nI gslugs), .int (nI gacts), .ref (o 26), .ref (o 27), .ref (o 28), .ref (o 29), .ref (o 30), .ref (o 31), .ref (o 32), .ref (o 33), .ref (o 34), .ref (o 35)])), ((o 26), .inl (k 0, 12, .inl f_10)), ((o 27), .inl (k 0, 12, .inl f27)), ((o 30), .inl (k 0, 12, .inl f30)), ((o 31), .inl (k 0, 12, .inl f31)), ((o 33), .inl (k 0, 42, .inl f33)), ((o 34), .inl (k 0, 42, .inl f34)), ((o 35), .inl (k 0, 42, .inl f35)), ((o 4), .inr (3, [.ref (o 69), .ref (o 70), .ref (o 71)])), ((o 69), .inl (k 0, 17, .inl (u_12.2.2.1 0))), ((o 70), .inl (k 0, 17, .inl (u_12.2.2.1 1))), ((o 71), .inl (k 0, 17, .inl (u_12.2.2.1 2))), ((o 5), .inr (1, [.ref (o 3), .ref (o 4), .int (u_12.1 0), .int (u_12.1 1), .int (u_12.1 2), .int (u_12.1 3), .int (u_12.1 4), .ref (o 72)])), ((o 72), .inl (k 0, 17, .inl (u_12.2.2.1 3))), ((o 8), .inr (8, [.ref (o 3), .ref (o 4), .ref (o 6), .ref (o 74), .ref (o 75), .ref (o 76)])), ((o 74), .inl (k 0, 3, .inl (u_12.2.2.1 4))), ((o 76), .inl (k 3, 3, .inl (u_12.2.2.1 5))), ((o 9), .inr (0, [.ref (o 3), .ref (o 6), .int (u_12.1 5), .int kworth]))] := hD.sub [0, 11, 12, 13, 14, 15, 16, 17, 18, 1, 2, 3, 4, 5, 6, 7, 8, 9, 10] (by decide) rfl
          refine lv_iload_n hx hb dX10_rate_58 rfl (lv_at hl 0 rfl) ?_
          exact x_reti S hr hlk hQ hS ((fun i => ([(u_12.1 0), (u_12.1 1), (u_12.1 2), (u_12.1 3), (u_12.1 4), (u_12.1 5)] : List (Int32)).getD i 0), (fun i => ([] : List (Nat)).getD i 0), (fun i => ([f_10, (u_12.2.2.1 0), (u_12.2.2.1 1), (u_12.2.2.1 2), (u_12.2.2.1 3), (u_12.2.2.1 4), (u_12.2.2.1 5)] : List (Nat → Int32)).getD i (fun _ => 0)), (fun i => ([] : List (Nat → Int64)).getD i (fun _ => 0)), (fun i => ([] : List (Int64)).getD i 0)) trivial (x_B hP hD) dX10_rate_59
        · skip
          have c_8 : ¬ gacts ≤ 0 := fun q => c_8 ((ni_le rfl (by decide) (by omega) (by omega)).mpr q)
          refine lv_bipush (v := (-5)) hx hb dX10_rate_31 (by decide) ?_
          exact x_reti S hr hlk hQ hS ((fun i => ([clawNow, charder, ctold, creply, cwet, kopener] : List (Int32)).getD i 0), (fun i => ([] : List (Nat)).getD i 0), (fun i => ([f26, f69, f70, f71, f72, f74, f76] : List (Nat → Int32)).getD i (fun _ => 0)), (fun i => ([] : List (Nat → Int64)).getD i (fun _ => 0)), (fun i => ([] : List (Int64)).getD i 0)) trivial (x_B hP hD) dX10_rate_33
      · skip
        refine lv_bipush (v := (-2)) hx hb dX10_rate_18 (by decide) ?_
        exact x_reti S hr hlk hQ hS ((fun i => ([clawNow, charder, ctold, creply, cwet, kopener] : List (Int32)).getD i 0), (fun i => ([] : List (Nat)).getD i 0), (fun i => ([f26, f69, f70, f71, f72, f74, f76] : List (Nat → Int32)).getD i (fun _ => 0)), (fun i => ([] : List (Nat → Int64)).getD i (fun _ => 0)), (fun i => ([] : List (Int64)).getD i 0)) trivial (x_B hP hD) dX10_rate_20

set_option maxHeartbeats 4000000 in
set_option maxRecDepth 100000 in
theorem ctX10_drawn (l : Launch) (D : va_G) (k : Nat → ClassId) (z : Nat → Nat) (o : Nat → Nat) (wsize : Nat) (wnext : Nat) (f81 : Nat → Int32) (f82 : Nat → Int64) (f83 : Nat → Int32) (f84 : Nat → Int64) (tlawNow : Int32) (tharder : Int32) (ttold : Int32) (treply : Int32) (twet : Int32) (f73 : Nat → Int32) (f69 : Nat → Int32) (f70 : Nat → Int32) (f71 : Nat → Int32) (glines : Int32) (ghours : Nat) (glaw : Int32) (godds : Int32) (grows : Nat) (gheads : Nat) (gsayings : Nat) (gslugs : Nat) (gacts : Nat) (f26 : Nat → Int32) (f30 : Nat → Int32) (f31 : Nat → Int32) (p0 : Int32) (p1 : Int32) (hwsize : wsize ≤ 256) (hwnext : wnext ≤ 256) (hghours : ghours ≤ 16) (hgrows : grows ≤ 4) (hgheads : gheads ≤ 12) (hgsayings : gsayings ≤ 8) (hgslugs : gslugs ≤ 4) (hgacts : gacts ≤ 30) : MU l yX10_drawn cX10_drawn 4 (some .int) 4 D k z [.ref (o 0), .int p0, .int p1] [((o 0), .inr (10, [.ref (o 1), .ref (o 2), .ref (o 3), .ref (o 4), .ref (o 5), .ref (o 6), .ref (o 7), .ref (o 8), .ref (o 9), .ref (o 10), .ref (o 11), .ref (o 12), .ref (o 13), .ref (o 14)])), ((o 12), .inr (9, [.ref (o 3), .ref (o 5), .ref (o 6), .ref (o 81), .ref (o 82), .int (nI wsize), .ref (o 83), .ref (o 84), .int (nI wnext)])), ((o 81), .inl (k 0, 256, .inl f81)), ((o 82), .inl (k 2, 256, .inr (.inl f82))), ((o 83), .inl (k 0, 256, .inl f83)), ((o 84), .inl (k 2, 256, .inr (.inl f84))), ((o 6), .inr (1, [.ref (o 3), .ref (o 4), .int tlawNow, .int tharder, .int ttold, .int treply, .int twet, .ref (o 73)])), ((o 73), .inl (k 0, 17, .inl f73)), ((o 4), .inr (3, [.ref (o 69), .ref (o 70), .ref (o 71)])), ((o 69), .inl (k 0, 17, .inl f69)), ((o 70), .inl (k 0, 17, .inl f70)), ((o 71), .inl (k 0, 17, .inl f71)), ((o 3), .inr (2, [.int glines, .int (nI ghours), .int glaw, .int godds, .int (nI grows), .int (nI gheads), .int (nI gsayings), .int (nI gslugs), .int (nI gacts), .ref (o 26), .ref (o 27), .ref (o 28), .ref (o 29), .ref (o 30), .ref (o 31), .ref (o 32), .ref (o 33), .ref (o 34), .ref (o 35)])), ((o 26), .inl (k 0, 12, .inl f26)), ((o 30), .inl (k 0, 12, .inl f30)), ((o 31), .inl (k 0, 12, .inl f31))] 0 0 (Ui D (fun (r : Int32) (u : (Nat → Int32) × (Nat → Nat) × (Nat → Nat → Int32) × (Nat → Nat → Int64) × (Nat → Int64)) => True) (fun u : (Nat → Int32) × (Nat → Nat) × (Nat → Nat → Int32) × (Nat → Nat → Int64) × (Nat → Int64) => [((o 0), .inr (10, [.ref (o 1), .ref (o 2), .ref (o 3), .ref (o 4), .ref (o 5), .ref (o 6), .ref (o 7), .ref (o 8), .ref (o 9), .ref (o 10), .ref (o 11), .ref (o 12), .ref (o 13), .ref (o 14)])), ((o 12), .inr (9, [.ref (o 3), .ref (o 5), .ref (o 6), .ref (o 81), .ref (o 82), .int (nI wsize), .ref (o 83), .ref (o 84), .int (nI wnext)])), ((o 81), .inl (k 0, 256, .inl f81)), ((o 82), .inl (k 2, 256, .inr (.inl f82))), ((o 83), .inl (k 0, 256, .inl f83)), ((o 84), .inl (k 2, 256, .inr (.inl f84))), ((o 6), .inr (1, [.ref (o 3), .ref (o 4), .int (u.1 0), .int (u.1 1), .int (u.1 2), .int (u.1 3), .int (u.1 4), .ref (o 73)])), ((o 73), .inl (k 0, 17, .inl (u.2.2.1 0))), ((o 4), .inr (3, [.ref (o 69), .ref (o 70), .ref (o 71)])), ((o 69), .inl (k 0, 17, .inl f69)), ((o 70), .inl (k 0, 17, .inl f70)), ((o 71), .inl (k 0, 17, .inl f71)), ((o 3), .inr (2, [.int glines, .int (nI ghours), .int glaw, .int godds, .int (nI grows), .int (nI gheads), .int (nI gsayings), .int (nI gslugs), .int (nI gacts), .ref (o 26), .ref (o 27), .ref (o 28), .ref (o 29), .ref (o 30), .ref (o 31), .ref (o 32), .ref (o 33), .ref (o 34), .ref (o 35)])), ((o 26), .inl (k 0, 12, .inl f26)), ((o 30), .inl (k 0, 12, .inl f30)), ((o 31), .inl (k 0, 12, .inl f31))])) := by
  refine MU.of (by decide) (Nat.le_of_ble_eq_true rfl) ?_
  intro p e s m below meth c ls A args Q S hr hlk hnm hQ hK hP hD hZ hA hS hl
  have hx := S.1
  have hb := S.2.1
  have hl : lv_has ls 4 [(0, .ref (o 0)), (1, .int p0), (2, .int p1)] := hl
  refine lv_aload_n hx hb dX10_drawn_0 rfl (lv_at hl 0 rfl) ?_
  refine x_roVi (As := []) S hK hP hD hZ (fun _ h => h) hA hS hA hl mwX10_isGarden lkX10_196 (ctX10_isGarden l D k z o glines ghours glaw godds grows gheads gsayings gslugs gacts (by omega) (by omega) (by omega) (by omega) (by omega) (by omega)) [0, 12] rfl (by decide) rfl rfl rfl rfl rfl ⟨Nat.le_of_ble_eq_true rfl, Nat.le_of_ble_eq_true rfl, Nat.le_of_ble_eq_true rfl⟩ dX10_drawn_1 ⟨Nat.le_of_ble_eq_true rfl, Nat.le_of_ble_eq_true rfl⟩ (fun r_1 H locs hr_1 hP hS => ?_)
  refine lv_if_eq (tgt := 21) hx hb dX10_drawn_4 (by decide) (fun c_3 => ?_) (fun c_3 => ?_)
  · skip
    refine lv_bipush (v := (-2)) hx hb dX10_drawn_21 (by decide) ?_
    exact x_reti S hr hlk hQ hS ((fun i => ([tlawNow, tharder, ttold, treply, twet] : List (Int32)).getD i 0), (fun i => ([] : List (Nat)).getD i 0), (fun i => ([f73] : List (Nat → Int32)).getD i (fun _ => 0)), (fun i => ([] : List (Nat → Int64)).getD i (fun _ => 0)), (fun i => ([] : List (Int64)).getD i 0)) trivial (x_B hP hD) dX10_drawn_23
  · skip
    refine lv_iload_n hx hb dX10_drawn_7 rfl (lv_at hl 1 rfl) ?_
    refine x_roSi (As := [.int p0]) S hK hP hD hZ (fun _ h => h) hA hS hA hl mwX10_isSeed lkX10_404 (ctX10_isSeed l D k z p0 ) [] rfl (by decide) rfl rfl ⟨Nat.le_of_ble_eq_true rfl, Nat.le_of_ble_eq_true rfl, Nat.le_of_ble_eq_true rfl⟩ dX10_drawn_8 ⟨Nat.le_of_ble_eq_true rfl, Nat.le_of_ble_eq_true rfl⟩ (fun r_4 H locs hr_4 hP hS => ?_)
    refine lv_if_eq (tgt := 21) hx hb dX10_drawn_11 (by decide) (fun c_6 => ?_) (fun c_6 => ?_)
    · skip
      refine lv_bipush (v := (-2)) hx hb dX10_drawn_21 (by decide) ?_
      exact x_reti S hr hlk hQ hS ((fun i => ([tlawNow, tharder, ttold, treply, twet] : List (Int32)).getD i 0), (fun i => ([] : List (Nat)).getD i 0), (fun i => ([f73] : List (Nat → Int32)).getD i (fun _ => 0)), (fun i => ([] : List (Nat → Int64)).getD i (fun _ => 0)), (fun i => ([] : List (Int64)).getD i 0)) trivial (x_B hP hD) dX10_drawn_23
    · skip
      refine lv_iload_n hx hb dX10_drawn_14 rfl (lv_at hl 2 rfl) ?_
      refine x_roSi (As := [.int p1]) S hK hP hD hZ (fun _ h => h) hA hS hA hl mwX10_isAnyView lkX10_168 (ctX10_isAnyView l D k z p1 ) [] rfl (by decide) rfl rfl ⟨Nat.le_of_ble_eq_true rfl, Nat.le_of_ble_eq_true rfl, Nat.le_of_ble_eq_true rfl⟩ dX10_drawn_15 ⟨Nat.le_of_ble_eq_true rfl, Nat.le_of_ble_eq_true rfl⟩ (fun r_7 H locs hr_7 hP hS => ?_)
      refine lv_if_ne (tgt := 24) hx hb dX10_drawn_18 (by decide) (fun c_9 => ?_) (fun c_9 => ?_)
      · skip
        refine lv_aload_n hx hb dX10_drawn_24 rfl (lv_at hl 0 rfl) ?_
        refine x_get S hK hP 0 rfl cfX10 11 lkX10_91 (by decide) rfl dX10_drawn_25 ?_
        refine lv_iload_n hx hb dX10_drawn_28 rfl (lv_at hl 1 rfl) ?_
        refine x_roVi (As := [.int p0]) S hK hP hD hZ (fun _ h => h) hA hS hA hl mwX9_drawnWet lkX10_407 (ctX9_drawnWet l D k z o wsize wnext f81 f82 f83 f84 glines ghours glaw godds grows gheads gsayings gslugs gacts p0 (by omega) (by omega) (by omega) (by omega) (by omega) (by omega) (by omega) (by omega)) [1, 2, 3, 4, 5, 12] rfl (by decide) rfl rfl rfl rfl rfl ⟨Nat.le_of_ble_eq_true rfl, Nat.le_of_ble_eq_true rfl, Nat.le_of_ble_eq_true rfl⟩ dX10_drawn_29 ⟨Nat.le_of_ble_eq_true rfl, Nat.le_of_ble_eq_true rfl⟩ (fun r_10 H locs hr_10 hP hS => ?_)
        refine lv_istore_n (lv' := [(3, .int r_10), (0, .ref (o 0)), (1, .int p0), (2, .int p1)]) hx hb dX10_drawn_32 rfl hl (by decide) rfl (fun ls hl => ?_)
        refine lv_iload_n hx hb dX10_drawn_33 rfl (lv_at hl 3 rfl) ?_
        refine lv_if_ne (tgt := 39) hx hb dX10_drawn_34 (by decide) (fun c_12 => ?_) (fun c_12 => ?_)
        · skip
          refine lv_aload_n hx hb dX10_drawn_39 rfl (lv_at hl 1 rfl) ?_
          refine x_get S hK hP 0 rfl cfX10 5 lkX10_42 (by decide) rfl dX10_drawn_40 ?_
          refine lv_iload_n hx hb dX10_drawn_43 rfl (lv_at hl 0 rfl) ?_
          refine x_muVv (wr := [((o 0), .inr (10, [.ref (o 1), .ref (o 2), .ref (o 3), .ref (o 4), .ref (o 5), .ref (o 6), .ref (o 7), .ref (o 8), .ref (o 9), .ref (o 10), .ref (o 11), .ref (o 12), .ref (o 13), .ref (o 14)])), ((o 12), .inr (9, [.ref (o 3), .ref (o 5), .ref (o 6), .ref (o 81), .ref (o 82), .int (nI wsize), .ref (o 83), .ref (o 84), .int (nI wnext)])), ((o 81), .inl (k 0, 256, .inl f81)), ((o 82), .inl (k 2, 256, .inr (.inl f82))), ((o 83), .inl (k 0, 256, .inl f83)), ((o 84), .inl (k 2, 256, .inr (.inl f84)))]) (As := [.int r_10]) S hK hP hD hZ hS hA hl mwX1_asWet lkX10_410 (ctX1_asWet_c l D k z (fun i => ([0, 0, 0, (o 3), (o 4), (o 6), 0, 0, 0, 0, 0, 0, 0, 0, 0, 0, 0, 0, 0, 0, 0, 0, 0, 0, 0, 0, (o 26), (o 27), (o 28), (o 29), (o 30), (o 31), (o 32), (o 33), (o 34), (o 35), 0, 0, 0, 0, 0, 0, 0, 0, 0, 0, 0, 0, 0, 0, 0, 0, 0, 0, 0, 0, 0, 0, 0, 0, 0, 0, 0, 0, 0, 0, 0, 0, 0, (o 69), (o 70), (o 71), (o 73)] : List Nat).getD i 0) tlawNow tharder ttold treply twet f73 f69 f70 f71 glines ghours glaw godds grows gheads gsayings gslugs gacts f26 f30 f31 r_10 (by omega) (by omega) (by omega) (by omega) (by omega) (by omega)) [6, 7, 8, 9, 10, 11, 12, 13, 14, 15] [0, 1, 2, 3, 4, 5] rfl rfl (by decide) (by decide) (by decide) rfl rfl rfl rfl rfl ⟨Nat.le_of_ble_eq_true rfl, Nat.le_of_ble_eq_true rfl, Nat.le_of_ble_eq_true rfl⟩ dX10_drawn_44 ⟨Nat.le_of_ble_eq_true rfl, Nat.le_of_ble_eq_true rfl⟩ (fun u_14 H locs hr_13 hP hD hS => ?_)
          have hP : va_P D vwCl [((o 0), .inr (10, [.ref (o 1), .ref (o 2), .ref (o 3), .ref (o 4), .ref (o 5), .ref (o 6), .ref (o 7), .ref (o 8), .ref (o 9), .ref (o 10), .ref (o 11), .ref (o 12), .ref (o 13), .ref (o 14)])), ((o 12), .inr (9, [.ref (o 3), .ref (o 5), .ref (o 6), .ref (o 81), .ref (o 82), .int (nI wsize), .ref (o 83), .ref (o 84), .int (nI wnext)])), ((o 81), .inl (k 0, 256, .inl f81)), ((o 82), .inl (k 2, 256, .inr (.inl f82))), ((o 83), .inl (k 0, 256, .inl f83)), ((o 84), .inl (k 2, 256, .inr (.inl f84))), ((o 6), .inr (1, [.ref (o 3), .ref (o 4), .int (u_14.1 0), .int (u_14.1 1), .int (u_14.1 2), .int (u_14.1 3), .int (u_14.1 4), .ref (o 73)])), ((o 73), .inl (k 0, 17, .inl f73)), ((o 4), .inr (3, [.ref (o 69), .ref (o 70), .ref (o 71)])), ((o 69), .inl (k 0, 17, .inl f69)), ((o 70), .inl (k 0, 17, .inl f70)), ((o 71), .inl (k 0, 17, .inl f71)), ((o 3), .inr (2, [.int glines, .int (nI ghours), .int glaw, .int godds, .int (nI grows), .int (nI gheads), .int (nI gsayings), .int (nI gslugs), .int (nI gacts), .ref (o 26), .ref (o 27), .ref (o 28), .ref (o 29), .ref (o 30), .ref (o 31), .ref (o 32), .ref (o 33), .ref (o 34), .ref (o 35)])), ((o 26), .inl (k 0, 12, .inl f26)), ((o 30), .inl (k 0, 12, .inl f30)), ((o 31), .inl (k 0, 12, .inl f31))] H := hP.sub [0, 1, 2, 3, 4, 5, 6, 7, 8, 9, 10, 11, 12, 13, 14, 15] rfl
          have hD : va_D A [((o 0), .inr (10, [.ref (o 1), .ref (o 2), .ref (o 3), .ref (o 4), .ref (o 5), .ref (o 6), .ref (o 7), .ref (o 8), .ref (o 9), .ref (o 10), .ref (o 11), .ref (o 12), .ref (o 13), .ref (o 14)])), ((o 12), .inr (9, [.ref (o 3), .ref (o 5), .ref (o 6), .ref (o 81), .ref (o 82), .int (nI wsize), .ref (o 83), .ref (o 84), .int (nI wnext)])), ((o 81), .inl (k 0, 256, .inl f81)), ((o 82), .inl (k 2, 256, .inr (.inl f82))), ((o 83), .inl (k 0, 256, .inl f83)), ((o 84), .inl (k 2, 256, .inr (.inl f84))), ((o 6), .inr (1, [.ref (o 3), .ref (o 4), .int (u_14.1 0), .int (u_14.1 1), .int (u_14.1 2), .int (u_14.1 3), .int (u_14.1 4), .ref (o 73)])), ((o 73), .inl (k 0, 17, .inl f73)), ((o 4), .inr (3, [.ref (o 69), .ref (o 70), .ref (o 71)])), ((o 69), .inl (k 0, 17, .inl f69)), ((o 70), .inl (k 0, 17, .inl f70)), ((o 71), .inl (k 0, 17, .inl f71)), ((o 3), .inr (2, [.int glines, .int (nI ghours), .int glaw, .int godds, .int (nI grows), .int (nI gheads), .int (nI gsayings), .int (nI gslugs), .int (nI gacts), .ref (o 26), .ref (o 27), .ref (o 28), .ref (o 29), .ref (o 30), .ref (o 31), .ref (o 32), .ref (o 33), .ref (o 34), .ref (o 35)])), ((o 26), .inl (k 0, 12, .inl f26)), ((o 30), .inl (k 0, 12, .inl f30)), ((o 31), .inl (k 0, 12, .inl f31))] := hD.sub [0, 1, 2, 3, 4, 5, 6, 7, 8, 9, 10, 11, 12, 13, 14, 15] (by decide) rfl
          refine lv_aload_n hx hb dX10_drawn_47 rfl (lv_at hl 1 rfl) ?_
          refine x_get S hK hP 0 rfl cfX10 5 lkX10_42 (by decide) rfl dX10_drawn_48 ?_
          refine x_muVv (wr := [((o 0), .inr (10, [.ref (o 1), .ref (o 2), .ref (o 3), .ref (o 4), .ref (o 5), .ref (o 6), .ref (o 7), .ref (o 8), .ref (o 9), .ref (o 10), .ref (o 11), .ref (o 12), .ref (o 13), .ref (o 14)])), ((o 12), .inr (9, [.ref (o 3), .ref (o 5), .ref (o 6), .ref (o 81), .ref (o 82), .int (nI wsize), .ref (o 83), .ref (o 84), .int (nI wnext)])), ((o 81), .inl (k 0, 256, .inl f81)), ((o 82), .inl (k 2, 256, .inr (.inl f82))), ((o 83), .inl (k 0, 256, .inl f83)), ((o 84), .inl (k 2, 256, .inr (.inl f84)))]) (As := []) S hK hP hD hZ hS hA hl mwX1_run lkX10_359 (ctX1_run_c l D k z (fun i => ([0, 0, 0, (o 3), (o 4), (o 6), 0, 0, 0, 0, 0, 0, 0, 0, 0, 0, 0, 0, 0, 0, 0, 0, 0, 0, 0, 0, (o 26), (o 27), (o 28), (o 29), (o 30), (o 31), (o 32), (o 33), (o 34), (o 35), 0, 0, 0, 0, 0, 0, 0, 0, 0, 0, 0, 0, 0, 0, 0, 0, 0, 0, 0, 0, 0, 0, 0, 0, 0, 0, 0, 0, 0, 0, 0, 0, 0, (o 69), (o 70), (o 71), (o 73)] : List Nat).getD i 0) (u_14.1 0) (u_14.1 1) (u_14.1 2) (u_14.1 3) (u_14.1 4) f73 f69 f70 f71 glines ghours glaw godds grows gheads gsayings gslugs gacts f26 f30 f31 (by omega) (by omega) (by omega) (by omega) (by omega) (by omega)) [6, 7, 8, 9, 10, 11, 12, 13, 14, 15] [0, 1, 2, 3, 4, 5] rfl rfl (by decide) (by decide) (by decide) rfl rfl rfl rfl rfl ⟨Nat.le_of_ble_eq_true rfl, Nat.le_of_ble_eq_true rfl, Nat.le_of_ble_eq_true rfl⟩ dX10_drawn_51 ⟨Nat.le_of_ble_eq_true rfl, Nat.le_of_ble_eq_true rfl⟩ (fun u_16 H locs hr_15 hP hD hS => ?_)
          have hP : va_P D vwCl [((o 0), .inr (10, [.ref (o 1), .ref (o 2), .ref (o 3), .ref (o 4), .ref (o 5), .ref (o 6), .ref (o 7), .ref (o 8), .ref (o 9), .ref (o 10), .ref (o 11), .ref (o 12), .ref (o 13), .ref (o 14)])), ((o 12), .inr (9, [.ref (o 3), .ref (o 5), .ref (o 6), .ref (o 81), .ref (o 82), .int (nI wsize), .ref (o 83), .ref (o 84), .int (nI wnext)])), ((o 81), .inl (k 0, 256, .inl f81)), ((o 82), .inl (k 2, 256, .inr (.inl f82))), ((o 83), .inl (k 0, 256, .inl f83)), ((o 84), .inl (k 2, 256, .inr (.inl f84))), ((o 6), .inr (1, [.ref (o 3), .ref (o 4), .int (u_14.1 0), .int (u_14.1 1), .int (u_14.1 2), .int (u_14.1 3), .int (u_14.1 4), .ref (o 73)])), ((o 73), .inl (k 0, 17, .inl (u_16.2.2.1 0))), ((o 4), .inr (3, [.ref (o 69), .ref (o 70), .ref (o 71)])), ((o 69), .inl (k 0, 17, .inl f69)), ((o 70), .inl (k 0, 17, .inl f70)), ((o 71), .inl (k 0, 17, .inl f71)), ((o 3), .inr (2, [.int glines, .int (nI ghours), .int glaw, .int godds, .int (nI grows), .int (nI gheads), .int (nI gsayings), .int (nI gslugs), .int (nI gacts), .ref (o 26), .ref (o 27), .ref (o 28), .ref (o 29), .ref (o 30), .ref (o 31), .ref (o 32), .ref (o 33), .ref (o 34), .ref (o 35)])), ((o 26), .inl (k 0, 12, .inl f26)), ((o 30), .inl (k 0, 12, .inl f30)), ((o 31), .inl (k 0, 12, .inl f31))] H := hP.sub [0, 1, 2, 3, 4, 5, 6, 7, 8, 9, 10, 11, 12, 13, 14, 15] rfl
          have hD : va_D A [((o 0), .inr (10, [.ref (o 1), .ref (o 2), .ref (o 3), .ref (o 4), .ref (o 5), .ref (o 6), .ref (o 7), .ref (o 8), .ref (o 9), .ref (o 10), .ref (o 11), .ref (o 12), .ref (o 13), .ref (o 14)])), ((o 12), .inr (9, [.ref (o 3), .ref (o 5), .ref (o 6), .ref (o 81), .ref (o 82), .int (nI wsize), .ref (o 83), .ref (o 84), .int (nI wnext)])), ((o 81), .inl (k 0, 256, .inl f81)), ((o 82), .inl (k 2, 256, .inr (.inl f82))), ((o 83), .inl (k 0, 256, .inl f83)), ((o 84), .inl (k 2, 256, .inr (.inl f84))), ((o 6), .inr (1, [.ref (o 3), .ref (o 4), .int (u_14.1 0), .int (u_14.1 1), .int (u_14.1 2), .int (u_14.1 3), .int (u_14.1 4), .ref (o 73)])), ((o 73), .inl (k 0, 17, .inl (u_16.2.2.1 0))), ((o 4), .inr (3, [.ref (o 69), .ref (o 70), .ref (o 71)])), ((o 69), .inl (k 0, 17, .inl f69)), ((o 70), .inl (k 0, 17, .inl f70)), ((o 71), .inl (k 0, 17, .inl f71)), ((o 3), .inr (2, [.int glines, .int (nI ghours), .int glaw, .int godds, .int (nI grows), .int (nI gheads), .int (nI gsayings), .int (nI gslugs), .int (nI gacts), .ref (o 26), .ref (o 27), .ref (o 28), .ref (o 29), .ref (o 30), .ref (o 31), .ref (o 32), .ref (o 33), .ref (o 34), .ref (o 35)])), ((o 26), .inl (k 0, 12, .inl f26)), ((o 30), .inl (k 0, 12, .inl f30)), ((o 31), .inl (k 0, 12, .inl f31))] := hD.sub [0, 1, 2, 3, 4, 5, 6, 7, 8, 9, 10, 11, 12, 13, 14, 15] (by decide) rfl
          refine lv_aload_n hx hb dX10_drawn_54 rfl (lv_at hl 1 rfl) ?_
          refine x_get S hK hP 0 rfl cfX10 5 lkX10_42 (by decide) rfl dX10_drawn_55 ?_
          refine x_roVi (As := []) S hK hP hD hZ (fun _ h => h) hA hS hA hl mwX1_lastState lkX10_362 (ctX1_lastState_c l D k z (fun i => ([0, 0, 0, (o 3), (o 4), (o 6), 0, 0, 0, 0, 0, 0, 0, 0, 0, 0, 0, 0, 0, 0, 0, 0, 0, 0, 0, 0, (o 26), (o 27), (o 28), (o 29), (o 30), (o 31), (o 32), (o 33), (o 34), (o 35), 0, 0, 0, 0, 0, 0, 0, 0, 0, 0, 0, 0, 0, 0, 0, 0, 0, 0, 0, 0, 0, 0, 0, 0, 0, 0, 0, 0, 0, 0, 0, 0, 0, (o 69), (o 70), (o 71), (o 73)] : List Nat).getD i 0) (u_14.1 0) (u_14.1 1) (u_14.1 2) (u_14.1 3) (u_14.1 4) (u_16.2.2.1 0) f69 f70 f71 glines ghours glaw godds grows gheads gsayings gslugs gacts f26 f30 f31 (by omega) (by omega) (by omega) (by omega) (by omega) (by omega)) [6, 7, 8, 9, 10, 11, 12, 13, 14, 15] rfl (by decide) rfl rfl rfl rfl rfl ⟨Nat.le_of_ble_eq_true rfl, Nat.le_of_ble_eq_true rfl, Nat.le_of_ble_eq_true rfl⟩ dX10_drawn_58 ⟨Nat.le_of_ble_eq_true rfl, Nat.le_of_ble_eq_true rfl⟩ (fun r_17 H locs hr_17 hP hS => ?_)
          refine lv_iload_n hx hb dX10_drawn_61 rfl (lv_at hl 3 rfl) ?_
          refine x_roSi (As := [.int r_17, .int p1]) S hK hP hD hZ (fun _ h => h) hA hS hA hl mwX10_holdersIn lkX10_365 (ctX10_holdersIn l D k z r_17 p1 ) [] rfl (by decide) rfl rfl ⟨Nat.le_of_ble_eq_true rfl, Nat.le_of_ble_eq_true rfl, Nat.le_of_ble_eq_true rfl⟩ dX10_drawn_62 ⟨Nat.le_of_ble_eq_true rfl, Nat.le_of_ble_eq_true rfl⟩ (fun r_19 H locs hr_19 hP hS => ?_)
          exact x_reti S hr hlk hQ hS ((fun i => ([(u_14.1 0), (u_14.1 1), (u_14.1 2), (u_14.1 3), (u_14.1 4)] : List (Int32)).getD i 0), (fun i => ([] : List (Nat)).getD i 0), (fun i => ([(u_16.2.2.1 0)] : List (Nat → Int32)).getD i (fun _ => 0)), (fun i => ([] : List (Nat → Int64)).getD i (fun _ => 0)), (fun i => ([] : List (Int64)).getD i 0)) trivial (x_B hP hD) dX10_drawn_65
        · skip
          refine lv_iload_n hx hb dX10_drawn_37 rfl (lv_at hl 0 rfl) ?_
          exact x_reti S hr hlk hQ hS ((fun i => ([tlawNow, tharder, ttold, treply, twet] : List (Int32)).getD i 0), (fun i => ([] : List (Nat)).getD i 0), (fun i => ([f73] : List (Nat → Int32)).getD i (fun _ => 0)), (fun i => ([] : List (Nat → Int64)).getD i (fun _ => 0)), (fun i => ([] : List (Int64)).getD i 0)) trivial (x_B hP hD) dX10_drawn_38
      · skip
        refine lv_bipush (v := (-2)) hx hb dX10_drawn_21 (by decide) ?_
        exact x_reti S hr hlk hQ hS ((fun i => ([tlawNow, tharder, ttold, treply, twet] : List (Int32)).getD i 0), (fun i => ([] : List (Nat)).getD i 0), (fun i => ([f73] : List (Nat → Int32)).getD i (fun _ => 0)), (fun i => ([] : List (Nat → Int64)).getD i (fun _ => 0)), (fun i => ([] : List (Int64)).getD i 0)) trivial (x_B hP hD) dX10_drawn_23

set_option maxHeartbeats 4000000 in
set_option maxRecDepth 100000 in
theorem ctX10_luck (l : Launch) (D : va_G) (k : Nat → ClassId) (z : Nat → Nat) (o : Nat → Nat) (wsize : Nat) (wnext : Nat) (f81 : Nat → Int32) (f82 : Nat → Int64) (f83 : Nat → Int32) (f84 : Nat → Int64) (tlawNow : Int32) (tharder : Int32) (ttold : Int32) (treply : Int32) (twet : Int32) (f73 : Nat → Int32) (f69 : Nat → Int32) (f70 : Nat → Int32) (f71 : Nat → Int32) (glines : Int32) (ghours : Nat) (glaw : Int32) (godds : Int32) (grows : Nat) (gheads : Nat) (gsayings : Nat) (gslugs : Nat) (gacts : Nat) (f26 : Nat → Int32) (f30 : Nat → Int32) (f31 : Nat → Int32) (p0 : Int32) (p1 : Int32) (p2 : Int32) (p3 : Int32) (hwsize : wsize ≤ 256) (hwnext : wnext ≤ 256) (hghours : ghours ≤ 16) (hgrows : grows ≤ 4) (hgheads : gheads ≤ 12) (hgsayings : gsayings ≤ 8) (hgslugs : gslugs ≤ 4) (hgacts : gacts ≤ 30) : MU l yX10_luck cX10_luck 6 (some .int) 5 D k z [.ref (o 0), .int p0, .int p1, .int p2, .int p3] [((o 0), .inr (10, [.ref (o 1), .ref (o 2), .ref (o 3), .ref (o 4), .ref (o 5), .ref (o 6), .ref (o 7), .ref (o 8), .ref (o 9), .ref (o 10), .ref (o 11), .ref (o 12), .ref (o 13), .ref (o 14)])), ((o 12), .inr (9, [.ref (o 3), .ref (o 5), .ref (o 6), .ref (o 81), .ref (o 82), .int (nI wsize), .ref (o 83), .ref (o 84), .int (nI wnext)])), ((o 81), .inl (k 0, 256, .inl f81)), ((o 82), .inl (k 2, 256, .inr (.inl f82))), ((o 83), .inl (k 0, 256, .inl f83)), ((o 84), .inl (k 2, 256, .inr (.inl f84))), ((o 6), .inr (1, [.ref (o 3), .ref (o 4), .int tlawNow, .int tharder, .int ttold, .int treply, .int twet, .ref (o 73)])), ((o 73), .inl (k 0, 17, .inl f73)), ((o 4), .inr (3, [.ref (o 69), .ref (o 70), .ref (o 71)])), ((o 69), .inl (k 0, 17, .inl f69)), ((o 70), .inl (k 0, 17, .inl f70)), ((o 71), .inl (k 0, 17, .inl f71)), ((o 3), .inr (2, [.int glines, .int (nI ghours), .int glaw, .int godds, .int (nI grows), .int (nI gheads), .int (nI gsayings), .int (nI gslugs), .int (nI gacts), .ref (o 26), .ref (o 27), .ref (o 28), .ref (o 29), .ref (o 30), .ref (o 31), .ref (o 32), .ref (o 33), .ref (o 34), .ref (o 35)])), ((o 26), .inl (k 0, 12, .inl f26)), ((o 30), .inl (k 0, 12, .inl f30)), ((o 31), .inl (k 0, 12, .inl f31))] 0 0 (Ui D (fun (r : Int32) (u : (Nat → Int32) × (Nat → Nat) × (Nat → Nat → Int32) × (Nat → Nat → Int64) × (Nat → Int64)) => True) (fun u : (Nat → Int32) × (Nat → Nat) × (Nat → Nat → Int32) × (Nat → Nat → Int64) × (Nat → Int64) => [((o 0), .inr (10, [.ref (o 1), .ref (o 2), .ref (o 3), .ref (o 4), .ref (o 5), .ref (o 6), .ref (o 7), .ref (o 8), .ref (o 9), .ref (o 10), .ref (o 11), .ref (o 12), .ref (o 13), .ref (o 14)])), ((o 12), .inr (9, [.ref (o 3), .ref (o 5), .ref (o 6), .ref (o 81), .ref (o 82), .int (nI wsize), .ref (o 83), .ref (o 84), .int (nI wnext)])), ((o 81), .inl (k 0, 256, .inl f81)), ((o 82), .inl (k 2, 256, .inr (.inl f82))), ((o 83), .inl (k 0, 256, .inl f83)), ((o 84), .inl (k 2, 256, .inr (.inl f84))), ((o 6), .inr (1, [.ref (o 3), .ref (o 4), .int (u.1 0), .int (u.1 1), .int (u.1 2), .int (u.1 3), .int (u.1 4), .ref (o 73)])), ((o 73), .inl (k 0, 17, .inl (u.2.2.1 0))), ((o 4), .inr (3, [.ref (o 69), .ref (o 70), .ref (o 71)])), ((o 69), .inl (k 0, 17, .inl f69)), ((o 70), .inl (k 0, 17, .inl f70)), ((o 71), .inl (k 0, 17, .inl f71)), ((o 3), .inr (2, [.int glines, .int (nI ghours), .int glaw, .int godds, .int (nI grows), .int (nI gheads), .int (nI gsayings), .int (nI gslugs), .int (nI gacts), .ref (o 26), .ref (o 27), .ref (o 28), .ref (o 29), .ref (o 30), .ref (o 31), .ref (o 32), .ref (o 33), .ref (o 34), .ref (o 35)])), ((o 26), .inl (k 0, 12, .inl f26)), ((o 30), .inl (k 0, 12, .inl f30)), ((o 31), .inl (k 0, 12, .inl f31))])) := by
  refine MU.of (by decide) (Nat.le_of_ble_eq_true rfl) ?_
  intro p e s m below meth c ls A args Q S hr hlk hnm hQ hK hP hD hZ hA hS hl
  have hx := S.1
  have hb := S.2.1
  have hl : lv_has ls 6 [(0, .ref (o 0)), (1, .int p0), (2, .int p1), (3, .int p2), (4, .int p3)] := hl
  refine lv_iload_n hx hb dX10_luck_0 rfl (lv_at hl 1 rfl) ?_
  refine x_roSi (As := [.int p0]) S hK hP hD hZ (fun _ h => h) hA hS hA hl mwX10_isSeed lkX10_404 (ctX10_isSeed l D k z p0 ) [] rfl (by decide) rfl rfl ⟨Nat.le_of_ble_eq_true rfl, Nat.le_of_ble_eq_true rfl, Nat.le_of_ble_eq_true rfl⟩ dX10_luck_1 ⟨Nat.le_of_ble_eq_true rfl, Nat.le_of_ble_eq_true rfl⟩ (fun r_1 H locs hr_1 hP hS => ?_)
  refine lv_if_eq (tgt := 38) hx hb dX10_luck_4 (by decide) (fun c_3 => ?_) (fun c_3 => ?_)
  · skip
    refine lv_iconst (v := 0) hx hb dX10_luck_38 (by decide) ?_
    refine lv_istore (lv' := [(5, .int 0), (0, .ref (o 0)), (1, .int p0), (2, .int p1), (3, .int p2), (4, .int p3)]) hx hb dX10_luck_39 hl (by decide) rfl (fun ls hl => ?_)
    refine lv_iload hx hb dX10_luck_41 (lv_at hl 0 rfl) ?_
    refine lv_if_eq (tgt := 61) hx hb dX10_luck_43 (by decide) (fun c_4 => ?_) (fun c_4 => absurd (by decide) c_4)
    refine lv_bipush (v := (-2)) hx hb dX10_luck_61 (by decide) ?_
    exact x_reti S hr hlk hQ hS ((fun i => ([tlawNow, tharder, ttold, treply, twet] : List (Int32)).getD i 0), (fun i => ([] : List (Nat)).getD i 0), (fun i => ([f73] : List (Nat → Int32)).getD i (fun _ => 0)), (fun i => ([] : List (Nat → Int64)).getD i (fun _ => 0)), (fun i => ([] : List (Int64)).getD i 0)) trivial (x_B hP hD) dX10_luck_63
  · skip
    refine lv_iload_n hx hb dX10_luck_7 rfl (lv_at hl 2 rfl) ?_
    refine lv_iconst (v := 1) hx hb dX10_luck_8 (by decide) ?_
    refine lv_icmp_lt (tgt := 38) hx hb dX10_luck_9 (by decide) (fun c_5 => ?_) (fun c_5 => ?_)
    · skip
      refine lv_iconst (v := 0) hx hb dX10_luck_38 (by decide) ?_
      refine lv_istore (lv' := [(5, .int 0), (0, .ref (o 0)), (1, .int p0), (2, .int p1), (3, .int p2), (4, .int p3)]) hx hb dX10_luck_39 hl (by decide) rfl (fun ls hl => ?_)
      refine lv_iload hx hb dX10_luck_41 (lv_at hl 0 rfl) ?_
      refine lv_if_eq (tgt := 61) hx hb dX10_luck_43 (by decide) (fun c_6 => ?_) (fun c_6 => absurd (by decide) c_6)
      refine lv_bipush (v := (-2)) hx hb dX10_luck_61 (by decide) ?_
      exact x_reti S hr hlk hQ hS ((fun i => ([tlawNow, tharder, ttold, treply, twet] : List (Int32)).getD i 0), (fun i => ([] : List (Nat)).getD i 0), (fun i => ([f73] : List (Nat → Int32)).getD i (fun _ => 0)), (fun i => ([] : List (Nat → Int64)).getD i (fun _ => 0)), (fun i => ([] : List (Int64)).getD i 0)) trivial (x_B hP hD) dX10_luck_63
    · skip
      refine lv_iload_n hx hb dX10_luck_12 rfl (lv_at hl 2 rfl) ?_
      refine lv_bipush (v := 20) hx hb dX10_luck_13 (by decide) ?_
      refine lv_icmp_gt (tgt := 38) hx hb dX10_luck_15 (by decide) (fun c_7 => ?_) (fun c_7 => ?_)
      · skip
        refine lv_iconst (v := 0) hx hb dX10_luck_38 (by decide) ?_
        refine lv_istore (lv' := [(5, .int 0), (0, .ref (o 0)), (1, .int p0), (2, .int p1), (3, .int p2), (4, .int p3)]) hx hb dX10_luck_39 hl (by decide) rfl (fun ls hl => ?_)
        refine lv_iload hx hb dX10_luck_41 (lv_at hl 0 rfl) ?_
        refine lv_if_eq (tgt := 61) hx hb dX10_luck_43 (by decide) (fun c_8 => ?_) (fun c_8 => absurd (by decide) c_8)
        refine lv_bipush (v := (-2)) hx hb dX10_luck_61 (by decide) ?_
        exact x_reti S hr hlk hQ hS ((fun i => ([tlawNow, tharder, ttold, treply, twet] : List (Int32)).getD i 0), (fun i => ([] : List (Nat)).getD i 0), (fun i => ([f73] : List (Nat → Int32)).getD i (fun _ => 0)), (fun i => ([] : List (Nat → Int64)).getD i (fun _ => 0)), (fun i => ([] : List (Int64)).getD i 0)) trivial (x_B hP hD) dX10_luck_63
      · skip
        obtain ⟨kn, hkn, ekn⟩ : ∃ kn : Nat, kn < 20 + 1 ∧ p1 = nI kn := nat_in (nn1 c_5) (Int32.not_lt.mp c_7) (by decide) (by omega)
        have hl : lv_has ls 6 [(0, .ref (o 0)), (1, .int p0), (2, .int (nI kn)), (3, .int p2), (4, .int p3)] := by rw [ekn] at hl; exact hl
        refine lv_aload_n hx hb dX10_luck_18 rfl (lv_at hl 0 rfl) ?_
        refine lv_iload_n hx hb dX10_luck_19 rfl (lv_at hl 3 rfl) ?_
        refine x_roVi (As := [.int p2]) S hK hP hD hZ (fun _ h => h) hA hS hA hl mwX10_isHead lkX10_135 (ctX10_isHead l D k z o glines ghours glaw godds grows gheads gsayings gslugs gacts p2 (by omega) (by omega) (by omega) (by omega) (by omega) (by omega)) [0, 12] rfl (by decide) rfl rfl rfl rfl rfl ⟨Nat.le_of_ble_eq_true rfl, Nat.le_of_ble_eq_true rfl, Nat.le_of_ble_eq_true rfl⟩ dX10_luck_20 ⟨Nat.le_of_ble_eq_true rfl, Nat.le_of_ble_eq_true rfl⟩ (fun r_9 H locs hr_9 hP hS => ?_)
        have hp_11 := hr_9
        refine lv_if_eq (tgt := 38) hx hb dX10_luck_23 (by decide) (fun c_12 => ?_) (fun c_12 => ?_)
        · skip
          refine lv_iconst (v := 0) hx hb dX10_luck_38 (by decide) ?_
          refine lv_istore (lv' := [(5, .int 0), (0, .ref (o 0)), (1, .int p0), (2, .int (nI kn)), (3, .int p2), (4, .int p3)]) hx hb dX10_luck_39 hl (by decide) rfl (fun ls hl => ?_)
          refine lv_iload hx hb dX10_luck_41 (lv_at hl 0 rfl) ?_
          refine lv_if_eq (tgt := 61) hx hb dX10_luck_43 (by decide) (fun c_13 => ?_) (fun c_13 => absurd (by decide) c_13)
          refine lv_bipush (v := (-2)) hx hb dX10_luck_61 (by decide) ?_
          exact x_reti S hr hlk hQ hS ((fun i => ([tlawNow, tharder, ttold, treply, twet] : List (Int32)).getD i 0), (fun i => ([] : List (Nat)).getD i 0), (fun i => ([f73] : List (Nat → Int32)).getD i (fun _ => 0)), (fun i => ([] : List (Nat → Int64)).getD i (fun _ => 0)), (fun i => ([] : List (Int64)).getD i 0)) trivial (x_B hP hD) dX10_luck_63
        · skip
          obtain ⟨n_14, rfl, hn_14⟩ := hp_11.resolve_left c_12
          refine lv_iload hx hb dX10_luck_26 (lv_at hl 4 rfl) ?_
          refine x_roSi (As := [.int p3]) S hK hP hD hZ (fun _ h => h) hA hS hA hl mwX10_isAnyView lkX10_168 (ctX10_isAnyView l D k z p3 ) [] rfl (by decide) rfl rfl ⟨Nat.le_of_ble_eq_true rfl, Nat.le_of_ble_eq_true rfl, Nat.le_of_ble_eq_true rfl⟩ dX10_luck_28 ⟨Nat.le_of_ble_eq_true rfl, Nat.le_of_ble_eq_true rfl⟩ (fun r_15 H locs hr_15 hP hS => ?_)
          refine lv_if_eq (tgt := 38) hx hb dX10_luck_31 (by decide) (fun c_17 => ?_) (fun c_17 => ?_)
          · skip
            refine lv_iconst (v := 0) hx hb dX10_luck_38 (by decide) ?_
            refine lv_istore (lv' := [(5, .int 0), (0, .ref (o 0)), (1, .int p0), (2, .int (nI kn)), (3, .int (nI n_14)), (4, .int p3)]) hx hb dX10_luck_39 hl (by decide) rfl (fun ls hl => ?_)
            refine lv_iload hx hb dX10_luck_41 (lv_at hl 0 rfl) ?_
            refine lv_if_eq (tgt := 61) hx hb dX10_luck_43 (by decide) (fun c_18 => ?_) (fun c_18 => absurd (by decide) c_18)
            refine lv_bipush (v := (-2)) hx hb dX10_luck_61 (by decide) ?_
            exact x_reti S hr hlk hQ hS ((fun i => ([tlawNow, tharder, ttold, treply, twet] : List (Int32)).getD i 0), (fun i => ([] : List (Nat)).getD i 0), (fun i => ([f73] : List (Nat → Int32)).getD i (fun _ => 0)), (fun i => ([] : List (Nat → Int64)).getD i (fun _ => 0)), (fun i => ([] : List (Int64)).getD i 0)) trivial (x_B hP hD) dX10_luck_63
          · skip
            refine lv_iconst (v := 1) hx hb dX10_luck_34 (by decide) ?_
            refine lv_goto (tgt := 39) hx hb dX10_luck_35 (by decide) ?_
            refine lv_istore (lv' := [(5, .int 1), (0, .ref (o 0)), (1, .int p0), (2, .int (nI kn)), (3, .int (nI n_14)), (4, .int p3)]) hx hb dX10_luck_39 hl (by decide) rfl (fun ls hl => ?_)
            refine lv_iload hx hb dX10_luck_41 (lv_at hl 0 rfl) ?_
            refine lv_if_eq (tgt := 61) hx hb dX10_luck_43 (by decide) (fun c_19 => absurd c_19 (by decide)) (fun c_19 => ?_)
            refine lv_aload_n hx hb dX10_luck_46 rfl (lv_at hl 1 rfl) ?_
            refine x_get S hK hP 0 rfl cfX10 11 lkX10_91 (by decide) rfl dX10_luck_47 ?_
            refine lv_iload_n hx hb dX10_luck_50 rfl (lv_at hl 2 rfl) ?_
            refine lv_iload_n hx hb dX10_luck_51 rfl (lv_at hl 3 rfl) ?_
            refine lv_iload_n hx hb dX10_luck_52 rfl (lv_at hl 4 rfl) ?_
            refine lv_iload hx hb dX10_luck_53 (lv_at hl 5 rfl) ?_
            refine x_muVi (wr := [((o 0), .inr (10, [.ref (o 1), .ref (o 2), .ref (o 3), .ref (o 4), .ref (o 5), .ref (o 6), .ref (o 7), .ref (o 8), .ref (o 9), .ref (o 10), .ref (o 11), .ref (o 12), .ref (o 13), .ref (o 14)]))]) (As := [.int p0, .int (nI kn), .int (nI n_14), .int p3]) S hK hP hD hZ hS hA hl mwX9_luckySummers lkX10_413 (ctX9_luckySummers l D k z o wsize wnext f81 f82 f83 f84 tlawNow tharder ttold treply twet f73 f69 f70 f71 glines ghours glaw godds grows gheads gsayings gslugs gacts f26 f30 f31 p0 kn (nI n_14) p3 (by omega) (by omega) (by omega) (by omega) (by omega) (by omega) (by omega) (by omega) (by omega)) [1, 2, 3, 4, 5, 6, 7, 8, 9, 10, 11, 12, 13, 14, 15] [0] rfl rfl (by decide) (by decide) (by decide) rfl rfl rfl rfl rfl ⟨Nat.le_of_ble_eq_true rfl, Nat.le_of_ble_eq_true rfl, Nat.le_of_ble_eq_true rfl⟩ dX10_luck_55 ⟨Nat.le_of_ble_eq_true rfl, Nat.le_of_ble_eq_true rfl⟩ (fun r_20 u_21 H locs hr_20 hP hD hS => ?_)
            have hP : va_P D vwCl [((o 0), .inr (10, [.ref (o 1), .ref (o 2), .ref (o 3), .ref (o 4), .ref (o 5), .ref (o 6), .ref (o 7), .ref (o 8), .ref (o 9), .ref (o 10), .ref (o 11), .ref (o 12), .ref (o 13), .ref (o 14)])), ((o 12), .inr (9, [.ref (o 3), .ref (o 5), .ref (o 6), .ref (o 81), .ref (o 82), .int (nI wsize), .ref (o 83), .ref (o 84), .int (nI wnext)])), ((o 81), .inl (k 0, 256, .inl f81)), ((o 82), .inl (k 2, 256, .inr (.inl f82))), ((o 83), .inl (k 0, 256, .inl f83)), ((o 84), .inl (k 2, 256, .inr (.inl f84))), ((o 6), .inr (1, [.ref (o 3), .ref (o 4), .int (u_21.1 0), .int (u_21.1 1), .int (u_21.1 2), .int (u_21.1 3), .int (u_21.1 4), .ref (o 73)])), ((o 73), .inl (k 0, 17, .inl (u_21.2.2.1 0))), ((o 4), .inr (3, [.ref (o 69), .ref (o 70), .ref (o 71)])), ((o 69), .inl (k 0, 17, .inl f69)), ((o 70), .inl (k 0, 17, .inl f70)), ((o 71), .inl (k 0, 17, .inl f71)), ((o 3), .inr (2, [.int glines, .int (nI ghours), .int glaw, .int godds, .int (nI grows), .int (nI gheads), .int (nI gsayings), .int (nI gslugs), .int (nI gacts), .ref (o 26), .ref (o 27), .ref (o 28), .ref (o 29), .ref (o 30), .ref (o 31), .ref (o 32), .ref (o 33), .ref (o 34), .ref (o 35)])), ((o 26), .inl (k 0, 12, .inl f26)), ((o 30), .inl (k 0, 12, .inl f30)), ((o 31), .inl (k 0, 12, .inl f31))] H := hP.sub [0, 1, 2, 3, 4, 5, 6, 7, 8, 9, 10, 11, 12, 13, 14, 15] rfl
            have hD : va_D A [((o 0), .inr (10, [.ref (o 1), .ref (o 2), .ref (o 3), .ref (o 4), .ref (o 5), .ref (o 6), .ref (o 7), .ref (o 8), .ref (o 9), .ref (o 10), .ref (o 11), .ref (o 12), .ref (o 13), .ref (o 14)])), ((o 12), .inr (9, [.ref (o 3), .ref (o 5), .ref (o 6), .ref (o 81), .ref (o 82), .int (nI wsize), .ref (o 83), .ref (o 84), .int (nI wnext)])), ((o 81), .inl (k 0, 256, .inl f81)), ((o 82), .inl (k 2, 256, .inr (.inl f82))), ((o 83), .inl (k 0, 256, .inl f83)), ((o 84), .inl (k 2, 256, .inr (.inl f84))), ((o 6), .inr (1, [.ref (o 3), .ref (o 4), .int (u_21.1 0), .int (u_21.1 1), .int (u_21.1 2), .int (u_21.1 3), .int (u_21.1 4), .ref (o 73)])), ((o 73), .inl (k 0, 17, .inl (u_21.2.2.1 0))), ((o 4), .inr (3, [.ref (o 69), .ref (o 70), .ref (o 71)])), ((o 69), .inl (k 0, 17, .inl f69)), ((o 70), .inl (k 0, 17, .inl f70)), ((o 71), .inl (k 0, 17, .inl f71)), ((o 3), .inr (2, [.int glines, .int (nI ghours), .int glaw, .int godds, .int (nI grows), .int (nI gheads), .int (nI gsayings), .int (nI gslugs), .int (nI gacts), .ref (o 26), .ref (o 27), .ref (o 28), .ref (o 29), .ref (o 30), .ref (o 31), .ref (o 32), .ref (o 33), .ref (o 34), .ref (o 35)])), ((o 26), .inl (k 0, 12, .inl f26)), ((o 30), .inl (k 0, 12, .inl f30)), ((o 31), .inl (k 0, 12, .inl f31))] := hD.sub [0, 1, 2, 3, 4, 5, 6, 7, 8, 9, 10, 11, 12, 13, 14, 15] (by decide) rfl
            refine lv_goto (tgt := 63) hx hb dX10_luck_58 (by decide) ?_
            exact x_reti S hr hlk hQ hS ((fun i => ([(u_21.1 0), (u_21.1 1), (u_21.1 2), (u_21.1 3), (u_21.1 4)] : List (Int32)).getD i 0), (fun i => ([] : List (Nat)).getD i 0), (fun i => ([(u_21.2.2.1 0)] : List (Nat → Int32)).getD i (fun _ => 0)), (fun i => ([] : List (Nat → Int64)).getD i (fun _ => 0)), (fun i => ([] : List (Int64)).getD i 0)) trivial (x_B hP hD) dX10_luck_63

theorem lsctX10_count_1 (x : Int32) (h0 : ¬ x = 0) (h1 : ¬ x = 1) (h2 : ¬ x = 2) (h3 : ¬ x = 3) (h4 : ¬ x = 4) (h5 : ¬ x = 5) (h6 : ¬ x = 6) (h7 : ¬ x = 7) (h8 : ¬ x = 8) (h9 : ¬ x = 9) (h10 : ¬ x = 10) : x.toInt < 0 ∨ 10 < x.toInt := by
  simp only [fa_eq, tz_0, tz_1, tz_2, tz_3, tz_4, tz_5, tz_6, tz_7, tz_8, tz_9, tz_10] at *
  omega
set_option maxHeartbeats 4000000 in
set_option maxRecDepth 100000 in
theorem ctX10_count (l : Launch) (D : va_G) (k : Nat → ClassId) (z : Nat → Nat) (o : Nat → Nat) (rfault : Int32) (rplace : Int32) (rkind : Int32) (rvalue : Int32) (rnumber : Int32) (rsize : Nat) (rstart : Nat) (rnext : Nat) (f78 : Nat → Int32) (f79 : Nat → Int32) (glines : Int32) (ghours : Nat) (glaw : Int32) (godds : Int32) (grows : Nat) (gheads : Nat) (gsayings : Nat) (gslugs : Nat) (gacts : Nat) (p0 : Int32) (hrsize : rsize ≤ 600) (hrstart : rstart ≤ 600) (hrnext : rnext ≤ 600) (hok : okL f79) (hghours : ghours ≤ 16) (hgrows : grows ≤ 4) (hgheads : gheads ≤ 12) (hgsayings : gsayings ≤ 8) (hgslugs : gslugs ≤ 4) (hgacts : gacts ≤ 30) : RO l yX10_count cX10_count 2 (some .int) 2 D k z [.ref (o 0), .int p0] [((o 0), .inr (10, [.ref (o 1), .ref (o 2), .ref (o 3), .ref (o 4), .ref (o 5), .ref (o 6), .ref (o 7), .ref (o 8), .ref (o 9), .ref (o 10), .ref (o 11), .ref (o 12), .ref (o 13), .ref (o 14)])), ((o 1), .inr (4, [.ref (o 15), .int (nI rsize), .int rfault, .int rplace, .int rkind, .int (nI rstart), .int (nI rnext), .int rvalue, .int rnumber])), ((o 10), .inr (6, [.ref (o 77), .ref (o 78), .ref (o 79)])), ((o 78), .inl (k 0, 4, .inl f78)), ((o 79), .inl (k 0, 4, .inl f79)), ((o 3), .inr (2, [.int glines, .int (nI ghours), .int glaw, .int godds, .int (nI grows), .int (nI gheads), .int (nI gsayings), .int (nI gslugs), .int (nI gacts), .ref (o 26), .ref (o 27), .ref (o 28), .ref (o 29), .ref (o 30), .ref (o 31), .ref (o 32), .ref (o 33), .ref (o 34), .ref (o 35)]))] (Qi (fun r : Int32 => True)) := by
  refine RO.of (by decide) (Nat.le_of_ble_eq_true rfl) ?_
  intro p e s m below meth c ls A B args Q S hr hlk hQ hK hP hDW hZ hAB hBA hA hS hl
  have hx := S.1
  have hb := S.2.1
  have hl : lv_has ls 2 [(0, .ref (o 0)), (1, .int p0)] := hl
  refine lv_iload_n hx hb dX10_count_0 rfl (lv_at hl 1 rfl) ?_
  by_cases c_1 : p0 = 0
  · skip
    refine x_is 0 c_1 ?_
    refine lv_tableIn (tgt := 60) hx hb dX10_count_1 (by decide) (by decide) rfl (by decide) ?_
    refine lv_aload_n hx hb dX10_count_60 rfl (lv_at hl 0 rfl) ?_
    refine x_get S hK hP 0 rfl cfX10 2 lkX10_23 (by decide) rfl dX10_count_61 ?_
    refine x_get S hK hP 5 rfl cfX2 1 lkX10_401 (by decide) rfl dX10_count_64 ?_
    exact x_reti S hr hlk hQ hS () trivial x_T dX10_count_67
  by_cases c_2 : p0 = 1
  · skip
    refine x_is 1 c_2 ?_
    refine lv_tableIn (tgt := 68) hx hb dX10_count_1 (by decide) (by decide) rfl (by decide) ?_
    refine lv_aload_n hx hb dX10_count_68 rfl (lv_at hl 0 rfl) ?_
    refine x_get S hK hP 0 rfl cfX10 2 lkX10_23 (by decide) rfl dX10_count_69 ?_
    refine x_get S hK hP 5 rfl cfX2 2 lkX10_417 (by decide) rfl dX10_count_72 ?_
    exact x_reti S hr hlk hQ hS () trivial x_T dX10_count_75
  by_cases c_3 : p0 = 2
  · skip
    refine x_is 2 c_3 ?_
    refine lv_tableIn (tgt := 76) hx hb dX10_count_1 (by decide) (by decide) rfl (by decide) ?_
    refine lv_aload_n hx hb dX10_count_76 rfl (lv_at hl 0 rfl) ?_
    refine x_get S hK hP 0 rfl cfX10 2 lkX10_23 (by decide) rfl dX10_count_77 ?_
    refine x_get S hK hP 5 rfl cfX2 3 lkX10_420 (by decide) rfl dX10_count_80 ?_
    exact x_reti S hr hlk hQ hS () trivial x_T dX10_count_83
  by_cases c_4 : p0 = 3
  · skip
    refine x_is 3 c_4 ?_
    refine lv_tableIn (tgt := 84) hx hb dX10_count_1 (by decide) (by decide) rfl (by decide) ?_
    refine lv_aload_n hx hb dX10_count_84 rfl (lv_at hl 0 rfl) ?_
    refine x_get S hK hP 0 rfl cfX10 2 lkX10_23 (by decide) rfl dX10_count_85 ?_
    refine x_get S hK hP 5 rfl cfX2 4 lkX10_423 (by decide) rfl dX10_count_88 ?_
    exact x_reti S hr hlk hQ hS () trivial x_T dX10_count_91
  by_cases c_5 : p0 = 4
  · skip
    refine x_is 4 c_5 ?_
    refine lv_tableIn (tgt := 92) hx hb dX10_count_1 (by decide) (by decide) rfl (by decide) ?_
    refine lv_aload_n hx hb dX10_count_92 rfl (lv_at hl 0 rfl) ?_
    refine x_get S hK hP 0 rfl cfX10 2 lkX10_23 (by decide) rfl dX10_count_93 ?_
    refine x_get S hK hP 5 rfl cfX2 5 lkX10_296 (by decide) rfl dX10_count_96 ?_
    exact x_reti S hr hlk hQ hS () trivial x_T dX10_count_99
  by_cases c_6 : p0 = 5
  · skip
    refine x_is 5 c_6 ?_
    refine lv_tableIn (tgt := 100) hx hb dX10_count_1 (by decide) (by decide) rfl (by decide) ?_
    refine lv_aload_n hx hb dX10_count_100 rfl (lv_at hl 0 rfl) ?_
    refine x_get S hK hP 0 rfl cfX10 2 lkX10_23 (by decide) rfl dX10_count_101 ?_
    refine x_get S hK hP 5 rfl cfX2 6 lkX10_426 (by decide) rfl dX10_count_104 ?_
    exact x_reti S hr hlk hQ hS () trivial x_T dX10_count_107
  by_cases c_7 : p0 = 6
  · skip
    refine x_is 6 c_7 ?_
    refine lv_tableIn (tgt := 108) hx hb dX10_count_1 (by decide) (by decide) rfl (by decide) ?_
    refine lv_aload_n hx hb dX10_count_108 rfl (lv_at hl 0 rfl) ?_
    refine x_get S hK hP 0 rfl cfX10 2 lkX10_23 (by decide) rfl dX10_count_109 ?_
    refine x_get S hK hP 5 rfl cfX2 7 lkX10_429 (by decide) rfl dX10_count_112 ?_
    exact x_reti S hr hlk hQ hS () trivial x_T dX10_count_115
  by_cases c_8 : p0 = 7
  · skip
    refine x_is 7 c_8 ?_
    refine lv_tableIn (tgt := 116) hx hb dX10_count_1 (by decide) (by decide) rfl (by decide) ?_
    refine lv_aload_n hx hb dX10_count_116 rfl (lv_at hl 0 rfl) ?_
    refine x_get S hK hP 0 rfl cfX10 2 lkX10_23 (by decide) rfl dX10_count_117 ?_
    refine x_get S hK hP 5 rfl cfX2 8 lkX10_394 (by decide) rfl dX10_count_120 ?_
    exact x_reti S hr hlk hQ hS () trivial x_T dX10_count_123
  by_cases c_9 : p0 = 8
  · skip
    refine x_is 8 c_9 ?_
    refine lv_tableIn (tgt := 124) hx hb dX10_count_1 (by decide) (by decide) rfl (by decide) ?_
    refine lv_aload_n hx hb dX10_count_124 rfl (lv_at hl 0 rfl) ?_
    refine x_get S hK hP 0 rfl cfX10 2 lkX10_23 (by decide) rfl dX10_count_125 ?_
    refine x_get S hK hP 5 rfl cfX2 0 lkX10_126 (by decide) rfl dX10_count_128 ?_
    exact x_reti S hr hlk hQ hS () trivial x_T dX10_count_131
  by_cases c_10 : p0 = 9
  · skip
    refine x_is 9 c_10 ?_
    refine lv_tableIn (tgt := 132) hx hb dX10_count_1 (by decide) (by decide) rfl (by decide) ?_
    refine lv_aload_n hx hb dX10_count_132 rfl (lv_at hl 0 rfl) ?_
    refine x_get S hK hP 0 rfl cfX10 0 lkX10_10 (by decide) rfl dX10_count_133 ?_
    refine x_get S hK hP 1 rfl cfX4 1 lkX10_114 (by decide) rfl dX10_count_136 ?_
    exact x_reti S hr hlk hQ hS () trivial x_T dX10_count_139
  by_cases c_11 : p0 = 10
  · skip
    refine x_is 10 c_11 ?_
    refine lv_tableIn (tgt := 140) hx hb dX10_count_1 (by decide) (by decide) rfl (by decide) ?_
    refine lv_aload_n hx hb dX10_count_140 rfl (lv_at hl 0 rfl) ?_
    refine x_get S hK hP 0 rfl cfX10 9 lkX10_73 (by decide) rfl dX10_count_141 ?_
    refine x_roVi (As := []) S hK hP hDW hZ hAB hBA hS hA hl mwX6_filled lkX10_432 (ctX6_filled l D k z o f78 f79 (hok)) [2, 3, 4] rfl (by decide) rfl rfl rfl rfl rfl ⟨Nat.le_of_ble_eq_true rfl, Nat.le_of_ble_eq_true rfl, Nat.le_of_ble_eq_true rfl⟩ dX10_count_144 ⟨Nat.le_of_ble_eq_true rfl, Nat.le_of_ble_eq_true rfl⟩ (fun r_12 H locs hr_12 hP hS => ?_)
    exact x_reti S hr hlk hQ hS () trivial x_T dX10_count_147
  refine lv_tableOut (tgt := 148) hx hb dX10_count_1 (lsctX10_count_1 _ c_1 c_2 c_3 c_4 c_5 c_6 c_7 c_8 c_9 c_10 c_11) (by decide) ?_
  refine lv_iconst (v := (-1)) hx hb dX10_count_148 (by decide) ?_
  exact x_reti S hr hlk hQ hS () trivial x_T dX10_count_149

