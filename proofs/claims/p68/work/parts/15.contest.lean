theorem dX0_forget_0 : decode cX0_forget 0 = .ok (.aload_n 0, 1) := by decide +kernel
theorem dX0_forget_1 : decode cX0_forget 1 = .ok (.bipush (-2), 2) := by decide +kernel
theorem dX0_forget_3 : decode cX0_forget 3 = .ok (.putfield 11, 3) := by decide +kernel
theorem dX0_forget_6 : decode cX0_forget 6 = .ok (.return_, 1) := by decide +kernel
theorem dX0_outcome_0 : decode cX0_outcome 0 = .ok (.aload_n 0, 1) := by decide +kernel
theorem dX0_outcome_1 : decode cX0_outcome 1 = .ok (.getfield 19, 3) := by decide +kernel
theorem dX0_outcome_4 : decode cX0_outcome 4 = .ok (.iload_n 1, 1) := by decide +kernel
theorem dX0_outcome_5 : decode cX0_outcome 5 = .ok (.iload_n 2, 1) := by decide +kernel
theorem dX0_outcome_6 : decode cX0_outcome 6 = .ok (.invokevirtual 23, 3) := by decide +kernel
theorem dX0_outcome_9 : decode cX0_outcome 9 = .ok (.aload_n 0, 1) := by decide +kernel
theorem dX0_outcome_10 : decode cX0_outcome 10 = .ok (.getfield 19, 3) := by decide +kernel
theorem dX0_outcome_13 : decode cX0_outcome 13 = .ok (.invokevirtual 29, 3) := by decide +kernel
theorem dX0_outcome_16 : decode cX0_outcome 16 = .ok (.aload_n 0, 1) := by decide +kernel
theorem dX0_outcome_17 : decode cX0_outcome 17 = .ok (.getfield 19, 3) := by decide +kernel
theorem dX0_outcome_20 : decode cX0_outcome 20 = .ok (.invokevirtual 32, 3) := by decide +kernel
theorem dX0_outcome_23 : decode cX0_outcome 23 = .ok (.aload_n 0, 1) := by decide +kernel
theorem dX0_outcome_24 : decode cX0_outcome 24 = .ok (.getfield 15, 3) := by decide +kernel
theorem dX0_outcome_27 : decode cX0_outcome 27 = .ok (.invokevirtual 36, 3) := by decide +kernel
theorem dX0_outcome_30 : decode cX0_outcome 30 = .ok (.invokestatic 41, 3) := by decide +kernel
theorem dX0_outcome_33 : decode cX0_outcome 33 = .ok (.ireturn, 1) := by decide +kernel
theorem dX0_bestReply_0 : decode cX0_bestReply 0 = .ok (.iconst (-1), 1) := by decide +kernel
theorem dX0_bestReply_1 : decode cX0_bestReply 1 = .ok (.istore_n 2, 1) := by decide +kernel
theorem dX0_bestReply_2 : decode cX0_bestReply 2 = .ok (.iconst 0, 1) := by decide +kernel
theorem dX0_bestReply_3 : decode cX0_bestReply 3 = .ok (.istore_n 3, 1) := by decide +kernel
theorem dX0_bestReply_4 : decode cX0_bestReply 4 = .ok (.iconst 0, 1) := by decide +kernel
theorem dX0_bestReply_5 : decode cX0_bestReply 5 = .ok (.istore 4, 2) := by decide +kernel
theorem dX0_bestReply_7 : decode cX0_bestReply 7 = .ok (.iload 4, 2) := by decide +kernel
theorem dX0_bestReply_9 : decode cX0_bestReply 9 = .ok (.aload_n 0, 1) := by decide +kernel
theorem dX0_bestReply_10 : decode cX0_bestReply 10 = .ok (.getfield 15, 3) := by decide +kernel
theorem dX0_bestReply_13 : decode cX0_bestReply 13 = .ok (.getfield 45, 3) := by decide +kernel
theorem dX0_bestReply_16 : decode cX0_bestReply 16 = .ok (.if_icmp .ge 35, 3) := by decide +kernel
theorem dX0_bestReply_19 : decode cX0_bestReply 19 = .ok (.aload_n 0, 1) := by decide +kernel
theorem dX0_bestReply_20 : decode cX0_bestReply 20 = .ok (.iload_n 1, 1) := by decide +kernel
theorem dX0_bestReply_21 : decode cX0_bestReply 21 = .ok (.iload 4, 2) := by decide +kernel
theorem dX0_bestReply_23 : decode cX0_bestReply 23 = .ok (.invokevirtual 48, 3) := by decide +kernel
theorem dX0_bestReply_26 : decode cX0_bestReply 26 = .ok (.istore 5, 2) := by decide +kernel
theorem dX0_bestReply_28 : decode cX0_bestReply 28 = .ok (.iload_n 2, 1) := by decide +kernel
theorem dX0_bestReply_29 : decode cX0_bestReply 29 = .ok (.iconst (-1), 1) := by decide +kernel
theorem dX0_bestReply_30 : decode cX0_bestReply 30 = .ok (.if_icmp .eq 9, 3) := by decide +kernel
theorem dX0_bestReply_33 : decode cX0_bestReply 33 = .ok (.iload 5, 2) := by decide +kernel
theorem dX0_bestReply_35 : decode cX0_bestReply 35 = .ok (.iload_n 3, 1) := by decide +kernel
theorem dX0_bestReply_36 : decode cX0_bestReply 36 = .ok (.if_icmp .ge 9, 3) := by decide +kernel
theorem dX0_bestReply_39 : decode cX0_bestReply 39 = .ok (.iload 5, 2) := by decide +kernel
theorem dX0_bestReply_41 : decode cX0_bestReply 41 = .ok (.istore_n 3, 1) := by decide +kernel
theorem dX0_bestReply_42 : decode cX0_bestReply 42 = .ok (.iload 4, 2) := by decide +kernel
theorem dX0_bestReply_44 : decode cX0_bestReply 44 = .ok (.istore_n 2, 1) := by decide +kernel
theorem dX0_bestReply_45 : decode cX0_bestReply 45 = .ok (.iinc 4 1, 3) := by decide +kernel
theorem dX0_bestReply_48 : decode cX0_bestReply 48 = .ok (.goto (-41), 3) := by decide +kernel
theorem dX0_bestReply_51 : decode cX0_bestReply 51 = .ok (.iload_n 2, 1) := by decide +kernel
theorem dX0_bestReply_52 : decode cX0_bestReply 52 = .ok (.ireturn, 1) := by decide +kernel
theorem dX0_seekOpener_0 : decode cX0_seekOpener 0 = .ok (.aload_n 0, 1) := by decide +kernel
theorem dX0_seekOpener_1 : decode cX0_seekOpener 1 = .ok (.getfield 11, 3) := by decide +kernel
theorem dX0_seekOpener_4 : decode cX0_seekOpener 4 = .ok (.bipush (-2), 2) := by decide +kernel
theorem dX0_seekOpener_6 : decode cX0_seekOpener 6 = .ok (.if_icmp .eq 4, 3) := by decide +kernel
theorem dX0_seekOpener_9 : decode cX0_seekOpener 9 = .ok (.return_, 1) := by decide +kernel
theorem dX0_seekOpener_10 : decode cX0_seekOpener 10 = .ok (.aload_n 0, 1) := by decide +kernel
theorem dX0_seekOpener_11 : decode cX0_seekOpener 11 = .ok (.iconst (-1), 1) := by decide +kernel
theorem dX0_seekOpener_12 : decode cX0_seekOpener 12 = .ok (.putfield 11, 3) := by decide +kernel
theorem dX0_seekOpener_15 : decode cX0_seekOpener 15 = .ok (.aload_n 0, 1) := by decide +kernel
theorem dX0_seekOpener_16 : decode cX0_seekOpener 16 = .ok (.bipush (-13), 2) := by decide +kernel
theorem dX0_seekOpener_18 : decode cX0_seekOpener 18 = .ok (.putfield 51, 3) := by decide +kernel
theorem dX0_seekOpener_21 : decode cX0_seekOpener 21 = .ok (.iconst 0, 1) := by decide +kernel
theorem dX0_seekOpener_22 : decode cX0_seekOpener 22 = .ok (.istore_n 1, 1) := by decide +kernel
theorem dX0_seekOpener_23 : decode cX0_seekOpener 23 = .ok (.iload_n 1, 1) := by decide +kernel
theorem dX0_seekOpener_24 : decode cX0_seekOpener 24 = .ok (.aload_n 0, 1) := by decide +kernel
theorem dX0_seekOpener_25 : decode cX0_seekOpener 25 = .ok (.getfield 15, 3) := by decide +kernel
theorem dX0_seekOpener_28 : decode cX0_seekOpener 28 = .ok (.getfield 45, 3) := by decide +kernel
theorem dX0_seekOpener_31 : decode cX0_seekOpener 31 = .ok (.if_icmp .ge 68, 3) := by decide +kernel
theorem dX0_seekOpener_34 : decode cX0_seekOpener 34 = .ok (.bipush 12, 2) := by decide +kernel
theorem dX0_seekOpener_36 : decode cX0_seekOpener 36 = .ok (.istore_n 2, 1) := by decide +kernel
theorem dX0_seekOpener_37 : decode cX0_seekOpener 37 = .ok (.iconst 0, 1) := by decide +kernel
theorem dX0_seekOpener_38 : decode cX0_seekOpener 38 = .ok (.istore_n 3, 1) := by decide +kernel
theorem dX0_seekOpener_39 : decode cX0_seekOpener 39 = .ok (.iload_n 3, 1) := by decide +kernel
theorem dX0_seekOpener_40 : decode cX0_seekOpener 40 = .ok (.aload_n 0, 1) := by decide +kernel
theorem dX0_seekOpener_41 : decode cX0_seekOpener 41 = .ok (.getfield 15, 3) := by decide +kernel
theorem dX0_seekOpener_44 : decode cX0_seekOpener 44 = .ok (.getfield 45, 3) := by decide +kernel
theorem dX0_seekOpener_47 : decode cX0_seekOpener 47 = .ok (.if_icmp .ge 28, 3) := by decide +kernel
theorem dX0_seekOpener_50 : decode cX0_seekOpener 50 = .ok (.iload_n 2, 1) := by decide +kernel
theorem dX0_seekOpener_51 : decode cX0_seekOpener 51 = .ok (.aload_n 0, 1) := by decide +kernel
theorem dX0_seekOpener_52 : decode cX0_seekOpener 52 = .ok (.getfield 51, 3) := by decide +kernel
theorem dX0_seekOpener_55 : decode cX0_seekOpener 55 = .ok (.if_icmp .le 20, 3) := by decide +kernel
theorem dX0_seekOpener_58 : decode cX0_seekOpener 58 = .ok (.iload_n 2, 1) := by decide +kernel
theorem dX0_seekOpener_59 : decode cX0_seekOpener 59 = .ok (.aload_n 0, 1) := by decide +kernel
theorem dX0_seekOpener_60 : decode cX0_seekOpener 60 = .ok (.iload_n 1, 1) := by decide +kernel
theorem dX0_seekOpener_61 : decode cX0_seekOpener 61 = .ok (.iload_n 3, 1) := by decide +kernel
theorem dX0_seekOpener_62 : decode cX0_seekOpener 62 = .ok (.invokevirtual 48, 3) := by decide +kernel
theorem dX0_seekOpener_65 : decode cX0_seekOpener 65 = .ok (.invokestatic 54, 3) := by decide +kernel
theorem dX0_seekOpener_68 : decode cX0_seekOpener 68 = .ok (.istore_n 2, 1) := by decide +kernel
theorem dX0_seekOpener_69 : decode cX0_seekOpener 69 = .ok (.iinc 3 1, 3) := by decide +kernel
theorem dX0_seekOpener_72 : decode cX0_seekOpener 72 = .ok (.goto (-33), 3) := by decide +kernel
theorem dX0_seekOpener_75 : decode cX0_seekOpener 75 = .ok (.iload_n 2, 1) := by decide +kernel
theorem dX0_seekOpener_76 : decode cX0_seekOpener 76 = .ok (.aload_n 0, 1) := by decide +kernel
theorem dX0_seekOpener_77 : decode cX0_seekOpener 77 = .ok (.getfield 51, 3) := by decide +kernel
theorem dX0_seekOpener_80 : decode cX0_seekOpener 80 = .ok (.if_icmp .le 13, 3) := by decide +kernel
theorem dX0_seekOpener_83 : decode cX0_seekOpener 83 = .ok (.aload_n 0, 1) := by decide +kernel
theorem dX0_seekOpener_84 : decode cX0_seekOpener 84 = .ok (.iload_n 2, 1) := by decide +kernel
theorem dX0_seekOpener_85 : decode cX0_seekOpener 85 = .ok (.putfield 51, 3) := by decide +kernel
theorem dX0_seekOpener_88 : decode cX0_seekOpener 88 = .ok (.aload_n 0, 1) := by decide +kernel
theorem dX0_seekOpener_89 : decode cX0_seekOpener 89 = .ok (.iload_n 1, 1) := by decide +kernel
theorem dX0_seekOpener_90 : decode cX0_seekOpener 90 = .ok (.putfield 11, 3) := by decide +kernel
theorem dX0_seekOpener_93 : decode cX0_seekOpener 93 = .ok (.iinc 1 1, 3) := by decide +kernel
theorem dX0_seekOpener_96 : decode cX0_seekOpener 96 = .ok (.goto (-73), 3) := by decide +kernel
theorem dX0_seekOpener_99 : decode cX0_seekOpener 99 = .ok (.return_, 1) := by decide +kernel
theorem dX0_gain_0 : decode cX0_gain 0 = .ok (.aload_n 0, 1) := by decide +kernel
theorem dX0_gain_1 : decode cX0_gain 1 = .ok (.getfield 19, 3) := by decide +kernel
theorem dX0_gain_4 : decode cX0_gain 4 = .ok (.iload_n 2, 1) := by decide +kernel
theorem dX0_gain_5 : decode cX0_gain 5 = .ok (.invokevirtual 59, 3) := by decide +kernel
theorem dX0_gain_8 : decode cX0_gain 8 = .ok (.aload_n 0, 1) := by decide +kernel
theorem dX0_gain_9 : decode cX0_gain 9 = .ok (.getfield 19, 3) := by decide +kernel
theorem dX0_gain_12 : decode cX0_gain 12 = .ok (.invokevirtual 29, 3) := by decide +kernel
theorem dX0_gain_15 : decode cX0_gain 15 = .ok (.iload_n 2, 1) := by decide +kernel
theorem dX0_gain_16 : decode cX0_gain 16 = .ok (.iload_n 1, 1) := by decide +kernel
theorem dX0_gain_17 : decode cX0_gain 17 = .ok (.iushr, 1) := by decide +kernel
theorem dX0_gain_18 : decode cX0_gain 18 = .ok (.iconst 1, 1) := by decide +kernel
theorem dX0_gain_19 : decode cX0_gain 19 = .ok (.iand, 1) := by decide +kernel
theorem dX0_gain_20 : decode cX0_gain 20 = .ok (.ifCond .eq 8, 3) := by decide +kernel
theorem dX0_gain_23 : decode cX0_gain 23 = .ok (.bipush (-3), 2) := by decide +kernel
theorem dX0_gain_25 : decode cX0_gain 25 = .ok (.goto 4, 3) := by decide +kernel
theorem dX0_gain_28 : decode cX0_gain 28 = .ok (.iconst 0, 1) := by decide +kernel
theorem dX0_gain_29 : decode cX0_gain 29 = .ok (.istore_n 3, 1) := by decide +kernel
theorem dX0_gain_30 : decode cX0_gain 30 = .ok (.iconst 1, 1) := by decide +kernel
theorem dX0_gain_31 : decode cX0_gain 31 = .ok (.istore 4, 2) := by decide +kernel
theorem dX0_gain_33 : decode cX0_gain 33 = .ok (.iload 4, 2) := by decide +kernel
theorem dX0_gain_35 : decode cX0_gain 35 = .ok (.aload_n 0, 1) := by decide +kernel
theorem dX0_gain_36 : decode cX0_gain 36 = .ok (.getfield 15, 3) := by decide +kernel
theorem dX0_gain_39 : decode cX0_gain 39 = .ok (.getfield 63, 3) := by decide +kernel
theorem dX0_gain_42 : decode cX0_gain 42 = .ok (.if_icmp .gt 46, 3) := by decide +kernel
theorem dX0_gain_45 : decode cX0_gain 45 = .ok (.aload_n 0, 1) := by decide +kernel
theorem dX0_gain_46 : decode cX0_gain 46 = .ok (.getfield 19, 3) := by decide +kernel
theorem dX0_gain_49 : decode cX0_gain 49 = .ok (.iload_n 1, 1) := by decide +kernel
theorem dX0_gain_50 : decode cX0_gain 50 = .ok (.iload 4, 2) := by decide +kernel
theorem dX0_gain_52 : decode cX0_gain 52 = .ok (.invokevirtual 66, 3) := by decide +kernel
theorem dX0_gain_55 : decode cX0_gain 55 = .ok (.istore 5, 2) := by decide +kernel
theorem dX0_gain_57 : decode cX0_gain 57 = .ok (.iload 5, 2) := by decide +kernel
theorem dX0_gain_59 : decode cX0_gain 59 = .ok (.ifCond .eq 23, 3) := by decide +kernel
theorem dX0_gain_62 : decode cX0_gain 62 = .ok (.iload 5, 2) := by decide +kernel
theorem dX0_gain_64 : decode cX0_gain 64 = .ok (.aload_n 0, 1) := by decide +kernel
theorem dX0_gain_65 : decode cX0_gain 65 = .ok (.getfield 19, 3) := by decide +kernel
theorem dX0_gain_68 : decode cX0_gain 68 = .ok (.iload_n 1, 1) := by decide +kernel
theorem dX0_gain_69 : decode cX0_gain 69 = .ok (.iload 4, 2) := by decide +kernel
theorem dX0_gain_71 : decode cX0_gain 71 = .ok (.iconst 1, 1) := by decide +kernel
theorem dX0_gain_72 : decode cX0_gain 72 = .ok (.isub, 1) := by decide +kernel
theorem dX0_gain_73 : decode cX0_gain 73 = .ok (.invokevirtual 66, 3) := by decide +kernel
theorem dX0_gain_76 : decode cX0_gain 76 = .ok (.if_icmp .ne 6, 3) := by decide +kernel
theorem dX0_gain_79 : decode cX0_gain 79 = .ok (.iinc 3 2, 3) := by decide +kernel
theorem dX0_gain_82 : decode cX0_gain 82 = .ok (.iinc 4 1, 3) := by decide +kernel
theorem dX0_gain_85 : decode cX0_gain 85 = .ok (.goto (-52), 3) := by decide +kernel
theorem dX0_gain_88 : decode cX0_gain 88 = .ok (.iload_n 3, 1) := by decide +kernel
theorem dX0_gain_89 : decode cX0_gain 89 = .ok (.ireturn, 1) := by decide +kernel
theorem dX0_restingPairs_0 : decode cX0_restingPairs 0 = .ok (.iconst 0, 1) := by decide +kernel
theorem dX0_restingPairs_1 : decode cX0_restingPairs 1 = .ok (.istore_n 3, 1) := by decide +kernel
theorem dX0_restingPairs_2 : decode cX0_restingPairs 2 = .ok (.iconst 0, 1) := by decide +kernel
theorem dX0_restingPairs_3 : decode cX0_restingPairs 3 = .ok (.istore 4, 2) := by decide +kernel
theorem dX0_restingPairs_5 : decode cX0_restingPairs 5 = .ok (.iload 4, 2) := by decide +kernel
theorem dX0_restingPairs_7 : decode cX0_restingPairs 7 = .ok (.iconst 4, 1) := by decide +kernel
theorem dX0_restingPairs_8 : decode cX0_restingPairs 8 = .ok (.if_icmp .ge 97, 3) := by decide +kernel
theorem dX0_restingPairs_11 : decode cX0_restingPairs 11 = .ok (.iload 4, 2) := by decide +kernel
theorem dX0_restingPairs_13 : decode cX0_restingPairs 13 = .ok (.iconst 1, 1) := by decide +kernel
theorem dX0_restingPairs_14 : decode cX0_restingPairs 14 = .ok (.iand, 1) := by decide +kernel
theorem dX0_restingPairs_15 : decode cX0_restingPairs 15 = .ok (.iload_n 1, 1) := by decide +kernel
theorem dX0_restingPairs_16 : decode cX0_restingPairs 16 = .ok (.ishl, 1) := by decide +kernel
theorem dX0_restingPairs_17 : decode cX0_restingPairs 17 = .ok (.iload 4, 2) := by decide +kernel
theorem dX0_restingPairs_19 : decode cX0_restingPairs 19 = .ok (.iconst 1, 1) := by decide +kernel
theorem dX0_restingPairs_20 : decode cX0_restingPairs 20 = .ok (.iushr, 1) := by decide +kernel
theorem dX0_restingPairs_21 : decode cX0_restingPairs 21 = .ok (.iload_n 2, 1) := by decide +kernel
theorem dX0_restingPairs_22 : decode cX0_restingPairs 22 = .ok (.ishl, 1) := by decide +kernel
theorem dX0_restingPairs_23 : decode cX0_restingPairs 23 = .ok (.ior, 1) := by decide +kernel
theorem dX0_restingPairs_24 : decode cX0_restingPairs 24 = .ok (.istore 5, 2) := by decide +kernel
theorem dX0_restingPairs_26 : decode cX0_restingPairs 26 = .ok (.aload_n 0, 1) := by decide +kernel
theorem dX0_restingPairs_27 : decode cX0_restingPairs 27 = .ok (.iload_n 1, 1) := by decide +kernel
theorem dX0_restingPairs_28 : decode cX0_restingPairs 28 = .ok (.iload 5, 2) := by decide +kernel
theorem dX0_restingPairs_30 : decode cX0_restingPairs 30 = .ok (.invokevirtual 69, 3) := by decide +kernel
theorem dX0_restingPairs_33 : decode cX0_restingPairs 33 = .ok (.aload_n 0, 1) := by decide +kernel
theorem dX0_restingPairs_34 : decode cX0_restingPairs 34 = .ok (.iload_n 1, 1) := by decide +kernel
theorem dX0_restingPairs_35 : decode cX0_restingPairs 35 = .ok (.iload 5, 2) := by decide +kernel
theorem dX0_restingPairs_37 : decode cX0_restingPairs 37 = .ok (.iconst 1, 1) := by decide +kernel
theorem dX0_restingPairs_38 : decode cX0_restingPairs 38 = .ok (.iload_n 1, 1) := by decide +kernel
theorem dX0_restingPairs_39 : decode cX0_restingPairs 39 = .ok (.ishl, 1) := by decide +kernel
theorem dX0_restingPairs_40 : decode cX0_restingPairs 40 = .ok (.ixor, 1) := by decide +kernel
theorem dX0_restingPairs_41 : decode cX0_restingPairs 41 = .ok (.invokevirtual 69, 3) := by decide +kernel
theorem dX0_restingPairs_44 : decode cX0_restingPairs 44 = .ok (.if_icmp .lt 7, 3) := by decide +kernel
theorem dX0_restingPairs_47 : decode cX0_restingPairs 47 = .ok (.iconst 1, 1) := by decide +kernel
theorem dX0_restingPairs_48 : decode cX0_restingPairs 48 = .ok (.goto 4, 3) := by decide +kernel
theorem dX0_restingPairs_51 : decode cX0_restingPairs 51 = .ok (.iconst 0, 1) := by decide +kernel
theorem dX0_restingPairs_52 : decode cX0_restingPairs 52 = .ok (.istore 6, 2) := by decide +kernel
theorem dX0_restingPairs_54 : decode cX0_restingPairs 54 = .ok (.aload_n 0, 1) := by decide +kernel
theorem dX0_restingPairs_55 : decode cX0_restingPairs 55 = .ok (.iload_n 2, 1) := by decide +kernel
theorem dX0_restingPairs_56 : decode cX0_restingPairs 56 = .ok (.iload 5, 2) := by decide +kernel
theorem dX0_restingPairs_58 : decode cX0_restingPairs 58 = .ok (.invokevirtual 69, 3) := by decide +kernel
theorem dX0_restingPairs_61 : decode cX0_restingPairs 61 = .ok (.aload_n 0, 1) := by decide +kernel
theorem dX0_restingPairs_62 : decode cX0_restingPairs 62 = .ok (.iload_n 2, 1) := by decide +kernel
theorem dX0_restingPairs_63 : decode cX0_restingPairs 63 = .ok (.iload 5, 2) := by decide +kernel
theorem dX0_restingPairs_65 : decode cX0_restingPairs 65 = .ok (.iconst 1, 1) := by decide +kernel
theorem dX0_restingPairs_66 : decode cX0_restingPairs 66 = .ok (.iload_n 2, 1) := by decide +kernel
theorem dX0_restingPairs_67 : decode cX0_restingPairs 67 = .ok (.ishl, 1) := by decide +kernel
theorem dX0_restingPairs_68 : decode cX0_restingPairs 68 = .ok (.ixor, 1) := by decide +kernel
theorem dX0_restingPairs_69 : decode cX0_restingPairs 69 = .ok (.invokevirtual 69, 3) := by decide +kernel
theorem dX0_restingPairs_72 : decode cX0_restingPairs 72 = .ok (.if_icmp .lt 7, 3) := by decide +kernel
theorem dX0_restingPairs_75 : decode cX0_restingPairs 75 = .ok (.iconst 1, 1) := by decide +kernel
theorem dX0_restingPairs_76 : decode cX0_restingPairs 76 = .ok (.goto 4, 3) := by decide +kernel
theorem dX0_restingPairs_79 : decode cX0_restingPairs 79 = .ok (.iconst 0, 1) := by decide +kernel
theorem dX0_restingPairs_80 : decode cX0_restingPairs 80 = .ok (.istore 7, 2) := by decide +kernel
theorem dX0_restingPairs_82 : decode cX0_restingPairs 82 = .ok (.iload 6, 2) := by decide +kernel
theorem dX0_restingPairs_84 : decode cX0_restingPairs 84 = .ok (.ifCond .eq 15, 3) := by decide +kernel
theorem dX0_restingPairs_87 : decode cX0_restingPairs 87 = .ok (.iload 7, 2) := by decide +kernel
theorem dX0_restingPairs_89 : decode cX0_restingPairs 89 = .ok (.ifCond .eq 10, 3) := by decide +kernel
theorem dX0_restingPairs_92 : decode cX0_restingPairs 92 = .ok (.iload_n 3, 1) := by decide +kernel
theorem dX0_restingPairs_93 : decode cX0_restingPairs 93 = .ok (.iconst 1, 1) := by decide +kernel
theorem dX0_restingPairs_94 : decode cX0_restingPairs 94 = .ok (.iload 4, 2) := by decide +kernel
theorem dX0_restingPairs_96 : decode cX0_restingPairs 96 = .ok (.ishl, 1) := by decide +kernel
theorem dX0_restingPairs_97 : decode cX0_restingPairs 97 = .ok (.ior, 1) := by decide +kernel
theorem dX0_restingPairs_98 : decode cX0_restingPairs 98 = .ok (.istore_n 3, 1) := by decide +kernel
theorem dX0_restingPairs_99 : decode cX0_restingPairs 99 = .ok (.iinc 4 1, 3) := by decide +kernel
theorem dX0_restingPairs_102 : decode cX0_restingPairs 102 = .ok (.goto (-97), 3) := by decide +kernel
theorem dX0_restingPairs_105 : decode cX0_restingPairs 105 = .ok (.iload_n 3, 1) := by decide +kernel
theorem dX0_restingPairs_106 : decode cX0_restingPairs 106 = .ok (.ireturn, 1) := by decide +kernel
theorem dX0_bestLaw_0 : decode cX0_bestLaw 0 = .ok (.iconst 0, 1) := by decide +kernel
theorem dX0_bestLaw_1 : decode cX0_bestLaw 1 = .ok (.istore_n 1, 1) := by decide +kernel
theorem dX0_bestLaw_2 : decode cX0_bestLaw 2 = .ok (.iconst (-1), 1) := by decide +kernel
theorem dX0_bestLaw_3 : decode cX0_bestLaw 3 = .ok (.istore_n 2, 1) := by decide +kernel
theorem dX0_bestLaw_4 : decode cX0_bestLaw 4 = .ok (.iconst 0, 1) := by decide +kernel
theorem dX0_bestLaw_5 : decode cX0_bestLaw 5 = .ok (.istore_n 3, 1) := by decide +kernel
theorem dX0_bestLaw_6 : decode cX0_bestLaw 6 = .ok (.iload_n 3, 1) := by decide +kernel
theorem dX0_bestLaw_7 : decode cX0_bestLaw 7 = .ok (.iconst 4, 1) := by decide +kernel
theorem dX0_bestLaw_8 : decode cX0_bestLaw 8 = .ok (.if_icmp .ge 51, 3) := by decide +kernel
theorem dX0_bestLaw_11 : decode cX0_bestLaw 11 = .ok (.aload_n 0, 1) := by decide +kernel
theorem dX0_bestLaw_12 : decode cX0_bestLaw 12 = .ok (.getfield 19, 3) := by decide +kernel
theorem dX0_bestLaw_15 : decode cX0_bestLaw 15 = .ok (.iload_n 3, 1) := by decide +kernel
theorem dX0_bestLaw_16 : decode cX0_bestLaw 16 = .ok (.invokevirtual 72, 3) := by decide +kernel
theorem dX0_bestLaw_19 : decode cX0_bestLaw 19 = .ok (.aload_n 0, 1) := by decide +kernel
theorem dX0_bestLaw_20 : decode cX0_bestLaw 20 = .ok (.getfield 19, 3) := by decide +kernel
theorem dX0_bestLaw_23 : decode cX0_bestLaw 23 = .ok (.invokevirtual 29, 3) := by decide +kernel
theorem dX0_bestLaw_26 : decode cX0_bestLaw 26 = .ok (.aload_n 0, 1) := by decide +kernel
theorem dX0_bestLaw_27 : decode cX0_bestLaw 27 = .ok (.getfield 19, 3) := by decide +kernel
theorem dX0_bestLaw_30 : decode cX0_bestLaw 30 = .ok (.invokevirtual 32, 3) := by decide +kernel
theorem dX0_bestLaw_33 : decode cX0_bestLaw 33 = .ok (.iconst 1, 1) := by decide +kernel
theorem dX0_bestLaw_34 : decode cX0_bestLaw 34 = .ok (.invokestatic 75, 3) := by decide +kernel
theorem dX0_bestLaw_37 : decode cX0_bestLaw 37 = .ok (.invokestatic 78, 3) := by decide +kernel
theorem dX0_bestLaw_40 : decode cX0_bestLaw 40 = .ok (.istore 4, 2) := by decide +kernel
theorem dX0_bestLaw_42 : decode cX0_bestLaw 42 = .ok (.iload 4, 2) := by decide +kernel
theorem dX0_bestLaw_44 : decode cX0_bestLaw 44 = .ok (.iload_n 2, 1) := by decide +kernel
theorem dX0_bestLaw_45 : decode cX0_bestLaw 45 = .ok (.if_icmp .le 8, 3) := by decide +kernel
theorem dX0_bestLaw_48 : decode cX0_bestLaw 48 = .ok (.iload 4, 2) := by decide +kernel
theorem dX0_bestLaw_50 : decode cX0_bestLaw 50 = .ok (.istore_n 2, 1) := by decide +kernel
theorem dX0_bestLaw_51 : decode cX0_bestLaw 51 = .ok (.iload_n 3, 1) := by decide +kernel
theorem dX0_bestLaw_52 : decode cX0_bestLaw 52 = .ok (.istore_n 1, 1) := by decide +kernel
theorem dX0_bestLaw_53 : decode cX0_bestLaw 53 = .ok (.iinc 3 1, 3) := by decide +kernel
theorem dX0_bestLaw_56 : decode cX0_bestLaw 56 = .ok (.goto (-50), 3) := by decide +kernel
theorem dX0_bestLaw_59 : decode cX0_bestLaw 59 = .ok (.iload_n 1, 1) := by decide +kernel
theorem dX0_bestLaw_60 : decode cX0_bestLaw 60 = .ok (.ireturn, 1) := by decide +kernel
set_option maxHeartbeats 4000000 in
set_option maxRecDepth 100000 in
theorem ctX0_forget (l : Launch) (D : va_G) (k : Nat → ClassId) (z : Nat → Nat) (o : Nat → Nat) (kopener : Int32) (kworth : Int32)  : MU l yX0_forget cX0_forget 1 none 0 D k z [.ref (o 9)] [((o 9), .inr (0, [.ref (o 3), .ref (o 6), .int kopener, .int kworth]))] 0 0 (Uv D (fun _ : (Nat → Int32) × (Nat → Nat) × (Nat → Nat → Int32) × (Nat → Nat → Int64) × (Nat → Int64) => True) (fun u : (Nat → Int32) × (Nat → Nat) × (Nat → Nat → Int32) × (Nat → Nat → Int64) × (Nat → Int64) => [((o 9), .inr (0, [.ref (o 3), .ref (o 6), .int (u.1 0), .int kworth]))])) := by
  refine MU.of (by decide) (Nat.le_of_ble_eq_true rfl) ?_
  intro p e s m below meth c ls A args Q S hr hlk hnm hQ hK hP hD hZ hA hS hl
  have hx := S.1
  have hb := S.2.1
  have hl : lv_has ls 1 [(0, .ref (o 9))] := hl
  refine lv_aload_n hx hb dX0_forget_0 rfl (lv_at hl 0 rfl) ?_
  refine lv_bipush (v := (-2)) hx hb dX0_forget_1 (by decide) ?_
  refine x_put (ws' := [((o 9), .inr (0, [.ref (o 3), .ref (o 6), .int (-2), .int kworth]))]) S hK hP hD hS 0 rfl cfX0 2 lkX0_11 (by decide) rfl rfl rfl (Nat.le_of_ble_eq_true rfl) rfl dX0_forget_3 (fun H locs hP hD hS => ?_)
  exact x_retv S hr hlk hQ hS ((fun i => ([(-2)] : List (Int32)).getD i 0), (fun i => ([] : List (Nat)).getD i 0), (fun i => ([] : List (Nat → Int32)).getD i (fun _ => 0)), (fun i => ([] : List (Nat → Int64)).getD i (fun _ => 0)), (fun i => ([] : List (Int64)).getD i 0)) trivial (x_B hP hD) dX0_forget_6

set_option maxHeartbeats 4000000 in
set_option maxRecDepth 100000 in
theorem ctX0_outcome (l : Launch) (D : va_G) (k : Nat → ClassId) (z : Nat → Nat) (o : Nat → Nat) (kopener : Int32) (kworth : Int32) (tlawNow : Int32) (tharder : Int32) (ttold : Int32) (treply : Int32) (twet : Int32) (f73 : Nat → Int32) (f69 : Nat → Int32) (f70 : Nat → Int32) (f71 : Nat → Int32) (glines : Int32) (ghours : Nat) (glaw : Int32) (godds : Int32) (grows : Nat) (gheads : Nat) (gsayings : Nat) (gslugs : Nat) (gacts : Nat) (f26 : Nat → Int32) (f30 : Nat → Int32) (f31 : Nat → Int32) (p0 : Int32) (p1 : Int32) (hghours : ghours ≤ 16) (hgrows : grows ≤ 4) (hgheads : gheads ≤ 12) (hgsayings : gsayings ≤ 8) (hgslugs : gslugs ≤ 4) (hgacts : gacts ≤ 30) : MU l yX0_outcome cX0_outcome 3 (some .int) 4 D k z [.ref (o 9), .int p0, .int p1] [((o 9), .inr (0, [.ref (o 3), .ref (o 6), .int kopener, .int kworth])), ((o 6), .inr (1, [.ref (o 3), .ref (o 4), .int tlawNow, .int tharder, .int ttold, .int treply, .int twet, .ref (o 73)])), ((o 73), .inl (k 0, 17, .inl f73)), ((o 4), .inr (3, [.ref (o 69), .ref (o 70), .ref (o 71)])), ((o 69), .inl (k 0, 17, .inl f69)), ((o 70), .inl (k 0, 17, .inl f70)), ((o 71), .inl (k 0, 17, .inl f71)), ((o 3), .inr (2, [.int glines, .int (nI ghours), .int glaw, .int godds, .int (nI grows), .int (nI gheads), .int (nI gsayings), .int (nI gslugs), .int (nI gacts), .ref (o 26), .ref (o 27), .ref (o 28), .ref (o 29), .ref (o 30), .ref (o 31), .ref (o 32), .ref (o 33), .ref (o 34), .ref (o 35)])), ((o 26), .inl (k 0, 12, .inl f26)), ((o 30), .inl (k 0, 12, .inl f30)), ((o 31), .inl (k 0, 12, .inl f31))] 0 0 (Ui D (fun (r : Int32) (u : (Nat → Int32) × (Nat → Nat) × (Nat → Nat → Int32) × (Nat → Nat → Int64) × (Nat → Int64)) => True) (fun u : (Nat → Int32) × (Nat → Nat) × (Nat → Nat → Int32) × (Nat → Nat → Int64) × (Nat → Int64) => [((o 9), .inr (0, [.ref (o 3), .ref (o 6), .int kopener, .int kworth])), ((o 6), .inr (1, [.ref (o 3), .ref (o 4), .int (u.1 0), .int (u.1 1), .int (u.1 2), .int (u.1 3), .int (u.1 4), .ref (o 73)])), ((o 73), .inl (k 0, 17, .inl (u.2.2.1 0))), ((o 4), .inr (3, [.ref (o 69), .ref (o 70), .ref (o 71)])), ((o 69), .inl (k 0, 17, .inl f69)), ((o 70), .inl (k 0, 17, .inl f70)), ((o 71), .inl (k 0, 17, .inl f71)), ((o 3), .inr (2, [.int glines, .int (nI ghours), .int glaw, .int godds, .int (nI grows), .int (nI gheads), .int (nI gsayings), .int (nI gslugs), .int (nI gacts), .ref (o 26), .ref (o 27), .ref (o 28), .ref (o 29), .ref (o 30), .ref (o 31), .ref (o 32), .ref (o 33), .ref (o 34), .ref (o 35)])), ((o 26), .inl (k 0, 12, .inl f26)), ((o 30), .inl (k 0, 12, .inl f30)), ((o 31), .inl (k 0, 12, .inl f31))])) := by
  refine MU.of (by decide) (Nat.le_of_ble_eq_true rfl) ?_
  intro p e s m below meth c ls A args Q S hr hlk hnm hQ hK hP hD hZ hA hS hl
  have hx := S.1
  have hb := S.2.1
  have hl : lv_has ls 3 [(0, .ref (o 9)), (1, .int p0), (2, .int p1)] := hl
  refine lv_aload_n hx hb dX0_outcome_0 rfl (lv_at hl 0 rfl) ?_
  refine x_get S hK hP 0 rfl cfX0 1 lkX0_19 (by decide) rfl dX0_outcome_1 ?_
  refine lv_iload_n hx hb dX0_outcome_4 rfl (lv_at hl 1 rfl) ?_
  refine lv_iload_n hx hb dX0_outcome_5 rfl (lv_at hl 2 rfl) ?_
  refine x_muVv (wr := [((o 9), .inr (0, [.ref (o 3), .ref (o 6), .int kopener, .int kworth]))]) (As := [.int p0, .int p1]) S hK hP hD hZ hS hA hl mwX1_asDuel lkX0_23 (ctX1_asDuel_c l D k z (fun i => ([0, 0, 0, (o 3), (o 4), (o 6), 0, 0, 0, 0, 0, 0, 0, 0, 0, 0, 0, 0, 0, 0, 0, 0, 0, 0, 0, 0, (o 26), (o 27), (o 28), (o 29), (o 30), (o 31), (o 32), (o 33), (o 34), (o 35), 0, 0, 0, 0, 0, 0, 0, 0, 0, 0, 0, 0, 0, 0, 0, 0, 0, 0, 0, 0, 0, 0, 0, 0, 0, 0, 0, 0, 0, 0, 0, 0, 0, (o 69), (o 70), (o 71), (o 73)] : List Nat).getD i 0) tlawNow tharder ttold treply twet f73 f69 f70 f71 glines ghours glaw godds grows gheads gsayings gslugs gacts f26 f30 f31 p0 p1 (by omega) (by omega) (by omega) (by omega) (by omega) (by omega)) [1, 2, 3, 4, 5, 6, 7, 8, 9, 10] [0] rfl rfl (by decide) (by decide) (by decide) rfl rfl rfl rfl rfl ⟨Nat.le_of_ble_eq_true rfl, Nat.le_of_ble_eq_true rfl, Nat.le_of_ble_eq_true rfl⟩ dX0_outcome_6 ⟨Nat.le_of_ble_eq_true rfl, Nat.le_of_ble_eq_true rfl⟩ (fun u_2 H locs hr_1 hP hD hS => ?_)
  have hP : va_P D vwCl [((o 9), .inr (0, [.ref (o 3), .ref (o 6), .int kopener, .int kworth])), ((o 6), .inr (1, [.ref (o 3), .ref (o 4), .int (u_2.1 0), .int (u_2.1 1), .int (u_2.1 2), .int (u_2.1 3), .int (u_2.1 4), .ref (o 73)])), ((o 73), .inl (k 0, 17, .inl f73)), ((o 4), .inr (3, [.ref (o 69), .ref (o 70), .ref (o 71)])), ((o 69), .inl (k 0, 17, .inl f69)), ((o 70), .inl (k 0, 17, .inl f70)), ((o 71), .inl (k 0, 17, .inl f71)), ((o 3), .inr (2, [.int glines, .int (nI ghours), .int glaw, .int godds, .int (nI grows), .int (nI gheads), .int (nI gsayings), .int (nI gslugs), .int (nI gacts), .ref (o 26), .ref (o 27), .ref (o 28), .ref (o 29), .ref (o 30), .ref (o 31), .ref (o 32), .ref (o 33), .ref (o 34), .ref (o 35)])), ((o 26), .inl (k 0, 12, .inl f26)), ((o 30), .inl (k 0, 12, .inl f30)), ((o 31), .inl (k 0, 12, .inl f31))] H := hP.sub [0, 1, 2, 3, 4, 5, 6, 7, 8, 9, 10] rfl
  have hD : va_D A [((o 9), .inr (0, [.ref (o 3), .ref (o 6), .int kopener, .int kworth])), ((o 6), .inr (1, [.ref (o 3), .ref (o 4), .int (u_2.1 0), .int (u_2.1 1), .int (u_2.1 2), .int (u_2.1 3), .int (u_2.1 4), .ref (o 73)])), ((o 73), .inl (k 0, 17, .inl f73)), ((o 4), .inr (3, [.ref (o 69), .ref (o 70), .ref (o 71)])), ((o 69), .inl (k 0, 17, .inl f69)), ((o 70), .inl (k 0, 17, .inl f70)), ((o 71), .inl (k 0, 17, .inl f71)), ((o 3), .inr (2, [.int glines, .int (nI ghours), .int glaw, .int godds, .int (nI grows), .int (nI gheads), .int (nI gsayings), .int (nI gslugs), .int (nI gacts), .ref (o 26), .ref (o 27), .ref (o 28), .ref (o 29), .ref (o 30), .ref (o 31), .ref (o 32), .ref (o 33), .ref (o 34), .ref (o 35)])), ((o 26), .inl (k 0, 12, .inl f26)), ((o 30), .inl (k 0, 12, .inl f30)), ((o 31), .inl (k 0, 12, .inl f31))] := hD.sub [0, 1, 2, 3, 4, 5, 6, 7, 8, 9, 10] (by decide) rfl
  refine lv_aload_n hx hb dX0_outcome_9 rfl (lv_at hl 0 rfl) ?_
  refine x_get S hK hP 0 rfl cfX0 1 lkX0_19 (by decide) rfl dX0_outcome_10 ?_
  refine x_muVv (wr := [((o 9), .inr (0, [.ref (o 3), .ref (o 6), .int kopener, .int kworth]))]) (As := []) S hK hP hD hZ hS hA hl mwX1_run lkX0_29 (ctX1_run_c l D k z (fun i => ([0, 0, 0, (o 3), (o 4), (o 6), 0, 0, 0, 0, 0, 0, 0, 0, 0, 0, 0, 0, 0, 0, 0, 0, 0, 0, 0, 0, (o 26), (o 27), (o 28), (o 29), (o 30), (o 31), (o 32), (o 33), (o 34), (o 35), 0, 0, 0, 0, 0, 0, 0, 0, 0, 0, 0, 0, 0, 0, 0, 0, 0, 0, 0, 0, 0, 0, 0, 0, 0, 0, 0, 0, 0, 0, 0, 0, 0, (o 69), (o 70), (o 71), (o 73)] : List Nat).getD i 0) (u_2.1 0) (u_2.1 1) (u_2.1 2) (u_2.1 3) (u_2.1 4) f73 f69 f70 f71 glines ghours glaw godds grows gheads gsayings gslugs gacts f26 f30 f31 (by omega) (by omega) (by omega) (by omega) (by omega) (by omega)) [1, 2, 3, 4, 5, 6, 7, 8, 9, 10] [0] rfl rfl (by decide) (by decide) (by decide) rfl rfl rfl rfl rfl ⟨Nat.le_of_ble_eq_true rfl, Nat.le_of_ble_eq_true rfl, Nat.le_of_ble_eq_true rfl⟩ dX0_outcome_13 ⟨Nat.le_of_ble_eq_true rfl, Nat.le_of_ble_eq_true rfl⟩ (fun u_4 H locs hr_3 hP hD hS => ?_)
  have hP : va_P D vwCl [((o 9), .inr (0, [.ref (o 3), .ref (o 6), .int kopener, .int kworth])), ((o 6), .inr (1, [.ref (o 3), .ref (o 4), .int (u_2.1 0), .int (u_2.1 1), .int (u_2.1 2), .int (u_2.1 3), .int (u_2.1 4), .ref (o 73)])), ((o 73), .inl (k 0, 17, .inl (u_4.2.2.1 0))), ((o 4), .inr (3, [.ref (o 69), .ref (o 70), .ref (o 71)])), ((o 69), .inl (k 0, 17, .inl f69)), ((o 70), .inl (k 0, 17, .inl f70)), ((o 71), .inl (k 0, 17, .inl f71)), ((o 3), .inr (2, [.int glines, .int (nI ghours), .int glaw, .int godds, .int (nI grows), .int (nI gheads), .int (nI gsayings), .int (nI gslugs), .int (nI gacts), .ref (o 26), .ref (o 27), .ref (o 28), .ref (o 29), .ref (o 30), .ref (o 31), .ref (o 32), .ref (o 33), .ref (o 34), .ref (o 35)])), ((o 26), .inl (k 0, 12, .inl f26)), ((o 30), .inl (k 0, 12, .inl f30)), ((o 31), .inl (k 0, 12, .inl f31))] H := hP.sub [0, 1, 2, 3, 4, 5, 6, 7, 8, 9, 10] rfl
  have hD : va_D A [((o 9), .inr (0, [.ref (o 3), .ref (o 6), .int kopener, .int kworth])), ((o 6), .inr (1, [.ref (o 3), .ref (o 4), .int (u_2.1 0), .int (u_2.1 1), .int (u_2.1 2), .int (u_2.1 3), .int (u_2.1 4), .ref (o 73)])), ((o 73), .inl (k 0, 17, .inl (u_4.2.2.1 0))), ((o 4), .inr (3, [.ref (o 69), .ref (o 70), .ref (o 71)])), ((o 69), .inl (k 0, 17, .inl f69)), ((o 70), .inl (k 0, 17, .inl f70)), ((o 71), .inl (k 0, 17, .inl f71)), ((o 3), .inr (2, [.int glines, .int (nI ghours), .int glaw, .int godds, .int (nI grows), .int (nI gheads), .int (nI gsayings), .int (nI gslugs), .int (nI gacts), .ref (o 26), .ref (o 27), .ref (o 28), .ref (o 29), .ref (o 30), .ref (o 31), .ref (o 32), .ref (o 33), .ref (o 34), .ref (o 35)])), ((o 26), .inl (k 0, 12, .inl f26)), ((o 30), .inl (k 0, 12, .inl f30)), ((o 31), .inl (k 0, 12, .inl f31))] := hD.sub [0, 1, 2, 3, 4, 5, 6, 7, 8, 9, 10] (by decide) rfl
  refine lv_aload_n hx hb dX0_outcome_16 rfl (lv_at hl 0 rfl) ?_
  refine x_get S hK hP 0 rfl cfX0 1 lkX0_19 (by decide) rfl dX0_outcome_17 ?_
  refine x_roVi (As := []) S hK hP hD hZ (fun _ h => h) hA hS hA hl mwX1_lastState lkX0_32 (ctX1_lastState_c l D k z (fun i => ([0, 0, 0, (o 3), (o 4), (o 6), 0, 0, 0, 0, 0, 0, 0, 0, 0, 0, 0, 0, 0, 0, 0, 0, 0, 0, 0, 0, (o 26), (o 27), (o 28), (o 29), (o 30), (o 31), (o 32), (o 33), (o 34), (o 35), 0, 0, 0, 0, 0, 0, 0, 0, 0, 0, 0, 0, 0, 0, 0, 0, 0, 0, 0, 0, 0, 0, 0, 0, 0, 0, 0, 0, 0, 0, 0, 0, 0, (o 69), (o 70), (o 71), (o 73)] : List Nat).getD i 0) (u_2.1 0) (u_2.1 1) (u_2.1 2) (u_2.1 3) (u_2.1 4) (u_4.2.2.1 0) f69 f70 f71 glines ghours glaw godds grows gheads gsayings gslugs gacts f26 f30 f31 (by omega) (by omega) (by omega) (by omega) (by omega) (by omega)) [1, 2, 3, 4, 5, 6, 7, 8, 9, 10] rfl (by decide) rfl rfl rfl rfl rfl ⟨Nat.le_of_ble_eq_true rfl, Nat.le_of_ble_eq_true rfl, Nat.le_of_ble_eq_true rfl⟩ dX0_outcome_20 ⟨Nat.le_of_ble_eq_true rfl, Nat.le_of_ble_eq_true rfl⟩ (fun r_5 H locs hr_5 hP hS => ?_)
  refine lv_aload_n hx hb dX0_outcome_23 rfl (lv_at hl 0 rfl) ?_
  refine x_get S hK hP 0 rfl cfX0 0 lkX0_15 (by decide) rfl dX0_outcome_24 ?_
  refine x_roVi (As := []) S hK hP hD hZ (fun _ h => h) hA hS hA hl mwX2_everyone lkX0_36 (ctX2_everyone l D k z o glines ghours glaw godds grows gheads gsayings gslugs gacts (by omega) (by omega) (by omega) (by omega) (by omega) (by omega)) [7] rfl (by decide) rfl rfl rfl rfl rfl ⟨Nat.le_of_ble_eq_true rfl, Nat.le_of_ble_eq_true rfl, Nat.le_of_ble_eq_true rfl⟩ dX0_outcome_27 ⟨Nat.le_of_ble_eq_true rfl, Nat.le_of_ble_eq_true rfl⟩ (fun r_7 H locs hr_7 hP hS => ?_)
  obtain rfl := hr_7
  refine x_roSNi (As := [.int r_5, .int (nI (2 ^ gheads - 1))]) S hK hP hD hZ (fun _ h => h) hA hS hA hl mwX10_leadIn lkX0_41 (ctX10_leadIn l D k z r_5 (nI (2 ^ gheads - 1)) ) [] rfl (by decide) rfl rfl ⟨Nat.le_of_ble_eq_true rfl, Nat.le_of_ble_eq_true rfl, Nat.le_of_ble_eq_true rfl⟩ dX0_outcome_30 ⟨Nat.le_of_ble_eq_true rfl, Nat.le_of_ble_eq_true rfl⟩ (fun r_9 H locs hr_9 hP hS => ?_)
  exact x_reti S hr hlk hQ hS ((fun i => ([(u_2.1 0), (u_2.1 1), (u_2.1 2), (u_2.1 3), (u_2.1 4)] : List (Int32)).getD i 0), (fun i => ([] : List (Nat)).getD i 0), (fun i => ([(u_4.2.2.1 0)] : List (Nat → Int32)).getD i (fun _ => 0)), (fun i => ([] : List (Nat → Int64)).getD i (fun _ => 0)), (fun i => ([] : List (Int64)).getD i 0)) trivial (x_B hP hD) dX0_outcome_33

set_option maxHeartbeats 4000000 in
set_option maxRecDepth 100000 in
theorem ctX0_bestReply (l : Launch) (D : va_G) (k : Nat → ClassId) (z : Nat → Nat) (o : Nat → Nat) (kopener : Int32) (kworth : Int32) (tlawNow : Int32) (tharder : Int32) (ttold : Int32) (treply : Int32) (twet : Int32) (f73 : Nat → Int32) (f69 : Nat → Int32) (f70 : Nat → Int32) (f71 : Nat → Int32) (glines : Int32) (ghours : Nat) (glaw : Int32) (godds : Int32) (grows : Nat) (gheads : Nat) (gsayings : Nat) (gslugs : Nat) (gacts : Nat) (f26 : Nat → Int32) (f30 : Nat → Int32) (f31 : Nat → Int32) (p0 : Int32) (hghours : ghours ≤ 16) (hgrows : grows ≤ 4) (hgheads : gheads ≤ 12) (hgsayings : gsayings ≤ 8) (hgslugs : gslugs ≤ 4) (hgacts : gacts ≤ 30) : MU l yX0_bestReply cX0_bestReply 6 (some .int) 5 D k z [.ref (o 9), .int p0] [((o 9), .inr (0, [.ref (o 3), .ref (o 6), .int kopener, .int kworth])), ((o 6), .inr (1, [.ref (o 3), .ref (o 4), .int tlawNow, .int tharder, .int ttold, .int treply, .int twet, .ref (o 73)])), ((o 73), .inl (k 0, 17, .inl f73)), ((o 4), .inr (3, [.ref (o 69), .ref (o 70), .ref (o 71)])), ((o 69), .inl (k 0, 17, .inl f69)), ((o 70), .inl (k 0, 17, .inl f70)), ((o 71), .inl (k 0, 17, .inl f71)), ((o 3), .inr (2, [.int glines, .int (nI ghours), .int glaw, .int godds, .int (nI grows), .int (nI gheads), .int (nI gsayings), .int (nI gslugs), .int (nI gacts), .ref (o 26), .ref (o 27), .ref (o 28), .ref (o 29), .ref (o 30), .ref (o 31), .ref (o 32), .ref (o 33), .ref (o 34), .ref (o 35)])), ((o 26), .inl (k 0, 12, .inl f26)), ((o 30), .inl (k 0, 12, .inl f30)), ((o 31), .inl (k 0, 12, .inl f31))] 0 0 (Ui D (fun (r : Int32) (u : (Nat → Int32) × (Nat → Nat) × (Nat → Nat → Int32) × (Nat → Nat → Int64) × (Nat → Int64)) => True) (fun u : (Nat → Int32) × (Nat → Nat) × (Nat → Nat → Int32) × (Nat → Nat → Int64) × (Nat → Int64) => [((o 9), .inr (0, [.ref (o 3), .ref (o 6), .int kopener, .int kworth])), ((o 6), .inr (1, [.ref (o 3), .ref (o 4), .int (u.1 0), .int (u.1 1), .int (u.1 2), .int (u.1 3), .int (u.1 4), .ref (o 73)])), ((o 73), .inl (k 0, 17, .inl (u.2.2.1 0))), ((o 4), .inr (3, [.ref (o 69), .ref (o 70), .ref (o 71)])), ((o 69), .inl (k 0, 17, .inl f69)), ((o 70), .inl (k 0, 17, .inl f70)), ((o 71), .inl (k 0, 17, .inl f71)), ((o 3), .inr (2, [.int glines, .int (nI ghours), .int glaw, .int godds, .int (nI grows), .int (nI gheads), .int (nI gsayings), .int (nI gslugs), .int (nI gacts), .ref (o 26), .ref (o 27), .ref (o 28), .ref (o 29), .ref (o 30), .ref (o 31), .ref (o 32), .ref (o 33), .ref (o 34), .ref (o 35)])), ((o 26), .inl (k 0, 12, .inl f26)), ((o 30), .inl (k 0, 12, .inl f30)), ((o 31), .inl (k 0, 12, .inl f31))])) := by
  refine MU.of (by decide) (Nat.le_of_ble_eq_true rfl) ?_
  intro p e s m below meth c ls A args Q S hr hlk hnm hQ hK hP hD hZ hA hS hl
  have hx := S.1
  have hb := S.2.1
  have hl : lv_has ls 6 [(0, .ref (o 9)), (1, .int p0)] := hl
  refine lv_iconst (v := (-1)) hx hb dX0_bestReply_0 (by decide) ?_
  refine lv_istore_n (lv' := [(2, .int (-1)), (0, .ref (o 9)), (1, .int p0)]) hx hb dX0_bestReply_1 rfl hl (by decide) rfl (fun ls hl => ?_)
  refine lv_iconst (v := 0) hx hb dX0_bestReply_2 (by decide) ?_
  refine lv_istore_n (lv' := [(3, .int 0), (2, .int (-1)), (0, .ref (o 9)), (1, .int p0)]) hx hb dX0_bestReply_3 rfl hl (by decide) rfl (fun ls hl => ?_)
  refine lv_iconst (v := 0) hx hb dX0_bestReply_4 (by decide) ?_
  refine lv_istore (lv' := [(4, .int 0), (3, .int 0), (2, .int (-1)), (0, .ref (o 9)), (1, .int p0)]) hx hb dX0_bestReply_5 hl (by decide) rfl (fun ls hl => ?_)
  have lp_30 : ∀ (nn j_21 : Nat) (x_22 : Int32) (x_23 : Int32) (x_24 : Int32) (x_25 : Int32) (x_26 : Int32) (x_27 : Int32) (x_28 : Int32) (g_29 : Nat → Int32) (H : Heap) (locs : List Loc) (ls : Array Slot), j_21 ≤ gheads → gheads - j_21 < nn → va_P D vwCl [((o 9), .inr (0, [.ref (o 3), .ref (o 6), .int kopener, .int kworth])), ((o 6), .inr (1, [.ref (o 3), .ref (o 4), .int x_24, .int x_25, .int x_26, .int x_27, .int x_28, .ref (o 73)])), ((o 73), .inl (k 0, 17, .inl g_29)), ((o 4), .inr (3, [.ref (o 69), .ref (o 70), .ref (o 71)])), ((o 69), .inl (k 0, 17, .inl f69)), ((o 70), .inl (k 0, 17, .inl f70)), ((o 71), .inl (k 0, 17, .inl f71)), ((o 3), .inr (2, [.int glines, .int (nI ghours), .int glaw, .int godds, .int (nI grows), .int (nI gheads), .int (nI gsayings), .int (nI gslugs), .int (nI gacts), .ref (o 26), .ref (o 27), .ref (o 28), .ref (o 29), .ref (o 30), .ref (o 31), .ref (o 32), .ref (o 33), .ref (o 34), .ref (o 35)])), ((o 26), .inl (k 0, 12, .inl f26)), ((o 30), .inl (k 0, 12, .inl f30)), ((o 31), .inl (k 0, 12, .inl f31))] H → va_D A [((o 9), .inr (0, [.ref (o 3), .ref (o 6), .int kopener, .int kworth])), ((o 6), .inr (1, [.ref (o 3), .ref (o 4), .int x_24, .int x_25, .int x_26, .int x_27, .int x_28, .ref (o 73)])), ((o 73), .inl (k 0, 17, .inl g_29)), ((o 4), .inr (3, [.ref (o 69), .ref (o 70), .ref (o 71)])), ((o 69), .inl (k 0, 17, .inl f69)), ((o 70), .inl (k 0, 17, .inl f70)), ((o 71), .inl (k 0, 17, .inl f71)), ((o 3), .inr (2, [.int glines, .int (nI ghours), .int glaw, .int godds, .int (nI grows), .int (nI gheads), .int (nI gsayings), .int (nI gslugs), .int (nI gacts), .ref (o 26), .ref (o 27), .ref (o 28), .ref (o 29), .ref (o 30), .ref (o 31), .ref (o 32), .ref (o 33), .ref (o 34), .ref (o 35)])), ((o 26), .inl (k 0, 12, .inl f26)), ((o 30), .inl (k 0, 12, .inl f30)), ((o 31), .inl (k 0, 12, .inl f31))] → va_S A s.heap H locs → lv_has ls 6 [(4, .int (nI j_21)), (3, .int x_22), (2, .int x_23), (0, .ref (o 9)), (1, .int p0)] → W p l e (Rm 5 0 0) s m args below meth c H locs 0 0 Q (F0 m 7 ls []) := by
    intro nn
    induction nn with
    | zero => intro j_21 x_22 x_23 x_24 x_25 x_26 x_27 x_28 g_29 H locs ls hjj_21 hnj_21; exact absurd hnj_21 (by omega)
    | succ nn ihj_21 =>
      intro j_21 x_22 x_23 x_24 x_25 x_26 x_27 x_28 g_29 H locs ls hjj_21 hnj_21 hP hD hS hl
      refine lv_iload hx hb dX0_bestReply_7 (lv_at hl 0 rfl) ?_
      refine lv_aload_n hx hb dX0_bestReply_9 rfl (lv_at hl 3 rfl) ?_
      refine x_get S hK hP 0 rfl cfX0 0 lkX0_15 (by decide) rfl dX0_bestReply_10 ?_
      refine x_get S hK hP 7 rfl cfX2 5 lkX0_45 (by decide) rfl dX0_bestReply_13 ?_
      refine lv_icmp_ge (tgt := 51) hx hb dX0_bestReply_16 (by decide) (fun c_31 => ?_) (fun c_31 => ?_)
      · skip
        have c_31 : gheads ≤ j_21 := (ni_le rfl rfl (by omega) (by omega)).mp c_31
        refine lv_iload_n hx hb dX0_bestReply_51 rfl (lv_at hl 2 rfl) ?_
        exact x_reti S hr hlk hQ hS ((fun i => ([x_24, x_25, x_26, x_27, x_28] : List (Int32)).getD i 0), (fun i => ([] : List (Nat)).getD i 0), (fun i => ([g_29] : List (Nat → Int32)).getD i (fun _ => 0)), (fun i => ([] : List (Nat → Int64)).getD i (fun _ => 0)), (fun i => ([] : List (Int64)).getD i 0)) trivial (x_B hP hD) dX0_bestReply_52
      · skip
        have c_31 : ¬ gheads ≤ j_21 := fun q => c_31 ((ni_le rfl rfl (by omega) (by omega)).mpr q)
        refine lv_aload_n hx hb dX0_bestReply_19 rfl (lv_at hl 3 rfl) ?_
        refine lv_iload_n hx hb dX0_bestReply_20 rfl (lv_at hl 4 rfl) ?_
        refine lv_iload hx hb dX0_bestReply_21 (lv_at hl 0 rfl) ?_
        refine x_muVi (wr := []) (As := [.int p0, .int (nI j_21)]) S hK hP hD hZ hS hA hl mwX0_outcome lkX0_48 (ctX0_outcome l D k z o kopener kworth x_24 x_25 x_26 x_27 x_28 g_29 f69 f70 f71 glines ghours glaw godds grows gheads gsayings gslugs gacts f26 f30 f31 p0 (nI j_21) (by omega) (by omega) (by omega) (by omega) (by omega) (by omega)) [0, 1, 2, 3, 4, 5, 6, 7, 8, 9, 10] [] rfl rfl (by decide) (by decide) (by decide) rfl rfl rfl rfl rfl ⟨Nat.le_of_ble_eq_true rfl, Nat.le_of_ble_eq_true rfl, Nat.le_of_ble_eq_true rfl⟩ dX0_bestReply_23 ⟨Nat.le_of_ble_eq_true rfl, Nat.le_of_ble_eq_true rfl⟩ (fun r_32 u_33 H locs hr_32 hP hD hS => ?_)
        have hP : va_P D vwCl [((o 9), .inr (0, [.ref (o 3), .ref (o 6), .int kopener, .int kworth])), ((o 6), .inr (1, [.ref (o 3), .ref (o 4), .int (u_33.1 0), .int (u_33.1 1), .int (u_33.1 2), .int (u_33.1 3), .int (u_33.1 4), .ref (o 73)])), ((o 73), .inl (k 0, 17, .inl (u_33.2.2.1 0))), ((o 4), .inr (3, [.ref (o 69), .ref (o 70), .ref (o 71)])), ((o 69), .inl (k 0, 17, .inl f69)), ((o 70), .inl (k 0, 17, .inl f70)), ((o 71), .inl (k 0, 17, .inl f71)), ((o 3), .inr (2, [.int glines, .int (nI ghours), .int glaw, .int godds, .int (nI grows), .int (nI gheads), .int (nI gsayings), .int (nI gslugs), .int (nI gacts), .ref (o 26), .ref (o 27), .ref (o 28), .ref (o 29), .ref (o 30), .ref (o 31), .ref (o 32), .ref (o 33), .ref (o 34), .ref (o 35)])), ((o 26), .inl (k 0, 12, .inl f26)), ((o 30), .inl (k 0, 12, .inl f30)), ((o 31), .inl (k 0, 12, .inl f31))] H := hP.sub [0, 1, 2, 3, 4, 5, 6, 7, 8, 9, 10] rfl
        have hD : va_D A [((o 9), .inr (0, [.ref (o 3), .ref (o 6), .int kopener, .int kworth])), ((o 6), .inr (1, [.ref (o 3), .ref (o 4), .int (u_33.1 0), .int (u_33.1 1), .int (u_33.1 2), .int (u_33.1 3), .int (u_33.1 4), .ref (o 73)])), ((o 73), .inl (k 0, 17, .inl (u_33.2.2.1 0))), ((o 4), .inr (3, [.ref (o 69), .ref (o 70), .ref (o 71)])), ((o 69), .inl (k 0, 17, .inl f69)), ((o 70), .inl (k 0, 17, .inl f70)), ((o 71), .inl (k 0, 17, .inl f71)), ((o 3), .inr (2, [.int glines, .int (nI ghours), .int glaw, .int godds, .int (nI grows), .int (nI gheads), .int (nI gsayings), .int (nI gslugs), .int (nI gacts), .ref (o 26), .ref (o 27), .ref (o 28), .ref (o 29), .ref (o 30), .ref (o 31), .ref (o 32), .ref (o 33), .ref (o 34), .ref (o 35)])), ((o 26), .inl (k 0, 12, .inl f26)), ((o 30), .inl (k 0, 12, .inl f30)), ((o 31), .inl (k 0, 12, .inl f31))] := hD.sub [0, 1, 2, 3, 4, 5, 6, 7, 8, 9, 10] (by decide) rfl
        refine lv_istore (lv' := [(5, .int r_32), (4, .int (nI j_21)), (3, .int x_22), (2, .int x_23), (0, .ref (o 9)), (1, .int p0)]) hx hb dX0_bestReply_26 hl (by decide) rfl (fun ls hl => ?_)
        refine lv_iload_n hx hb dX0_bestReply_28 rfl (lv_at hl 3 rfl) ?_
        refine lv_iconst (v := (-1)) hx hb dX0_bestReply_29 (by decide) ?_
        refine lv_icmp_eq (tgt := 39) hx hb dX0_bestReply_30 (by decide) (fun c_34 => ?_) (fun c_34 => ?_)
        · skip
          refine lv_iload hx hb dX0_bestReply_39 (lv_at hl 0 rfl) ?_
          refine lv_istore_n (lv' := [(3, .int r_32), (5, .int r_32), (4, .int (nI j_21)), (2, .int x_23), (0, .ref (o 9)), (1, .int p0)]) hx hb dX0_bestReply_41 rfl hl (by decide) rfl (fun ls hl => ?_)
          refine lv_iload hx hb dX0_bestReply_42 (lv_at hl 2 rfl) ?_
          refine lv_istore_n (lv' := [(2, .int (nI j_21)), (3, .int r_32), (5, .int r_32), (4, .int (nI j_21)), (0, .ref (o 9)), (1, .int p0)]) hx hb dX0_bestReply_44 rfl hl (by decide) rfl (fun ls hl => ?_)
          refine lv_iinc (v := (nI (j_21 + 1))) (lv' := [(4, .int (nI (j_21 + 1))), (2, .int (nI j_21)), (3, .int r_32), (5, .int r_32), (0, .ref (o 9)), (1, .int p0)]) hx hb dX0_bestReply_45 hl (k := 3) rfl (ni_inc _) (by decide) rfl (fun ls hl => ?_)
          refine lv_goto (tgt := 7) hx hb dX0_bestReply_48 (by decide) ?_
          exact ihj_21 (j_21 + 1) r_32 (nI j_21) (u_33.1 0) (u_33.1 1) (u_33.1 2) (u_33.1 3) (u_33.1 4) (u_33.2.2.1 0) _ _ _ (by omega) (by omega) hP hD hS (lv_sub hl [0, 2, 1, 4, 5] rfl)
        · skip
          refine lv_iload hx hb dX0_bestReply_33 (lv_at hl 0 rfl) ?_
          refine lv_iload_n hx hb dX0_bestReply_35 rfl (lv_at hl 2 rfl) ?_
          refine lv_icmp_ge (tgt := 45) hx hb dX0_bestReply_36 (by decide) (fun c_35 => ?_) (fun c_35 => ?_)
          · skip
            refine lv_iinc (v := (nI (j_21 + 1))) (lv' := [(4, .int (nI (j_21 + 1))), (5, .int r_32), (3, .int x_22), (2, .int x_23), (0, .ref (o 9)), (1, .int p0)]) hx hb dX0_bestReply_45 hl (k := 1) rfl (ni_inc _) (by decide) rfl (fun ls hl => ?_)
            refine lv_goto (tgt := 7) hx hb dX0_bestReply_48 (by decide) ?_
            exact ihj_21 (j_21 + 1) x_22 x_23 (u_33.1 0) (u_33.1 1) (u_33.1 2) (u_33.1 3) (u_33.1 4) (u_33.2.2.1 0) _ _ _ (by omega) (by omega) hP hD hS (lv_sub hl [0, 2, 3, 4, 5] rfl)
          · skip
            refine lv_iload hx hb dX0_bestReply_39 (lv_at hl 0 rfl) ?_
            refine lv_istore_n (lv' := [(3, .int r_32), (5, .int r_32), (4, .int (nI j_21)), (2, .int x_23), (0, .ref (o 9)), (1, .int p0)]) hx hb dX0_bestReply_41 rfl hl (by decide) rfl (fun ls hl => ?_)
            refine lv_iload hx hb dX0_bestReply_42 (lv_at hl 2 rfl) ?_
            refine lv_istore_n (lv' := [(2, .int (nI j_21)), (3, .int r_32), (5, .int r_32), (4, .int (nI j_21)), (0, .ref (o 9)), (1, .int p0)]) hx hb dX0_bestReply_44 rfl hl (by decide) rfl (fun ls hl => ?_)
            refine lv_iinc (v := (nI (j_21 + 1))) (lv' := [(4, .int (nI (j_21 + 1))), (2, .int (nI j_21)), (3, .int r_32), (5, .int r_32), (0, .ref (o 9)), (1, .int p0)]) hx hb dX0_bestReply_45 hl (k := 3) rfl (ni_inc _) (by decide) rfl (fun ls hl => ?_)
            refine lv_goto (tgt := 7) hx hb dX0_bestReply_48 (by decide) ?_
            exact ihj_21 (j_21 + 1) r_32 (nI j_21) (u_33.1 0) (u_33.1 1) (u_33.1 2) (u_33.1 3) (u_33.1 4) (u_33.2.2.1 0) _ _ _ (by omega) (by omega) hP hD hS (lv_sub hl [0, 2, 1, 4, 5] rfl)
  exact lp_30 (gheads + 1) 0 0 (-1) tlawNow tharder ttold treply twet f73 _ _ _ (by omega) (by omega) hP hD hS (lv_sub hl [0, 1, 2, 3, 4] rfl)

set_option maxHeartbeats 4000000 in
set_option maxRecDepth 100000 in
theorem ctX0_seekOpener (l : Launch) (D : va_G) (k : Nat → ClassId) (z : Nat → Nat) (o : Nat → Nat) (kopener : Int32) (kworth : Int32) (tlawNow : Int32) (tharder : Int32) (ttold : Int32) (treply : Int32) (twet : Int32) (f73 : Nat → Int32) (f69 : Nat → Int32) (f70 : Nat → Int32) (f71 : Nat → Int32) (glines : Int32) (ghours : Nat) (glaw : Int32) (godds : Int32) (grows : Nat) (gheads : Nat) (gsayings : Nat) (gslugs : Nat) (gacts : Nat) (f26 : Nat → Int32) (f30 : Nat → Int32) (f31 : Nat → Int32) (hghours : ghours ≤ 16) (hgrows : grows ≤ 4) (hgheads : gheads ≤ 12) (hgsayings : gsayings ≤ 8) (hgslugs : gslugs ≤ 4) (hgacts : gacts ≤ 30) : MU l yX0_seekOpener cX0_seekOpener 4 none 5 D k z [.ref (o 9)] [((o 9), .inr (0, [.ref (o 3), .ref (o 6), .int kopener, .int kworth])), ((o 6), .inr (1, [.ref (o 3), .ref (o 4), .int tlawNow, .int tharder, .int ttold, .int treply, .int twet, .ref (o 73)])), ((o 73), .inl (k 0, 17, .inl f73)), ((o 4), .inr (3, [.ref (o 69), .ref (o 70), .ref (o 71)])), ((o 69), .inl (k 0, 17, .inl f69)), ((o 70), .inl (k 0, 17, .inl f70)), ((o 71), .inl (k 0, 17, .inl f71)), ((o 3), .inr (2, [.int glines, .int (nI ghours), .int glaw, .int godds, .int (nI grows), .int (nI gheads), .int (nI gsayings), .int (nI gslugs), .int (nI gacts), .ref (o 26), .ref (o 27), .ref (o 28), .ref (o 29), .ref (o 30), .ref (o 31), .ref (o 32), .ref (o 33), .ref (o 34), .ref (o 35)])), ((o 26), .inl (k 0, 12, .inl f26)), ((o 30), .inl (k 0, 12, .inl f30)), ((o 31), .inl (k 0, 12, .inl f31))] 0 0 (Uv D (fun _ : (Nat → Int32) × (Nat → Nat) × (Nat → Nat → Int32) × (Nat → Nat → Int64) × (Nat → Int64) => True) (fun u : (Nat → Int32) × (Nat → Nat) × (Nat → Nat → Int32) × (Nat → Nat → Int64) × (Nat → Int64) => [((o 9), .inr (0, [.ref (o 3), .ref (o 6), .int (u.1 5), .int (u.1 6)])), ((o 6), .inr (1, [.ref (o 3), .ref (o 4), .int (u.1 0), .int (u.1 1), .int (u.1 2), .int (u.1 3), .int (u.1 4), .ref (o 73)])), ((o 73), .inl (k 0, 17, .inl (u.2.2.1 0))), ((o 4), .inr (3, [.ref (o 69), .ref (o 70), .ref (o 71)])), ((o 69), .inl (k 0, 17, .inl f69)), ((o 70), .inl (k 0, 17, .inl f70)), ((o 71), .inl (k 0, 17, .inl f71)), ((o 3), .inr (2, [.int glines, .int (nI ghours), .int glaw, .int godds, .int (nI grows), .int (nI gheads), .int (nI gsayings), .int (nI gslugs), .int (nI gacts), .ref (o 26), .ref (o 27), .ref (o 28), .ref (o 29), .ref (o 30), .ref (o 31), .ref (o 32), .ref (o 33), .ref (o 34), .ref (o 35)])), ((o 26), .inl (k 0, 12, .inl f26)), ((o 30), .inl (k 0, 12, .inl f30)), ((o 31), .inl (k 0, 12, .inl f31))])) := by
  refine MU.of (by decide) (Nat.le_of_ble_eq_true rfl) ?_
  intro p e s m below meth c ls A args Q S hr hlk hnm hQ hK hP hD hZ hA hS hl
  have hx := S.1
  have hb := S.2.1
  have hl : lv_has ls 4 [(0, .ref (o 9))] := hl
  refine lv_aload_n hx hb dX0_seekOpener_0 rfl (lv_at hl 0 rfl) ?_
  refine x_get S hK hP 0 rfl cfX0 2 lkX0_11 (by decide) rfl dX0_seekOpener_1 ?_
  refine lv_bipush (v := (-2)) hx hb dX0_seekOpener_4 (by decide) ?_
  refine lv_icmp_eq (tgt := 10) hx hb dX0_seekOpener_6 (by decide) (fun c_1 => ?_) (fun c_1 => ?_)
  · skip
    refine lv_aload_n hx hb dX0_seekOpener_10 rfl (lv_at hl 0 rfl) ?_
    refine lv_iconst (v := (-1)) hx hb dX0_seekOpener_11 (by decide) ?_
    refine x_put (ws' := [((o 9), .inr (0, [.ref (o 3), .ref (o 6), .int (-1), .int kworth])), ((o 6), .inr (1, [.ref (o 3), .ref (o 4), .int tlawNow, .int tharder, .int ttold, .int treply, .int twet, .ref (o 73)])), ((o 73), .inl (k 0, 17, .inl f73)), ((o 4), .inr (3, [.ref (o 69), .ref (o 70), .ref (o 71)])), ((o 69), .inl (k 0, 17, .inl f69)), ((o 70), .inl (k 0, 17, .inl f70)), ((o 71), .inl (k 0, 17, .inl f71)), ((o 3), .inr (2, [.int glines, .int (nI ghours), .int glaw, .int godds, .int (nI grows), .int (nI gheads), .int (nI gsayings), .int (nI gslugs), .int (nI gacts), .ref (o 26), .ref (o 27), .ref (o 28), .ref (o 29), .ref (o 30), .ref (o 31), .ref (o 32), .ref (o 33), .ref (o 34), .ref (o 35)])), ((o 26), .inl (k 0, 12, .inl f26)), ((o 30), .inl (k 0, 12, .inl f30)), ((o 31), .inl (k 0, 12, .inl f31))]) S hK hP hD hS 0 rfl cfX0 2 lkX0_11 (by decide) rfl rfl rfl (Nat.le_of_ble_eq_true rfl) rfl dX0_seekOpener_12 (fun H locs hP hD hS => ?_)
    refine lv_aload_n hx hb dX0_seekOpener_15 rfl (lv_at hl 0 rfl) ?_
    refine lv_bipush (v := (-13)) hx hb dX0_seekOpener_16 (by decide) ?_
    refine x_put (ws' := [((o 9), .inr (0, [.ref (o 3), .ref (o 6), .int (-1), .int (-13)])), ((o 6), .inr (1, [.ref (o 3), .ref (o 4), .int tlawNow, .int tharder, .int ttold, .int treply, .int twet, .ref (o 73)])), ((o 73), .inl (k 0, 17, .inl f73)), ((o 4), .inr (3, [.ref (o 69), .ref (o 70), .ref (o 71)])), ((o 69), .inl (k 0, 17, .inl f69)), ((o 70), .inl (k 0, 17, .inl f70)), ((o 71), .inl (k 0, 17, .inl f71)), ((o 3), .inr (2, [.int glines, .int (nI ghours), .int glaw, .int godds, .int (nI grows), .int (nI gheads), .int (nI gsayings), .int (nI gslugs), .int (nI gacts), .ref (o 26), .ref (o 27), .ref (o 28), .ref (o 29), .ref (o 30), .ref (o 31), .ref (o 32), .ref (o 33), .ref (o 34), .ref (o 35)])), ((o 26), .inl (k 0, 12, .inl f26)), ((o 30), .inl (k 0, 12, .inl f30)), ((o 31), .inl (k 0, 12, .inl f31))]) S hK hP hD hS 0 rfl cfX0 3 lkX0_51 (by decide) rfl rfl rfl (Nat.le_of_ble_eq_true rfl) rfl dX0_seekOpener_18 (fun H locs hP hD hS => ?_)
    refine lv_iconst (v := 0) hx hb dX0_seekOpener_21 (by decide) ?_
    refine lv_istore_n (lv' := [(1, .int 0), (0, .ref (o 9))]) hx hb dX0_seekOpener_22 rfl hl (by decide) rfl (fun ls hl => ?_)
    have lp_95 : ∀ (nn j_86 : Nat) (x_87 : Int32) (x_88 : Int32) (x_89 : Int32) (x_90 : Int32) (x_91 : Int32) (g_92 : Nat → Int32) (x_93 : Int32) (x_94 : Int32) (H : Heap) (locs : List Loc) (ls : Array Slot), j_86 ≤ gheads → gheads - j_86 < nn → va_P D vwCl [((o 9), .inr (0, [.ref (o 3), .ref (o 6), .int x_93, .int x_94])), ((o 6), .inr (1, [.ref (o 3), .ref (o 4), .int x_87, .int x_88, .int x_89, .int x_90, .int x_91, .ref (o 73)])), ((o 73), .inl (k 0, 17, .inl g_92)), ((o 4), .inr (3, [.ref (o 69), .ref (o 70), .ref (o 71)])), ((o 69), .inl (k 0, 17, .inl f69)), ((o 70), .inl (k 0, 17, .inl f70)), ((o 71), .inl (k 0, 17, .inl f71)), ((o 3), .inr (2, [.int glines, .int (nI ghours), .int glaw, .int godds, .int (nI grows), .int (nI gheads), .int (nI gsayings), .int (nI gslugs), .int (nI gacts), .ref (o 26), .ref (o 27), .ref (o 28), .ref (o 29), .ref (o 30), .ref (o 31), .ref (o 32), .ref (o 33), .ref (o 34), .ref (o 35)])), ((o 26), .inl (k 0, 12, .inl f26)), ((o 30), .inl (k 0, 12, .inl f30)), ((o 31), .inl (k 0, 12, .inl f31))] H → va_D A [((o 9), .inr (0, [.ref (o 3), .ref (o 6), .int x_93, .int x_94])), ((o 6), .inr (1, [.ref (o 3), .ref (o 4), .int x_87, .int x_88, .int x_89, .int x_90, .int x_91, .ref (o 73)])), ((o 73), .inl (k 0, 17, .inl g_92)), ((o 4), .inr (3, [.ref (o 69), .ref (o 70), .ref (o 71)])), ((o 69), .inl (k 0, 17, .inl f69)), ((o 70), .inl (k 0, 17, .inl f70)), ((o 71), .inl (k 0, 17, .inl f71)), ((o 3), .inr (2, [.int glines, .int (nI ghours), .int glaw, .int godds, .int (nI grows), .int (nI gheads), .int (nI gsayings), .int (nI gslugs), .int (nI gacts), .ref (o 26), .ref (o 27), .ref (o 28), .ref (o 29), .ref (o 30), .ref (o 31), .ref (o 32), .ref (o 33), .ref (o 34), .ref (o 35)])), ((o 26), .inl (k 0, 12, .inl f26)), ((o 30), .inl (k 0, 12, .inl f30)), ((o 31), .inl (k 0, 12, .inl f31))] → va_S A s.heap H locs → lv_has ls 4 [(1, .int (nI j_86)), (0, .ref (o 9))] → W p l e (Rm 5 0 0) s m args below meth c H locs 0 0 Q (F0 m 23 ls []) := by
      intro nn
      induction nn with
      | zero => intro j_86 x_87 x_88 x_89 x_90 x_91 g_92 x_93 x_94 H locs ls hjj_86 hnj_86; exact absurd hnj_86 (by omega)
      | succ nn ihj_86 =>
        intro j_86 x_87 x_88 x_89 x_90 x_91 g_92 x_93 x_94 H locs ls hjj_86 hnj_86 hP hD hS hl
        refine lv_iload_n hx hb dX0_seekOpener_23 rfl (lv_at hl 0 rfl) ?_
        refine lv_aload_n hx hb dX0_seekOpener_24 rfl (lv_at hl 1 rfl) ?_
        refine x_get S hK hP 0 rfl cfX0 0 lkX0_15 (by decide) rfl dX0_seekOpener_25 ?_
        refine x_get S hK hP 7 rfl cfX2 5 lkX0_45 (by decide) rfl dX0_seekOpener_28 ?_
        refine lv_icmp_ge (tgt := 99) hx hb dX0_seekOpener_31 (by decide) (fun c_96 => ?_) (fun c_96 => ?_)
        · skip
          have c_96 : gheads ≤ j_86 := (ni_le rfl rfl (by omega) (by omega)).mp c_96
          exact x_retv S hr hlk hQ hS ((fun i => ([x_87, x_88, x_89, x_90, x_91, x_93, x_94] : List (Int32)).getD i 0), (fun i => ([] : List (Nat)).getD i 0), (fun i => ([g_92] : List (Nat → Int32)).getD i (fun _ => 0)), (fun i => ([] : List (Nat → Int64)).getD i (fun _ => 0)), (fun i => ([] : List (Int64)).getD i 0)) trivial (x_B hP hD) dX0_seekOpener_99
        · skip
          have c_96 : ¬ gheads ≤ j_86 := fun q => c_96 ((ni_le rfl rfl (by omega) (by omega)).mpr q)
          refine lv_bipush (v := 12) hx hb dX0_seekOpener_34 (by decide) ?_
          refine lv_istore_n (lv' := [(2, .int 12), (1, .int (nI j_86)), (0, .ref (o 9))]) hx hb dX0_seekOpener_36 rfl hl (by decide) rfl (fun ls hl => ?_)
          refine lv_iconst (v := 0) hx hb dX0_seekOpener_37 (by decide) ?_
          refine lv_istore_n (lv' := [(3, .int 0), (2, .int 12), (1, .int (nI j_86)), (0, .ref (o 9))]) hx hb dX0_seekOpener_38 rfl hl (by decide) rfl (fun ls hl => ?_)
          have lp_126 : ∀ (nn j_118 : Nat) (x_119 : Int32) (x_120 : Int32) (x_121 : Int32) (x_122 : Int32) (x_123 : Int32) (x_124 : Int32) (g_125 : Nat → Int32) (H : Heap) (locs : List Loc) (ls : Array Slot), j_118 ≤ gheads → gheads - j_118 < nn → va_P D vwCl [((o 9), .inr (0, [.ref (o 3), .ref (o 6), .int x_93, .int x_94])), ((o 6), .inr (1, [.ref (o 3), .ref (o 4), .int x_120, .int x_121, .int x_122, .int x_123, .int x_124, .ref (o 73)])), ((o 73), .inl (k 0, 17, .inl g_125)), ((o 4), .inr (3, [.ref (o 69), .ref (o 70), .ref (o 71)])), ((o 69), .inl (k 0, 17, .inl f69)), ((o 70), .inl (k 0, 17, .inl f70)), ((o 71), .inl (k 0, 17, .inl f71)), ((o 3), .inr (2, [.int glines, .int (nI ghours), .int glaw, .int godds, .int (nI grows), .int (nI gheads), .int (nI gsayings), .int (nI gslugs), .int (nI gacts), .ref (o 26), .ref (o 27), .ref (o 28), .ref (o 29), .ref (o 30), .ref (o 31), .ref (o 32), .ref (o 33), .ref (o 34), .ref (o 35)])), ((o 26), .inl (k 0, 12, .inl f26)), ((o 30), .inl (k 0, 12, .inl f30)), ((o 31), .inl (k 0, 12, .inl f31))] H → va_D A [((o 9), .inr (0, [.ref (o 3), .ref (o 6), .int x_93, .int x_94])), ((o 6), .inr (1, [.ref (o 3), .ref (o 4), .int x_120, .int x_121, .int x_122, .int x_123, .int x_124, .ref (o 73)])), ((o 73), .inl (k 0, 17, .inl g_125)), ((o 4), .inr (3, [.ref (o 69), .ref (o 70), .ref (o 71)])), ((o 69), .inl (k 0, 17, .inl f69)), ((o 70), .inl (k 0, 17, .inl f70)), ((o 71), .inl (k 0, 17, .inl f71)), ((o 3), .inr (2, [.int glines, .int (nI ghours), .int glaw, .int godds, .int (nI grows), .int (nI gheads), .int (nI gsayings), .int (nI gslugs), .int (nI gacts), .ref (o 26), .ref (o 27), .ref (o 28), .ref (o 29), .ref (o 30), .ref (o 31), .ref (o 32), .ref (o 33), .ref (o 34), .ref (o 35)])), ((o 26), .inl (k 0, 12, .inl f26)), ((o 30), .inl (k 0, 12, .inl f30)), ((o 31), .inl (k 0, 12, .inl f31))] → va_S A s.heap H locs → lv_has ls 4 [(3, .int (nI j_118)), (2, .int x_119), (1, .int (nI j_86)), (0, .ref (o 9))] → W p l e (Rm 5 0 0) s m args below meth c H locs 0 0 Q (F0 m 39 ls []) := by
            intro nn
            induction nn with
            | zero => intro j_118 x_119 x_120 x_121 x_122 x_123 x_124 g_125 H locs ls hjj_118 hnj_118; exact absurd hnj_118 (by omega)
            | succ nn ihj_118 =>
              intro j_118 x_119 x_120 x_121 x_122 x_123 x_124 g_125 H locs ls hjj_118 hnj_118 hP hD hS hl
              refine lv_iload_n hx hb dX0_seekOpener_39 rfl (lv_at hl 0 rfl) ?_
              refine lv_aload_n hx hb dX0_seekOpener_40 rfl (lv_at hl 3 rfl) ?_
              refine x_get S hK hP 0 rfl cfX0 0 lkX0_15 (by decide) rfl dX0_seekOpener_41 ?_
              refine x_get S hK hP 7 rfl cfX2 5 lkX0_45 (by decide) rfl dX0_seekOpener_44 ?_
              refine lv_icmp_ge (tgt := 75) hx hb dX0_seekOpener_47 (by decide) (fun c_127 => ?_) (fun c_127 => ?_)
              · skip
                have c_127 : gheads ≤ j_118 := (ni_le rfl rfl (by omega) (by omega)).mp c_127
                refine lv_iload_n hx hb dX0_seekOpener_75 rfl (lv_at hl 1 rfl) ?_
                refine lv_aload_n hx hb dX0_seekOpener_76 rfl (lv_at hl 3 rfl) ?_
                refine x_get S hK hP 0 rfl cfX0 3 lkX0_51 (by decide) rfl dX0_seekOpener_77 ?_
                refine lv_icmp_le (tgt := 93) hx hb dX0_seekOpener_80 (by decide) (fun c_128 => ?_) (fun c_128 => ?_)
                · skip
                  refine lv_iinc (v := (nI (j_86 + 1))) (lv' := [(1, .int (nI (j_86 + 1))), (3, .int (nI j_118)), (2, .int x_119), (0, .ref (o 9))]) hx hb dX0_seekOpener_93 hl (k := 2) rfl (ni_inc _) (by decide) rfl (fun ls hl => ?_)
                  refine lv_goto (tgt := 23) hx hb dX0_seekOpener_96 (by decide) ?_
                  exact ihj_86 (j_86 + 1) x_120 x_121 x_122 x_123 x_124 g_125 x_93 x_94 _ _ _ (by omega) (by omega) hP hD hS (lv_sub hl [0, 3] rfl)
                · skip
                  refine lv_aload_n hx hb dX0_seekOpener_83 rfl (lv_at hl 3 rfl) ?_
                  refine lv_iload_n hx hb dX0_seekOpener_84 rfl (lv_at hl 1 rfl) ?_
                  refine x_put (ws' := [((o 9), .inr (0, [.ref (o 3), .ref (o 6), .int x_93, .int x_119])), ((o 6), .inr (1, [.ref (o 3), .ref (o 4), .int x_120, .int x_121, .int x_122, .int x_123, .int x_124, .ref (o 73)])), ((o 73), .inl (k 0, 17, .inl g_125)), ((o 4), .inr (3, [.ref (o 69), .ref (o 70), .ref (o 71)])), ((o 69), .inl (k 0, 17, .inl f69)), ((o 70), .inl (k 0, 17, .inl f70)), ((o 71), .inl (k 0, 17, .inl f71)), ((o 3), .inr (2, [.int glines, .int (nI ghours), .int glaw, .int godds, .int (nI grows), .int (nI gheads), .int (nI gsayings), .int (nI gslugs), .int (nI gacts), .ref (o 26), .ref (o 27), .ref (o 28), .ref (o 29), .ref (o 30), .ref (o 31), .ref (o 32), .ref (o 33), .ref (o 34), .ref (o 35)])), ((o 26), .inl (k 0, 12, .inl f26)), ((o 30), .inl (k 0, 12, .inl f30)), ((o 31), .inl (k 0, 12, .inl f31))]) S hK hP hD hS 0 rfl cfX0 3 lkX0_51 (by decide) rfl rfl rfl (Nat.le_of_ble_eq_true rfl) rfl dX0_seekOpener_85 (fun H locs hP hD hS => ?_)
                  refine lv_aload_n hx hb dX0_seekOpener_88 rfl (lv_at hl 3 rfl) ?_
                  refine lv_iload_n hx hb dX0_seekOpener_89 rfl (lv_at hl 2 rfl) ?_
                  refine x_put (ws' := [((o 9), .inr (0, [.ref (o 3), .ref (o 6), .int (nI j_86), .int x_119])), ((o 6), .inr (1, [.ref (o 3), .ref (o 4), .int x_120, .int x_121, .int x_122, .int x_123, .int x_124, .ref (o 73)])), ((o 73), .inl (k 0, 17, .inl g_125)), ((o 4), .inr (3, [.ref (o 69), .ref (o 70), .ref (o 71)])), ((o 69), .inl (k 0, 17, .inl f69)), ((o 70), .inl (k 0, 17, .inl f70)), ((o 71), .inl (k 0, 17, .inl f71)), ((o 3), .inr (2, [.int glines, .int (nI ghours), .int glaw, .int godds, .int (nI grows), .int (nI gheads), .int (nI gsayings), .int (nI gslugs), .int (nI gacts), .ref (o 26), .ref (o 27), .ref (o 28), .ref (o 29), .ref (o 30), .ref (o 31), .ref (o 32), .ref (o 33), .ref (o 34), .ref (o 35)])), ((o 26), .inl (k 0, 12, .inl f26)), ((o 30), .inl (k 0, 12, .inl f30)), ((o 31), .inl (k 0, 12, .inl f31))]) S hK hP hD hS 0 rfl cfX0 2 lkX0_11 (by decide) rfl rfl rfl (Nat.le_of_ble_eq_true rfl) rfl dX0_seekOpener_90 (fun H locs hP hD hS => ?_)
                  refine lv_iinc (v := (nI (j_86 + 1))) (lv' := [(1, .int (nI (j_86 + 1))), (3, .int (nI j_118)), (2, .int x_119), (0, .ref (o 9))]) hx hb dX0_seekOpener_93 hl (k := 2) rfl (ni_inc _) (by decide) rfl (fun ls hl => ?_)
                  refine lv_goto (tgt := 23) hx hb dX0_seekOpener_96 (by decide) ?_
                  exact ihj_86 (j_86 + 1) x_120 x_121 x_122 x_123 x_124 g_125 (nI j_86) x_119 _ _ _ (by omega) (by omega) hP hD hS (lv_sub hl [0, 3] rfl)
              · skip
                have c_127 : ¬ gheads ≤ j_118 := fun q => c_127 ((ni_le rfl rfl (by omega) (by omega)).mpr q)
                refine lv_iload_n hx hb dX0_seekOpener_50 rfl (lv_at hl 1 rfl) ?_
                refine lv_aload_n hx hb dX0_seekOpener_51 rfl (lv_at hl 3 rfl) ?_
                refine x_get S hK hP 0 rfl cfX0 3 lkX0_51 (by decide) rfl dX0_seekOpener_52 ?_
                refine lv_icmp_le (tgt := 75) hx hb dX0_seekOpener_55 (by decide) (fun c_129 => ?_) (fun c_129 => ?_)
                · skip
                  refine lv_iload_n hx hb dX0_seekOpener_75 rfl (lv_at hl 1 rfl) ?_
                  refine lv_aload_n hx hb dX0_seekOpener_76 rfl (lv_at hl 3 rfl) ?_
                  refine x_get S hK hP 0 rfl cfX0 3 lkX0_51 (by decide) rfl dX0_seekOpener_77 ?_
                  refine lv_icmp_le (tgt := 93) hx hb dX0_seekOpener_80 (by decide) (fun c_130 => ?_) (fun c_130 => ?_)
                  · skip
                    refine lv_iinc (v := (nI (j_86 + 1))) (lv' := [(1, .int (nI (j_86 + 1))), (3, .int (nI j_118)), (2, .int x_119), (0, .ref (o 9))]) hx hb dX0_seekOpener_93 hl (k := 2) rfl (ni_inc _) (by decide) rfl (fun ls hl => ?_)
                    refine lv_goto (tgt := 23) hx hb dX0_seekOpener_96 (by decide) ?_
                    exact ihj_86 (j_86 + 1) x_120 x_121 x_122 x_123 x_124 g_125 x_93 x_94 _ _ _ (by omega) (by omega) hP hD hS (lv_sub hl [0, 3] rfl)
                  · skip
                    exact absurd (Int32.not_le.mp c_130) (Int32.not_lt.mpr c_129)
                · skip
                  refine lv_iload_n hx hb dX0_seekOpener_58 rfl (lv_at hl 1 rfl) ?_
                  refine lv_aload_n hx hb dX0_seekOpener_59 rfl (lv_at hl 3 rfl) ?_
                  refine lv_iload_n hx hb dX0_seekOpener_60 rfl (lv_at hl 2 rfl) ?_
                  refine lv_iload_n hx hb dX0_seekOpener_61 rfl (lv_at hl 0 rfl) ?_
                  refine x_muVi (wr := []) (As := [.int (nI j_86), .int (nI j_118)]) S hK hP hD hZ hS hA hl mwX0_outcome lkX0_48 (ctX0_outcome l D k z o x_93 x_94 x_120 x_121 x_122 x_123 x_124 g_125 f69 f70 f71 glines ghours glaw godds grows gheads gsayings gslugs gacts f26 f30 f31 (nI j_86) (nI j_118) (by omega) (by omega) (by omega) (by omega) (by omega) (by omega)) [0, 1, 2, 3, 4, 5, 6, 7, 8, 9, 10] [] rfl rfl (by decide) (by decide) (by decide) rfl rfl rfl rfl rfl ⟨Nat.le_of_ble_eq_true rfl, Nat.le_of_ble_eq_true rfl, Nat.le_of_ble_eq_true rfl⟩ dX0_seekOpener_62 ⟨Nat.le_of_ble_eq_true rfl, Nat.le_of_ble_eq_true rfl⟩ (fun r_131 u_132 H locs hr_131 hP hD hS => ?_)
                  have hP : va_P D vwCl [((o 9), .inr (0, [.ref (o 3), .ref (o 6), .int x_93, .int x_94])), ((o 6), .inr (1, [.ref (o 3), .ref (o 4), .int (u_132.1 0), .int (u_132.1 1), .int (u_132.1 2), .int (u_132.1 3), .int (u_132.1 4), .ref (o 73)])), ((o 73), .inl (k 0, 17, .inl (u_132.2.2.1 0))), ((o 4), .inr (3, [.ref (o 69), .ref (o 70), .ref (o 71)])), ((o 69), .inl (k 0, 17, .inl f69)), ((o 70), .inl (k 0, 17, .inl f70)), ((o 71), .inl (k 0, 17, .inl f71)), ((o 3), .inr (2, [.int glines, .int (nI ghours), .int glaw, .int godds, .int (nI grows), .int (nI gheads), .int (nI gsayings), .int (nI gslugs), .int (nI gacts), .ref (o 26), .ref (o 27), .ref (o 28), .ref (o 29), .ref (o 30), .ref (o 31), .ref (o 32), .ref (o 33), .ref (o 34), .ref (o 35)])), ((o 26), .inl (k 0, 12, .inl f26)), ((o 30), .inl (k 0, 12, .inl f30)), ((o 31), .inl (k 0, 12, .inl f31))] H := hP.sub [0, 1, 2, 3, 4, 5, 6, 7, 8, 9, 10] rfl
                  have hD : va_D A [((o 9), .inr (0, [.ref (o 3), .ref (o 6), .int x_93, .int x_94])), ((o 6), .inr (1, [.ref (o 3), .ref (o 4), .int (u_132.1 0), .int (u_132.1 1), .int (u_132.1 2), .int (u_132.1 3), .int (u_132.1 4), .ref (o 73)])), ((o 73), .inl (k 0, 17, .inl (u_132.2.2.1 0))), ((o 4), .inr (3, [.ref (o 69), .ref (o 70), .ref (o 71)])), ((o 69), .inl (k 0, 17, .inl f69)), ((o 70), .inl (k 0, 17, .inl f70)), ((o 71), .inl (k 0, 17, .inl f71)), ((o 3), .inr (2, [.int glines, .int (nI ghours), .int glaw, .int godds, .int (nI grows), .int (nI gheads), .int (nI gsayings), .int (nI gslugs), .int (nI gacts), .ref (o 26), .ref (o 27), .ref (o 28), .ref (o 29), .ref (o 30), .ref (o 31), .ref (o 32), .ref (o 33), .ref (o 34), .ref (o 35)])), ((o 26), .inl (k 0, 12, .inl f26)), ((o 30), .inl (k 0, 12, .inl f30)), ((o 31), .inl (k 0, 12, .inl f31))] := hD.sub [0, 1, 2, 3, 4, 5, 6, 7, 8, 9, 10] (by decide) rfl
                  refine x_mmin S hl lkX0_54 (Nat.le_of_ble_eq_true rfl) (Nat.le_of_ble_eq_true rfl) ⟨Nat.le_of_ble_eq_true rfl, Nat.le_of_ble_eq_true rfl⟩ dX0_seekOpener_65 (fun v_133 ev_133 => ?_)
                  refine lv_istore_n (lv' := [(2, .int v_133), (3, .int (nI j_118)), (1, .int (nI j_86)), (0, .ref (o 9))]) hx hb dX0_seekOpener_68 rfl hl (by decide) rfl (fun ls hl => ?_)
                  refine lv_iinc (v := (nI (j_118 + 1))) (lv' := [(3, .int (nI (j_118 + 1))), (2, .int v_133), (1, .int (nI j_86)), (0, .ref (o 9))]) hx hb dX0_seekOpener_69 hl (k := 1) rfl (ni_inc _) (by decide) rfl (fun ls hl => ?_)
                  refine lv_goto (tgt := 39) hx hb dX0_seekOpener_72 (by decide) ?_
                  exact ihj_118 (j_118 + 1) v_133 (u_132.1 0) (u_132.1 1) (u_132.1 2) (u_132.1 3) (u_132.1 4) (u_132.2.2.1 0) _ _ _ (by omega) (by omega) hP hD hS (lv_sub hl [0, 1, 2, 3] rfl)
          exact lp_126 (gheads + 1) 0 12 x_87 x_88 x_89 x_90 x_91 g_92 _ _ _ (by omega) (by omega) hP hD hS (lv_sub hl [0, 1, 2, 3] rfl)
    exact lp_95 (gheads + 1) 0 tlawNow tharder ttold treply twet f73 (-1) (-13) _ _ _ (by omega) (by omega) hP hD hS (lv_sub hl [0, 1] rfl)
  · skip
    exact x_retv S hr hlk hQ hS ((fun i => ([tlawNow, tharder, ttold, treply, twet, kopener, kworth] : List (Int32)).getD i 0), (fun i => ([] : List (Nat)).getD i 0), (fun i => ([f73] : List (Nat → Int32)).getD i (fun _ => 0)), (fun i => ([] : List (Nat → Int64)).getD i (fun _ => 0)), (fun i => ([] : List (Int64)).getD i 0)) trivial (x_B hP hD) dX0_seekOpener_9

set_option maxHeartbeats 4000000 in
set_option maxRecDepth 100000 in
theorem ctX0_gain (l : Launch) (D : va_G) (k : Nat → ClassId) (z : Nat → Nat) (o : Nat → Nat) (kopener : Int32) (kworth : Int32) (tlawNow : Int32) (tharder : Int32) (ttold : Int32) (treply : Int32) (twet : Int32) (f73 : Nat → Int32) (f69 : Nat → Int32) (f70 : Nat → Int32) (f71 : Nat → Int32) (glines : Int32) (ghours : Nat) (glaw : Int32) (godds : Int32) (grows : Nat) (gheads : Nat) (gsayings : Nat) (gslugs : Nat) (gacts : Nat) (f26 : Nat → Int32) (f30 : Nat → Int32) (f31 : Nat → Int32) (p0 : Int32) (p1 : Int32) (hghours : ghours ≤ 16) (hgrows : grows ≤ 4) (hgheads : gheads ≤ 12) (hgsayings : gsayings ≤ 8) (hgslugs : gslugs ≤ 4) (hgacts : gacts ≤ 30) : MU l yX0_gain cX0_gain 6 (some .int) 4 D k z [.ref (o 9), .int p0, .int p1] [((o 9), .inr (0, [.ref (o 3), .ref (o 6), .int kopener, .int kworth])), ((o 6), .inr (1, [.ref (o 3), .ref (o 4), .int tlawNow, .int tharder, .int ttold, .int treply, .int twet, .ref (o 73)])), ((o 73), .inl (k 0, 17, .inl f73)), ((o 4), .inr (3, [.ref (o 69), .ref (o 70), .ref (o 71)])), ((o 69), .inl (k 0, 17, .inl f69)), ((o 70), .inl (k 0, 17, .inl f70)), ((o 71), .inl (k 0, 17, .inl f71)), ((o 3), .inr (2, [.int glines, .int (nI ghours), .int glaw, .int godds, .int (nI grows), .int (nI gheads), .int (nI gsayings), .int (nI gslugs), .int (nI gacts), .ref (o 26), .ref (o 27), .ref (o 28), .ref (o 29), .ref (o 30), .ref (o 31), .ref (o 32), .ref (o 33), .ref (o 34), .ref (o 35)])), ((o 26), .inl (k 0, 12, .inl f26)), ((o 30), .inl (k 0, 12, .inl f30)), ((o 31), .inl (k 0, 12, .inl f31))] 0 0 (Ui D (fun (r : Int32) (u : (Nat → Int32) × (Nat → Nat) × (Nat → Nat → Int32) × (Nat → Nat → Int64) × (Nat → Int64)) => True) (fun u : (Nat → Int32) × (Nat → Nat) × (Nat → Nat → Int32) × (Nat → Nat → Int64) × (Nat → Int64) => [((o 9), .inr (0, [.ref (o 3), .ref (o 6), .int kopener, .int kworth])), ((o 6), .inr (1, [.ref (o 3), .ref (o 4), .int (u.1 0), .int (u.1 1), .int (u.1 2), .int (u.1 3), .int (u.1 4), .ref (o 73)])), ((o 73), .inl (k 0, 17, .inl (u.2.2.1 0))), ((o 4), .inr (3, [.ref (o 69), .ref (o 70), .ref (o 71)])), ((o 69), .inl (k 0, 17, .inl f69)), ((o 70), .inl (k 0, 17, .inl f70)), ((o 71), .inl (k 0, 17, .inl f71)), ((o 3), .inr (2, [.int glines, .int (nI ghours), .int glaw, .int godds, .int (nI grows), .int (nI gheads), .int (nI gsayings), .int (nI gslugs), .int (nI gacts), .ref (o 26), .ref (o 27), .ref (o 28), .ref (o 29), .ref (o 30), .ref (o 31), .ref (o 32), .ref (o 33), .ref (o 34), .ref (o 35)])), ((o 26), .inl (k 0, 12, .inl f26)), ((o 30), .inl (k 0, 12, .inl f30)), ((o 31), .inl (k 0, 12, .inl f31))])) := by
  refine MU.of (by decide) (Nat.le_of_ble_eq_true rfl) ?_
  intro p e s m below meth c ls A args Q S hr hlk hnm hQ hK hP hD hZ hA hS hl
  have hx := S.1
  have hb := S.2.1
  have hl : lv_has ls 6 [(0, .ref (o 9)), (1, .int p0), (2, .int p1)] := hl
  refine lv_aload_n hx hb dX0_gain_0 rfl (lv_at hl 0 rfl) ?_
  refine x_get S hK hP 0 rfl cfX0 1 lkX0_19 (by decide) rfl dX0_gain_1 ?_
  refine lv_iload_n hx hb dX0_gain_4 rfl (lv_at hl 2 rfl) ?_
  refine x_muVv (wr := [((o 9), .inr (0, [.ref (o 3), .ref (o 6), .int kopener, .int kworth]))]) (As := [.int p1]) S hK hP hD hZ hS hA hl mwX1_asHarder lkX0_59 (ctX1_asHarder_c l D k z (fun i => ([0, 0, 0, (o 3), (o 4), (o 6), 0, 0, 0, 0, 0, 0, 0, 0, 0, 0, 0, 0, 0, 0, 0, 0, 0, 0, 0, 0, (o 26), (o 27), (o 28), (o 29), (o 30), (o 31), (o 32), (o 33), (o 34), (o 35), 0, 0, 0, 0, 0, 0, 0, 0, 0, 0, 0, 0, 0, 0, 0, 0, 0, 0, 0, 0, 0, 0, 0, 0, 0, 0, 0, 0, 0, 0, 0, 0, 0, (o 69), (o 70), (o 71), (o 73)] : List Nat).getD i 0) tlawNow tharder ttold treply twet f73 f69 f70 f71 glines ghours glaw godds grows gheads gsayings gslugs gacts f26 f30 f31 p1 (by omega) (by omega) (by omega) (by omega) (by omega) (by omega)) [1, 2, 3, 4, 5, 6, 7, 8, 9, 10] [0] rfl rfl (by decide) (by decide) (by decide) rfl rfl rfl rfl rfl ⟨Nat.le_of_ble_eq_true rfl, Nat.le_of_ble_eq_true rfl, Nat.le_of_ble_eq_true rfl⟩ dX0_gain_5 ⟨Nat.le_of_ble_eq_true rfl, Nat.le_of_ble_eq_true rfl⟩ (fun u_2 H locs hr_1 hP hD hS => ?_)
  have hP : va_P D vwCl [((o 9), .inr (0, [.ref (o 3), .ref (o 6), .int kopener, .int kworth])), ((o 6), .inr (1, [.ref (o 3), .ref (o 4), .int (u_2.1 0), .int (u_2.1 1), .int (u_2.1 2), .int (u_2.1 3), .int (u_2.1 4), .ref (o 73)])), ((o 73), .inl (k 0, 17, .inl f73)), ((o 4), .inr (3, [.ref (o 69), .ref (o 70), .ref (o 71)])), ((o 69), .inl (k 0, 17, .inl f69)), ((o 70), .inl (k 0, 17, .inl f70)), ((o 71), .inl (k 0, 17, .inl f71)), ((o 3), .inr (2, [.int glines, .int (nI ghours), .int glaw, .int godds, .int (nI grows), .int (nI gheads), .int (nI gsayings), .int (nI gslugs), .int (nI gacts), .ref (o 26), .ref (o 27), .ref (o 28), .ref (o 29), .ref (o 30), .ref (o 31), .ref (o 32), .ref (o 33), .ref (o 34), .ref (o 35)])), ((o 26), .inl (k 0, 12, .inl f26)), ((o 30), .inl (k 0, 12, .inl f30)), ((o 31), .inl (k 0, 12, .inl f31))] H := hP.sub [0, 1, 2, 3, 4, 5, 6, 7, 8, 9, 10] rfl
  have hD : va_D A [((o 9), .inr (0, [.ref (o 3), .ref (o 6), .int kopener, .int kworth])), ((o 6), .inr (1, [.ref (o 3), .ref (o 4), .int (u_2.1 0), .int (u_2.1 1), .int (u_2.1 2), .int (u_2.1 3), .int (u_2.1 4), .ref (o 73)])), ((o 73), .inl (k 0, 17, .inl f73)), ((o 4), .inr (3, [.ref (o 69), .ref (o 70), .ref (o 71)])), ((o 69), .inl (k 0, 17, .inl f69)), ((o 70), .inl (k 0, 17, .inl f70)), ((o 71), .inl (k 0, 17, .inl f71)), ((o 3), .inr (2, [.int glines, .int (nI ghours), .int glaw, .int godds, .int (nI grows), .int (nI gheads), .int (nI gsayings), .int (nI gslugs), .int (nI gacts), .ref (o 26), .ref (o 27), .ref (o 28), .ref (o 29), .ref (o 30), .ref (o 31), .ref (o 32), .ref (o 33), .ref (o 34), .ref (o 35)])), ((o 26), .inl (k 0, 12, .inl f26)), ((o 30), .inl (k 0, 12, .inl f30)), ((o 31), .inl (k 0, 12, .inl f31))] := hD.sub [0, 1, 2, 3, 4, 5, 6, 7, 8, 9, 10] (by decide) rfl
  refine lv_aload_n hx hb dX0_gain_8 rfl (lv_at hl 0 rfl) ?_
  refine x_get S hK hP 0 rfl cfX0 1 lkX0_19 (by decide) rfl dX0_gain_9 ?_
  refine x_muVv (wr := [((o 9), .inr (0, [.ref (o 3), .ref (o 6), .int kopener, .int kworth]))]) (As := []) S hK hP hD hZ hS hA hl mwX1_run lkX0_29 (ctX1_run_c l D k z (fun i => ([0, 0, 0, (o 3), (o 4), (o 6), 0, 0, 0, 0, 0, 0, 0, 0, 0, 0, 0, 0, 0, 0, 0, 0, 0, 0, 0, 0, (o 26), (o 27), (o 28), (o 29), (o 30), (o 31), (o 32), (o 33), (o 34), (o 35), 0, 0, 0, 0, 0, 0, 0, 0, 0, 0, 0, 0, 0, 0, 0, 0, 0, 0, 0, 0, 0, 0, 0, 0, 0, 0, 0, 0, 0, 0, 0, 0, 0, (o 69), (o 70), (o 71), (o 73)] : List Nat).getD i 0) (u_2.1 0) (u_2.1 1) (u_2.1 2) (u_2.1 3) (u_2.1 4) f73 f69 f70 f71 glines ghours glaw godds grows gheads gsayings gslugs gacts f26 f30 f31 (by omega) (by omega) (by omega) (by omega) (by omega) (by omega)) [1, 2, 3, 4, 5, 6, 7, 8, 9, 10] [0] rfl rfl (by decide) (by decide) (by decide) rfl rfl rfl rfl rfl ⟨Nat.le_of_ble_eq_true rfl, Nat.le_of_ble_eq_true rfl, Nat.le_of_ble_eq_true rfl⟩ dX0_gain_12 ⟨Nat.le_of_ble_eq_true rfl, Nat.le_of_ble_eq_true rfl⟩ (fun u_4 H locs hr_3 hP hD hS => ?_)
  have hP : va_P D vwCl [((o 9), .inr (0, [.ref (o 3), .ref (o 6), .int kopener, .int kworth])), ((o 6), .inr (1, [.ref (o 3), .ref (o 4), .int (u_2.1 0), .int (u_2.1 1), .int (u_2.1 2), .int (u_2.1 3), .int (u_2.1 4), .ref (o 73)])), ((o 73), .inl (k 0, 17, .inl (u_4.2.2.1 0))), ((o 4), .inr (3, [.ref (o 69), .ref (o 70), .ref (o 71)])), ((o 69), .inl (k 0, 17, .inl f69)), ((o 70), .inl (k 0, 17, .inl f70)), ((o 71), .inl (k 0, 17, .inl f71)), ((o 3), .inr (2, [.int glines, .int (nI ghours), .int glaw, .int godds, .int (nI grows), .int (nI gheads), .int (nI gsayings), .int (nI gslugs), .int (nI gacts), .ref (o 26), .ref (o 27), .ref (o 28), .ref (o 29), .ref (o 30), .ref (o 31), .ref (o 32), .ref (o 33), .ref (o 34), .ref (o 35)])), ((o 26), .inl (k 0, 12, .inl f26)), ((o 30), .inl (k 0, 12, .inl f30)), ((o 31), .inl (k 0, 12, .inl f31))] H := hP.sub [0, 1, 2, 3, 4, 5, 6, 7, 8, 9, 10] rfl
  have hD : va_D A [((o 9), .inr (0, [.ref (o 3), .ref (o 6), .int kopener, .int kworth])), ((o 6), .inr (1, [.ref (o 3), .ref (o 4), .int (u_2.1 0), .int (u_2.1 1), .int (u_2.1 2), .int (u_2.1 3), .int (u_2.1 4), .ref (o 73)])), ((o 73), .inl (k 0, 17, .inl (u_4.2.2.1 0))), ((o 4), .inr (3, [.ref (o 69), .ref (o 70), .ref (o 71)])), ((o 69), .inl (k 0, 17, .inl f69)), ((o 70), .inl (k 0, 17, .inl f70)), ((o 71), .inl (k 0, 17, .inl f71)), ((o 3), .inr (2, [.int glines, .int (nI ghours), .int glaw, .int godds, .int (nI grows), .int (nI gheads), .int (nI gsayings), .int (nI gslugs), .int (nI gacts), .ref (o 26), .ref (o 27), .ref (o 28), .ref (o 29), .ref (o 30), .ref (o 31), .ref (o 32), .ref (o 33), .ref (o 34), .ref (o 35)])), ((o 26), .inl (k 0, 12, .inl f26)), ((o 30), .inl (k 0, 12, .inl f30)), ((o 31), .inl (k 0, 12, .inl f31))] := hD.sub [0, 1, 2, 3, 4, 5, 6, 7, 8, 9, 10] (by decide) rfl
  refine lv_iload_n hx hb dX0_gain_15 rfl (lv_at hl 2 rfl) ?_
  refine lv_iload_n hx hb dX0_gain_16 rfl (lv_at hl 1 rfl) ?_
  refine lv_iushr hx hb dX0_gain_17 rfl ?_
  refine lv_topi (fun v_5 ev_5 => ?_)
  refine lv_iconst (v := 1) hx hb dX0_gain_18 (by decide) ?_
  refine lv_iand hx hb dX0_gain_19 ?_
  refine lv_topi (fun v_6 ev_6 => ?_)
  refine lv_if_eq (tgt := 28) hx hb dX0_gain_20 (by decide) (fun c_7 => ?_) (fun c_7 => ?_)
  · skip
    refine lv_iconst (v := 0) hx hb dX0_gain_28 (by decide) ?_
    refine lv_istore_n (lv' := [(3, .int 0), (0, .ref (o 9)), (1, .int p0), (2, .int p1)]) hx hb dX0_gain_29 rfl hl (by decide) rfl (fun ls hl => ?_)
    refine lv_iconst (v := 1) hx hb dX0_gain_30 (by decide) ?_
    refine lv_istore (lv' := [(4, .int 1), (3, .int 0), (0, .ref (o 9)), (1, .int p0), (2, .int p1)]) hx hb dX0_gain_31 hl (by decide) rfl (fun ls hl => ?_)
    have lp_29 : ∀ (nn j_27 : Nat) (x_28 : Int32) (H : Heap) (locs : List Loc) (ls : Array Slot), 1 ≤ j_27 → j_27 ≤ ghours + 1 → ghours + 1 - j_27 < nn → va_P D vwCl [((o 9), .inr (0, [.ref (o 3), .ref (o 6), .int kopener, .int kworth])), ((o 6), .inr (1, [.ref (o 3), .ref (o 4), .int (u_2.1 0), .int (u_2.1 1), .int (u_2.1 2), .int (u_2.1 3), .int (u_2.1 4), .ref (o 73)])), ((o 73), .inl (k 0, 17, .inl (u_4.2.2.1 0))), ((o 4), .inr (3, [.ref (o 69), .ref (o 70), .ref (o 71)])), ((o 69), .inl (k 0, 17, .inl f69)), ((o 70), .inl (k 0, 17, .inl f70)), ((o 71), .inl (k 0, 17, .inl f71)), ((o 3), .inr (2, [.int glines, .int (nI ghours), .int glaw, .int godds, .int (nI grows), .int (nI gheads), .int (nI gsayings), .int (nI gslugs), .int (nI gacts), .ref (o 26), .ref (o 27), .ref (o 28), .ref (o 29), .ref (o 30), .ref (o 31), .ref (o 32), .ref (o 33), .ref (o 34), .ref (o 35)])), ((o 26), .inl (k 0, 12, .inl f26)), ((o 30), .inl (k 0, 12, .inl f30)), ((o 31), .inl (k 0, 12, .inl f31))] H → va_D A [((o 9), .inr (0, [.ref (o 3), .ref (o 6), .int kopener, .int kworth])), ((o 6), .inr (1, [.ref (o 3), .ref (o 4), .int (u_2.1 0), .int (u_2.1 1), .int (u_2.1 2), .int (u_2.1 3), .int (u_2.1 4), .ref (o 73)])), ((o 73), .inl (k 0, 17, .inl (u_4.2.2.1 0))), ((o 4), .inr (3, [.ref (o 69), .ref (o 70), .ref (o 71)])), ((o 69), .inl (k 0, 17, .inl f69)), ((o 70), .inl (k 0, 17, .inl f70)), ((o 71), .inl (k 0, 17, .inl f71)), ((o 3), .inr (2, [.int glines, .int (nI ghours), .int glaw, .int godds, .int (nI grows), .int (nI gheads), .int (nI gsayings), .int (nI gslugs), .int (nI gacts), .ref (o 26), .ref (o 27), .ref (o 28), .ref (o 29), .ref (o 30), .ref (o 31), .ref (o 32), .ref (o 33), .ref (o 34), .ref (o 35)])), ((o 26), .inl (k 0, 12, .inl f26)), ((o 30), .inl (k 0, 12, .inl f30)), ((o 31), .inl (k 0, 12, .inl f31))] → va_S A s.heap H locs → lv_has ls 6 [(4, .int (nI j_27)), (3, .int x_28), (0, .ref (o 9)), (1, .int p0), (2, .int p1)] → W p l e (Rm 4 0 0) s m args below meth c H locs 0 0 Q (F0 m 33 ls []) := by
      intro nn
      induction nn with
      | zero => intro j_27 x_28 H locs ls hlj_27 hjj_27 hnj_27; exact absurd hnj_27 (by omega)
      | succ nn ihj_27 =>
        intro j_27 x_28 H locs ls hlj_27 hjj_27 hnj_27 hP hD hS hl
        refine lv_iload hx hb dX0_gain_33 (lv_at hl 0 rfl) ?_
        refine lv_aload_n hx hb dX0_gain_35 rfl (lv_at hl 2 rfl) ?_
        refine x_get S hK hP 0 rfl cfX0 0 lkX0_15 (by decide) rfl dX0_gain_36 ?_
        refine x_get S hK hP 7 rfl cfX2 1 lkX0_63 (by decide) rfl dX0_gain_39 ?_
        refine lv_icmp_gt (tgt := 88) hx hb dX0_gain_42 (by decide) (fun c_30 => ?_) (fun c_30 => ?_)
        · skip
          have c_30 : ghours < j_27 := (ni_lt rfl rfl (by omega) (by omega)).mp c_30
          refine lv_iload_n hx hb dX0_gain_88 rfl (lv_at hl 1 rfl) ?_
          exact x_reti S hr hlk hQ hS ((fun i => ([(u_2.1 0), (u_2.1 1), (u_2.1 2), (u_2.1 3), (u_2.1 4)] : List (Int32)).getD i 0), (fun i => ([] : List (Nat)).getD i 0), (fun i => ([(u_4.2.2.1 0)] : List (Nat → Int32)).getD i (fun _ => 0)), (fun i => ([] : List (Nat → Int64)).getD i (fun _ => 0)), (fun i => ([] : List (Int64)).getD i 0)) trivial (x_B hP hD) dX0_gain_89
        · skip
          have c_30 : ¬ ghours < j_27 := fun q => c_30 ((ni_lt rfl rfl (by omega) (by omega)).mpr q)
          refine lv_aload_n hx hb dX0_gain_45 rfl (lv_at hl 2 rfl) ?_
          refine x_get S hK hP 0 rfl cfX0 1 lkX0_19 (by decide) rfl dX0_gain_46 ?_
          refine lv_iload_n hx hb dX0_gain_49 rfl (lv_at hl 3 rfl) ?_
          refine lv_iload hx hb dX0_gain_50 (lv_at hl 0 rfl) ?_
          refine x_roVi (As := [.int p0, .int (nI j_27)]) S hK hP hD hZ (fun _ h => h) hA hS hA hl mwX1_viewAt lkX0_66 (ctX1_viewAt_c l D k z (fun i => ([0, 0, 0, (o 3), (o 4), (o 6), 0, 0, 0, 0, 0, 0, 0, 0, 0, 0, 0, 0, 0, 0, 0, 0, 0, 0, 0, 0, (o 26), (o 27), (o 28), (o 29), (o 30), (o 31), (o 32), (o 33), (o 34), (o 35), 0, 0, 0, 0, 0, 0, 0, 0, 0, 0, 0, 0, 0, 0, 0, 0, 0, 0, 0, 0, 0, 0, 0, 0, 0, 0, 0, 0, 0, 0, 0, 0, 0, (o 69), (o 70), (o 71), (o 73)] : List Nat).getD i 0) (u_2.1 0) (u_2.1 1) (u_2.1 2) (u_2.1 3) (u_2.1 4) (u_4.2.2.1 0) f69 f70 f71 glines ghours glaw godds grows gheads gsayings gslugs gacts f26 f30 f31 p0 j_27 (by omega) (by omega) (by omega) (by omega) (by omega) (by omega) (by omega)) [1, 2, 3, 4, 5, 6, 7, 8, 9, 10] rfl (by decide) rfl rfl rfl rfl rfl ⟨Nat.le_of_ble_eq_true rfl, Nat.le_of_ble_eq_true rfl, Nat.le_of_ble_eq_true rfl⟩ dX0_gain_52 ⟨Nat.le_of_ble_eq_true rfl, Nat.le_of_ble_eq_true rfl⟩ (fun r_31 H locs hr_31 hP hS => ?_)
          refine lv_istore (lv' := [(5, .int r_31), (4, .int (nI j_27)), (3, .int x_28), (0, .ref (o 9)), (1, .int p0), (2, .int p1)]) hx hb dX0_gain_55 hl (by decide) rfl (fun ls hl => ?_)
          refine lv_iload hx hb dX0_gain_57 (lv_at hl 0 rfl) ?_
          refine lv_if_eq (tgt := 82) hx hb dX0_gain_59 (by decide) (fun c_33 => ?_) (fun c_33 => ?_)
          · skip
            refine lv_iinc (v := (nI (j_27 + 1))) (lv' := [(4, .int (nI (j_27 + 1))), (5, .int r_31), (3, .int x_28), (0, .ref (o 9)), (1, .int p0), (2, .int p1)]) hx hb dX0_gain_82 hl (k := 1) rfl (ni_inc _) (by decide) rfl (fun ls hl => ?_)
            refine lv_goto (tgt := 33) hx hb dX0_gain_85 (by decide) ?_
            exact ihj_27 (j_27 + 1) x_28 _ _ _ (by omega) (by omega) (by omega) hP hD hS (lv_sub hl [0, 2, 3, 4, 5] rfl)
          · skip
            refine lv_iload hx hb dX0_gain_62 (lv_at hl 0 rfl) ?_
            refine lv_aload_n hx hb dX0_gain_64 rfl (lv_at hl 3 rfl) ?_
            refine x_get S hK hP 0 rfl cfX0 1 lkX0_19 (by decide) rfl dX0_gain_65 ?_
            refine lv_iload_n hx hb dX0_gain_68 rfl (lv_at hl 4 rfl) ?_
            refine lv_iload hx hb dX0_gain_69 (lv_at hl 1 rfl) ?_
            refine lv_iconst (v := 1) hx hb dX0_gain_71 (by decide) ?_
            refine lv_isub hx hb dX0_gain_72 ?_
            refine x_is (nI (j_27 - 1)) (ni_sub rfl (by decide) (by omega)) ?_
            refine x_roVi (As := [.int p0, .int (nI (j_27 - 1))]) S hK hP hD hZ (fun _ h => h) hA hS hA hl mwX1_viewAt lkX0_66 (ctX1_viewAt_c l D k z (fun i => ([0, 0, 0, (o 3), (o 4), (o 6), 0, 0, 0, 0, 0, 0, 0, 0, 0, 0, 0, 0, 0, 0, 0, 0, 0, 0, 0, 0, (o 26), (o 27), (o 28), (o 29), (o 30), (o 31), (o 32), (o 33), (o 34), (o 35), 0, 0, 0, 0, 0, 0, 0, 0, 0, 0, 0, 0, 0, 0, 0, 0, 0, 0, 0, 0, 0, 0, 0, 0, 0, 0, 0, 0, 0, 0, 0, 0, 0, (o 69), (o 70), (o 71), (o 73)] : List Nat).getD i 0) (u_2.1 0) (u_2.1 1) (u_2.1 2) (u_2.1 3) (u_2.1 4) (u_4.2.2.1 0) f69 f70 f71 glines ghours glaw godds grows gheads gsayings gslugs gacts f26 f30 f31 p0 (j_27 - 1) (by omega) (by omega) (by omega) (by omega) (by omega) (by omega) (by omega)) [1, 2, 3, 4, 5, 6, 7, 8, 9, 10] rfl (by decide) rfl rfl rfl rfl rfl ⟨Nat.le_of_ble_eq_true rfl, Nat.le_of_ble_eq_true rfl, Nat.le_of_ble_eq_true rfl⟩ dX0_gain_73 ⟨Nat.le_of_ble_eq_true rfl, Nat.le_of_ble_eq_true rfl⟩ (fun r_34 H locs hr_34 hP hS => ?_)
            refine lv_icmp_ne (tgt := 82) hx hb dX0_gain_76 (by decide) (fun c_36 => ?_) (fun c_36 => ?_)
            · skip
              refine lv_iinc (v := (nI (j_27 + 1))) (lv' := [(4, .int (nI (j_27 + 1))), (5, .int r_31), (3, .int x_28), (0, .ref (o 9)), (1, .int p0), (2, .int p1)]) hx hb dX0_gain_82 hl (k := 1) rfl (ni_inc _) (by decide) rfl (fun ls hl => ?_)
              refine lv_goto (tgt := 33) hx hb dX0_gain_85 (by decide) ?_
              exact ihj_27 (j_27 + 1) x_28 _ _ _ (by omega) (by omega) (by omega) hP hD hS (lv_sub hl [0, 2, 3, 4, 5] rfl)
            · skip
              obtain ⟨v_37, ev_37⟩ : ∃ y : Int32, y = x_28 + Int32.ofInt (2) := ⟨_, rfl⟩
              refine lv_iinc (v := v_37) (lv' := [(3, .int v_37), (5, .int r_31), (4, .int (nI j_27)), (0, .ref (o 9)), (1, .int p0), (2, .int p1)]) hx hb dX0_gain_79 hl (k := 2) rfl ev_37.symm (by decide) rfl (fun ls hl => ?_)
              refine lv_iinc (v := (nI (j_27 + 1))) (lv' := [(4, .int (nI (j_27 + 1))), (3, .int v_37), (5, .int r_31), (0, .ref (o 9)), (1, .int p0), (2, .int p1)]) hx hb dX0_gain_82 hl (k := 2) rfl (ni_inc _) (by decide) rfl (fun ls hl => ?_)
              refine lv_goto (tgt := 33) hx hb dX0_gain_85 (by decide) ?_
              exact ihj_27 (j_27 + 1) v_37 _ _ _ (by omega) (by omega) (by omega) hP hD hS (lv_sub hl [0, 1, 3, 4, 5] rfl)
    exact lp_29 (ghours + 1 + 1) 1 0 _ _ _ (by omega) (by omega) (by omega) hP hD hS (lv_sub hl [0, 1, 2, 3, 4] rfl)
  · skip
    refine lv_bipush (v := (-3)) hx hb dX0_gain_23 (by decide) ?_
    refine lv_goto (tgt := 29) hx hb dX0_gain_25 (by decide) ?_
    refine lv_istore_n (lv' := [(3, .int (-3)), (0, .ref (o 9)), (1, .int p0), (2, .int p1)]) hx hb dX0_gain_29 rfl hl (by decide) rfl (fun ls hl => ?_)
    refine lv_iconst (v := 1) hx hb dX0_gain_30 (by decide) ?_
    refine lv_istore (lv' := [(4, .int 1), (3, .int (-3)), (0, .ref (o 9)), (1, .int p0), (2, .int p1)]) hx hb dX0_gain_31 hl (by decide) rfl (fun ls hl => ?_)
    have lp_52 : ∀ (nn j_50 : Nat) (x_51 : Int32) (H : Heap) (locs : List Loc) (ls : Array Slot), 1 ≤ j_50 → j_50 ≤ ghours + 1 → ghours + 1 - j_50 < nn → va_P D vwCl [((o 9), .inr (0, [.ref (o 3), .ref (o 6), .int kopener, .int kworth])), ((o 6), .inr (1, [.ref (o 3), .ref (o 4), .int (u_2.1 0), .int (u_2.1 1), .int (u_2.1 2), .int (u_2.1 3), .int (u_2.1 4), .ref (o 73)])), ((o 73), .inl (k 0, 17, .inl (u_4.2.2.1 0))), ((o 4), .inr (3, [.ref (o 69), .ref (o 70), .ref (o 71)])), ((o 69), .inl (k 0, 17, .inl f69)), ((o 70), .inl (k 0, 17, .inl f70)), ((o 71), .inl (k 0, 17, .inl f71)), ((o 3), .inr (2, [.int glines, .int (nI ghours), .int glaw, .int godds, .int (nI grows), .int (nI gheads), .int (nI gsayings), .int (nI gslugs), .int (nI gacts), .ref (o 26), .ref (o 27), .ref (o 28), .ref (o 29), .ref (o 30), .ref (o 31), .ref (o 32), .ref (o 33), .ref (o 34), .ref (o 35)])), ((o 26), .inl (k 0, 12, .inl f26)), ((o 30), .inl (k 0, 12, .inl f30)), ((o 31), .inl (k 0, 12, .inl f31))] H → va_D A [((o 9), .inr (0, [.ref (o 3), .ref (o 6), .int kopener, .int kworth])), ((o 6), .inr (1, [.ref (o 3), .ref (o 4), .int (u_2.1 0), .int (u_2.1 1), .int (u_2.1 2), .int (u_2.1 3), .int (u_2.1 4), .ref (o 73)])), ((o 73), .inl (k 0, 17, .inl (u_4.2.2.1 0))), ((o 4), .inr (3, [.ref (o 69), .ref (o 70), .ref (o 71)])), ((o 69), .inl (k 0, 17, .inl f69)), ((o 70), .inl (k 0, 17, .inl f70)), ((o 71), .inl (k 0, 17, .inl f71)), ((o 3), .inr (2, [.int glines, .int (nI ghours), .int glaw, .int godds, .int (nI grows), .int (nI gheads), .int (nI gsayings), .int (nI gslugs), .int (nI gacts), .ref (o 26), .ref (o 27), .ref (o 28), .ref (o 29), .ref (o 30), .ref (o 31), .ref (o 32), .ref (o 33), .ref (o 34), .ref (o 35)])), ((o 26), .inl (k 0, 12, .inl f26)), ((o 30), .inl (k 0, 12, .inl f30)), ((o 31), .inl (k 0, 12, .inl f31))] → va_S A s.heap H locs → lv_has ls 6 [(4, .int (nI j_50)), (3, .int x_51), (0, .ref (o 9)), (1, .int p0), (2, .int p1)] → W p l e (Rm 4 0 0) s m args below meth c H locs 0 0 Q (F0 m 33 ls []) := by
      intro nn
      induction nn with
      | zero => intro j_50 x_51 H locs ls hlj_50 hjj_50 hnj_50; exact absurd hnj_50 (by omega)
      | succ nn ihj_50 =>
        intro j_50 x_51 H locs ls hlj_50 hjj_50 hnj_50 hP hD hS hl
        refine lv_iload hx hb dX0_gain_33 (lv_at hl 0 rfl) ?_
        refine lv_aload_n hx hb dX0_gain_35 rfl (lv_at hl 2 rfl) ?_
        refine x_get S hK hP 0 rfl cfX0 0 lkX0_15 (by decide) rfl dX0_gain_36 ?_
        refine x_get S hK hP 7 rfl cfX2 1 lkX0_63 (by decide) rfl dX0_gain_39 ?_
        refine lv_icmp_gt (tgt := 88) hx hb dX0_gain_42 (by decide) (fun c_53 => ?_) (fun c_53 => ?_)
        · skip
          have c_53 : ghours < j_50 := (ni_lt rfl rfl (by omega) (by omega)).mp c_53
          refine lv_iload_n hx hb dX0_gain_88 rfl (lv_at hl 1 rfl) ?_
          exact x_reti S hr hlk hQ hS ((fun i => ([(u_2.1 0), (u_2.1 1), (u_2.1 2), (u_2.1 3), (u_2.1 4)] : List (Int32)).getD i 0), (fun i => ([] : List (Nat)).getD i 0), (fun i => ([(u_4.2.2.1 0)] : List (Nat → Int32)).getD i (fun _ => 0)), (fun i => ([] : List (Nat → Int64)).getD i (fun _ => 0)), (fun i => ([] : List (Int64)).getD i 0)) trivial (x_B hP hD) dX0_gain_89
        · skip
          have c_53 : ¬ ghours < j_50 := fun q => c_53 ((ni_lt rfl rfl (by omega) (by omega)).mpr q)
          refine lv_aload_n hx hb dX0_gain_45 rfl (lv_at hl 2 rfl) ?_
          refine x_get S hK hP 0 rfl cfX0 1 lkX0_19 (by decide) rfl dX0_gain_46 ?_
          refine lv_iload_n hx hb dX0_gain_49 rfl (lv_at hl 3 rfl) ?_
          refine lv_iload hx hb dX0_gain_50 (lv_at hl 0 rfl) ?_
          refine x_roVi (As := [.int p0, .int (nI j_50)]) S hK hP hD hZ (fun _ h => h) hA hS hA hl mwX1_viewAt lkX0_66 (ctX1_viewAt_c l D k z (fun i => ([0, 0, 0, (o 3), (o 4), (o 6), 0, 0, 0, 0, 0, 0, 0, 0, 0, 0, 0, 0, 0, 0, 0, 0, 0, 0, 0, 0, (o 26), (o 27), (o 28), (o 29), (o 30), (o 31), (o 32), (o 33), (o 34), (o 35), 0, 0, 0, 0, 0, 0, 0, 0, 0, 0, 0, 0, 0, 0, 0, 0, 0, 0, 0, 0, 0, 0, 0, 0, 0, 0, 0, 0, 0, 0, 0, 0, 0, (o 69), (o 70), (o 71), (o 73)] : List Nat).getD i 0) (u_2.1 0) (u_2.1 1) (u_2.1 2) (u_2.1 3) (u_2.1 4) (u_4.2.2.1 0) f69 f70 f71 glines ghours glaw godds grows gheads gsayings gslugs gacts f26 f30 f31 p0 j_50 (by omega) (by omega) (by omega) (by omega) (by omega) (by omega) (by omega)) [1, 2, 3, 4, 5, 6, 7, 8, 9, 10] rfl (by decide) rfl rfl rfl rfl rfl ⟨Nat.le_of_ble_eq_true rfl, Nat.le_of_ble_eq_true rfl, Nat.le_of_ble_eq_true rfl⟩ dX0_gain_52 ⟨Nat.le_of_ble_eq_true rfl, Nat.le_of_ble_eq_true rfl⟩ (fun r_54 H locs hr_54 hP hS => ?_)
          refine lv_istore (lv' := [(5, .int r_54), (4, .int (nI j_50)), (3, .int x_51), (0, .ref (o 9)), (1, .int p0), (2, .int p1)]) hx hb dX0_gain_55 hl (by decide) rfl (fun ls hl => ?_)
          refine lv_iload hx hb dX0_gain_57 (lv_at hl 0 rfl) ?_
          refine lv_if_eq (tgt := 82) hx hb dX0_gain_59 (by decide) (fun c_56 => ?_) (fun c_56 => ?_)
          · skip
            refine lv_iinc (v := (nI (j_50 + 1))) (lv' := [(4, .int (nI (j_50 + 1))), (5, .int r_54), (3, .int x_51), (0, .ref (o 9)), (1, .int p0), (2, .int p1)]) hx hb dX0_gain_82 hl (k := 1) rfl (ni_inc _) (by decide) rfl (fun ls hl => ?_)
            refine lv_goto (tgt := 33) hx hb dX0_gain_85 (by decide) ?_
            exact ihj_50 (j_50 + 1) x_51 _ _ _ (by omega) (by omega) (by omega) hP hD hS (lv_sub hl [0, 2, 3, 4, 5] rfl)
          · skip
            refine lv_iload hx hb dX0_gain_62 (lv_at hl 0 rfl) ?_
            refine lv_aload_n hx hb dX0_gain_64 rfl (lv_at hl 3 rfl) ?_
            refine x_get S hK hP 0 rfl cfX0 1 lkX0_19 (by decide) rfl dX0_gain_65 ?_
            refine lv_iload_n hx hb dX0_gain_68 rfl (lv_at hl 4 rfl) ?_
            refine lv_iload hx hb dX0_gain_69 (lv_at hl 1 rfl) ?_
            refine lv_iconst (v := 1) hx hb dX0_gain_71 (by decide) ?_
            refine lv_isub hx hb dX0_gain_72 ?_
            refine x_is (nI (j_50 - 1)) (ni_sub rfl (by decide) (by omega)) ?_
            refine x_roVi (As := [.int p0, .int (nI (j_50 - 1))]) S hK hP hD hZ (fun _ h => h) hA hS hA hl mwX1_viewAt lkX0_66 (ctX1_viewAt_c l D k z (fun i => ([0, 0, 0, (o 3), (o 4), (o 6), 0, 0, 0, 0, 0, 0, 0, 0, 0, 0, 0, 0, 0, 0, 0, 0, 0, 0, 0, 0, (o 26), (o 27), (o 28), (o 29), (o 30), (o 31), (o 32), (o 33), (o 34), (o 35), 0, 0, 0, 0, 0, 0, 0, 0, 0, 0, 0, 0, 0, 0, 0, 0, 0, 0, 0, 0, 0, 0, 0, 0, 0, 0, 0, 0, 0, 0, 0, 0, 0, (o 69), (o 70), (o 71), (o 73)] : List Nat).getD i 0) (u_2.1 0) (u_2.1 1) (u_2.1 2) (u_2.1 3) (u_2.1 4) (u_4.2.2.1 0) f69 f70 f71 glines ghours glaw godds grows gheads gsayings gslugs gacts f26 f30 f31 p0 (j_50 - 1) (by omega) (by omega) (by omega) (by omega) (by omega) (by omega) (by omega)) [1, 2, 3, 4, 5, 6, 7, 8, 9, 10] rfl (by decide) rfl rfl rfl rfl rfl ⟨Nat.le_of_ble_eq_true rfl, Nat.le_of_ble_eq_true rfl, Nat.le_of_ble_eq_true rfl⟩ dX0_gain_73 ⟨Nat.le_of_ble_eq_true rfl, Nat.le_of_ble_eq_true rfl⟩ (fun r_57 H locs hr_57 hP hS => ?_)
            refine lv_icmp_ne (tgt := 82) hx hb dX0_gain_76 (by decide) (fun c_59 => ?_) (fun c_59 => ?_)
            · skip
              refine lv_iinc (v := (nI (j_50 + 1))) (lv' := [(4, .int (nI (j_50 + 1))), (5, .int r_54), (3, .int x_51), (0, .ref (o 9)), (1, .int p0), (2, .int p1)]) hx hb dX0_gain_82 hl (k := 1) rfl (ni_inc _) (by decide) rfl (fun ls hl => ?_)
              refine lv_goto (tgt := 33) hx hb dX0_gain_85 (by decide) ?_
              exact ihj_50 (j_50 + 1) x_51 _ _ _ (by omega) (by omega) (by omega) hP hD hS (lv_sub hl [0, 2, 3, 4, 5] rfl)
            · skip
              obtain ⟨v_60, ev_60⟩ : ∃ y : Int32, y = x_51 + Int32.ofInt (2) := ⟨_, rfl⟩
              refine lv_iinc (v := v_60) (lv' := [(3, .int v_60), (5, .int r_54), (4, .int (nI j_50)), (0, .ref (o 9)), (1, .int p0), (2, .int p1)]) hx hb dX0_gain_79 hl (k := 2) rfl ev_60.symm (by decide) rfl (fun ls hl => ?_)
              refine lv_iinc (v := (nI (j_50 + 1))) (lv' := [(4, .int (nI (j_50 + 1))), (3, .int v_60), (5, .int r_54), (0, .ref (o 9)), (1, .int p0), (2, .int p1)]) hx hb dX0_gain_82 hl (k := 2) rfl (ni_inc _) (by decide) rfl (fun ls hl => ?_)
              refine lv_goto (tgt := 33) hx hb dX0_gain_85 (by decide) ?_
              exact ihj_50 (j_50 + 1) v_60 _ _ _ (by omega) (by omega) (by omega) hP hD hS (lv_sub hl [0, 1, 3, 4, 5] rfl)
    exact lp_52 (ghours + 1 + 1) 1 (-3) _ _ _ (by omega) (by omega) (by omega) hP hD hS (lv_sub hl [0, 1, 2, 3, 4] rfl)

set_option maxHeartbeats 4000000 in
set_option maxRecDepth 100000 in
theorem ctX0_restingPairs (l : Launch) (D : va_G) (k : Nat → ClassId) (z : Nat → Nat) (o : Nat → Nat) (kopener : Int32) (kworth : Int32) (tlawNow : Int32) (tharder : Int32) (ttold : Int32) (treply : Int32) (twet : Int32) (f73 : Nat → Int32) (f69 : Nat → Int32) (f70 : Nat → Int32) (f71 : Nat → Int32) (glines : Int32) (ghours : Nat) (glaw : Int32) (godds : Int32) (grows : Nat) (gheads : Nat) (gsayings : Nat) (gslugs : Nat) (gacts : Nat) (f26 : Nat → Int32) (f30 : Nat → Int32) (f31 : Nat → Int32) (p0 : Int32) (p1 : Int32) (hghours : ghours ≤ 16) (hgrows : grows ≤ 4) (hgheads : gheads ≤ 12) (hgsayings : gsayings ≤ 8) (hgslugs : gslugs ≤ 4) (hgacts : gacts ≤ 30) : MU l yX0_restingPairs cX0_restingPairs 8 (some .int) 5 D k z [.ref (o 9), .int p0, .int p1] [((o 9), .inr (0, [.ref (o 3), .ref (o 6), .int kopener, .int kworth])), ((o 6), .inr (1, [.ref (o 3), .ref (o 4), .int tlawNow, .int tharder, .int ttold, .int treply, .int twet, .ref (o 73)])), ((o 73), .inl (k 0, 17, .inl f73)), ((o 4), .inr (3, [.ref (o 69), .ref (o 70), .ref (o 71)])), ((o 69), .inl (k 0, 17, .inl f69)), ((o 70), .inl (k 0, 17, .inl f70)), ((o 71), .inl (k 0, 17, .inl f71)), ((o 3), .inr (2, [.int glines, .int (nI ghours), .int glaw, .int godds, .int (nI grows), .int (nI gheads), .int (nI gsayings), .int (nI gslugs), .int (nI gacts), .ref (o 26), .ref (o 27), .ref (o 28), .ref (o 29), .ref (o 30), .ref (o 31), .ref (o 32), .ref (o 33), .ref (o 34), .ref (o 35)])), ((o 26), .inl (k 0, 12, .inl f26)), ((o 30), .inl (k 0, 12, .inl f30)), ((o 31), .inl (k 0, 12, .inl f31))] 0 0 (Ui D (fun (r : Int32) (u : (Nat → Int32) × (Nat → Nat) × (Nat → Nat → Int32) × (Nat → Nat → Int64) × (Nat → Int64)) => True) (fun u : (Nat → Int32) × (Nat → Nat) × (Nat → Nat → Int32) × (Nat → Nat → Int64) × (Nat → Int64) => [((o 9), .inr (0, [.ref (o 3), .ref (o 6), .int kopener, .int kworth])), ((o 6), .inr (1, [.ref (o 3), .ref (o 4), .int (u.1 0), .int (u.1 1), .int (u.1 2), .int (u.1 3), .int (u.1 4), .ref (o 73)])), ((o 73), .inl (k 0, 17, .inl (u.2.2.1 0))), ((o 4), .inr (3, [.ref (o 69), .ref (o 70), .ref (o 71)])), ((o 69), .inl (k 0, 17, .inl f69)), ((o 70), .inl (k 0, 17, .inl f70)), ((o 71), .inl (k 0, 17, .inl f71)), ((o 3), .inr (2, [.int glines, .int (nI ghours), .int glaw, .int godds, .int (nI grows), .int (nI gheads), .int (nI gsayings), .int (nI gslugs), .int (nI gacts), .ref (o 26), .ref (o 27), .ref (o 28), .ref (o 29), .ref (o 30), .ref (o 31), .ref (o 32), .ref (o 33), .ref (o 34), .ref (o 35)])), ((o 26), .inl (k 0, 12, .inl f26)), ((o 30), .inl (k 0, 12, .inl f30)), ((o 31), .inl (k 0, 12, .inl f31))])) := by
  refine MU.of (by decide) (Nat.le_of_ble_eq_true rfl) ?_
  intro p e s m below meth c ls A args Q S hr hlk hnm hQ hK hP hD hZ hA hS hl
  have hx := S.1
  have hb := S.2.1
  have hl : lv_has ls 8 [(0, .ref (o 9)), (1, .int p0), (2, .int p1)] := hl
  refine lv_iconst (v := 0) hx hb dX0_restingPairs_0 (by decide) ?_
  refine lv_istore_n (lv' := [(3, .int 0), (0, .ref (o 9)), (1, .int p0), (2, .int p1)]) hx hb dX0_restingPairs_1 rfl hl (by decide) rfl (fun ls hl => ?_)
  refine lv_iconst (v := 0) hx hb dX0_restingPairs_2 (by decide) ?_
  refine lv_istore (lv' := [(4, .int 0), (3, .int 0), (0, .ref (o 9)), (1, .int p0), (2, .int p1)]) hx hb dX0_restingPairs_3 hl (by decide) rfl (fun ls hl => ?_)
  have lp_89 : ∀ (nn j_81 : Nat) (x_82 : Int32) (x_83 : Int32) (x_84 : Int32) (x_85 : Int32) (x_86 : Int32) (g_87 : Nat → Int32) (x_88 : Int32) (H : Heap) (locs : List Loc) (ls : Array Slot), j_81 ≤ 4 → 4 - j_81 < nn → va_P D vwCl [((o 9), .inr (0, [.ref (o 3), .ref (o 6), .int kopener, .int kworth])), ((o 6), .inr (1, [.ref (o 3), .ref (o 4), .int x_82, .int x_83, .int x_84, .int x_85, .int x_86, .ref (o 73)])), ((o 73), .inl (k 0, 17, .inl g_87)), ((o 4), .inr (3, [.ref (o 69), .ref (o 70), .ref (o 71)])), ((o 69), .inl (k 0, 17, .inl f69)), ((o 70), .inl (k 0, 17, .inl f70)), ((o 71), .inl (k 0, 17, .inl f71)), ((o 3), .inr (2, [.int glines, .int (nI ghours), .int glaw, .int godds, .int (nI grows), .int (nI gheads), .int (nI gsayings), .int (nI gslugs), .int (nI gacts), .ref (o 26), .ref (o 27), .ref (o 28), .ref (o 29), .ref (o 30), .ref (o 31), .ref (o 32), .ref (o 33), .ref (o 34), .ref (o 35)])), ((o 26), .inl (k 0, 12, .inl f26)), ((o 30), .inl (k 0, 12, .inl f30)), ((o 31), .inl (k 0, 12, .inl f31))] H → va_D A [((o 9), .inr (0, [.ref (o 3), .ref (o 6), .int kopener, .int kworth])), ((o 6), .inr (1, [.ref (o 3), .ref (o 4), .int x_82, .int x_83, .int x_84, .int x_85, .int x_86, .ref (o 73)])), ((o 73), .inl (k 0, 17, .inl g_87)), ((o 4), .inr (3, [.ref (o 69), .ref (o 70), .ref (o 71)])), ((o 69), .inl (k 0, 17, .inl f69)), ((o 70), .inl (k 0, 17, .inl f70)), ((o 71), .inl (k 0, 17, .inl f71)), ((o 3), .inr (2, [.int glines, .int (nI ghours), .int glaw, .int godds, .int (nI grows), .int (nI gheads), .int (nI gsayings), .int (nI gslugs), .int (nI gacts), .ref (o 26), .ref (o 27), .ref (o 28), .ref (o 29), .ref (o 30), .ref (o 31), .ref (o 32), .ref (o 33), .ref (o 34), .ref (o 35)])), ((o 26), .inl (k 0, 12, .inl f26)), ((o 30), .inl (k 0, 12, .inl f30)), ((o 31), .inl (k 0, 12, .inl f31))] → va_S A s.heap H locs → lv_has ls 8 [(4, .int (nI j_81)), (3, .int x_88), (0, .ref (o 9)), (1, .int p0), (2, .int p1)] → W p l e (Rm 5 0 0) s m args below meth c H locs 0 0 Q (F0 m 5 ls []) := by
    intro nn
    induction nn with
    | zero => intro j_81 x_82 x_83 x_84 x_85 x_86 g_87 x_88 H locs ls hjj_81 hnj_81; exact absurd hnj_81 (by omega)
    | succ nn ihj_81 =>
      intro j_81 x_82 x_83 x_84 x_85 x_86 g_87 x_88 H locs ls hjj_81 hnj_81 hP hD hS hl
      refine lv_iload hx hb dX0_restingPairs_5 (lv_at hl 0 rfl) ?_
      refine lv_iconst (v := 4) hx hb dX0_restingPairs_7 (by decide) ?_
      refine lv_icmp_ge (tgt := 105) hx hb dX0_restingPairs_8 (by decide) (fun c_90 => ?_) (fun c_90 => ?_)
      · skip
        have c_90 : 4 ≤ j_81 := (ni_le (by decide) rfl (by omega) (by omega)).mp c_90
        refine lv_iload_n hx hb dX0_restingPairs_105 rfl (lv_at hl 1 rfl) ?_
        exact x_reti S hr hlk hQ hS ((fun i => ([x_82, x_83, x_84, x_85, x_86] : List (Int32)).getD i 0), (fun i => ([] : List (Nat)).getD i 0), (fun i => ([g_87] : List (Nat → Int32)).getD i (fun _ => 0)), (fun i => ([] : List (Nat → Int64)).getD i (fun _ => 0)), (fun i => ([] : List (Int64)).getD i 0)) trivial (x_B hP hD) dX0_restingPairs_106
      · skip
        have c_90 : ¬ 4 ≤ j_81 := fun q => c_90 ((ni_le (by decide) rfl (by omega) (by omega)).mpr q)
        refine lv_iload hx hb dX0_restingPairs_11 (lv_at hl 0 rfl) ?_
        refine lv_iconst (v := 1) hx hb dX0_restingPairs_13 (by decide) ?_
        refine lv_iand hx hb dX0_restingPairs_14 ?_
        refine lv_topi (fun v_91 ev_91 => ?_)
        refine lv_iload_n hx hb dX0_restingPairs_15 rfl (lv_at hl 3 rfl) ?_
        refine lv_ishl hx hb dX0_restingPairs_16 ?_
        refine lv_topi (fun v_92 ev_92 => ?_)
        refine lv_iload hx hb dX0_restingPairs_17 (lv_at hl 0 rfl) ?_
        refine lv_iconst (v := 1) hx hb dX0_restingPairs_19 (by decide) ?_
        refine lv_iushr hx hb dX0_restingPairs_20 rfl ?_
        refine lv_topi (fun v_93 ev_93 => ?_)
        refine lv_iload_n hx hb dX0_restingPairs_21 rfl (lv_at hl 4 rfl) ?_
        refine lv_ishl hx hb dX0_restingPairs_22 ?_
        refine lv_topi (fun v_94 ev_94 => ?_)
        refine lv_ior hx hb dX0_restingPairs_23 ?_
        refine lv_topi (fun v_95 ev_95 => ?_)
        refine lv_istore (lv' := [(5, .int v_95), (4, .int (nI j_81)), (3, .int x_88), (0, .ref (o 9)), (1, .int p0), (2, .int p1)]) hx hb dX0_restingPairs_24 hl (by decide) rfl (fun ls hl => ?_)
        refine lv_aload_n hx hb dX0_restingPairs_26 rfl (lv_at hl 3 rfl) ?_
        refine lv_iload_n hx hb dX0_restingPairs_27 rfl (lv_at hl 4 rfl) ?_
        refine lv_iload hx hb dX0_restingPairs_28 (lv_at hl 0 rfl) ?_
        refine x_muVi (wr := []) (As := [.int p0, .int v_95]) S hK hP hD hZ hS hA hl mwX0_gain lkX0_69 (ctX0_gain l D k z o kopener kworth x_82 x_83 x_84 x_85 x_86 g_87 f69 f70 f71 glines ghours glaw godds grows gheads gsayings gslugs gacts f26 f30 f31 p0 v_95 (by omega) (by omega) (by omega) (by omega) (by omega) (by omega)) [0, 1, 2, 3, 4, 5, 6, 7, 8, 9, 10] [] rfl rfl (by decide) (by decide) (by decide) rfl rfl rfl rfl rfl ⟨Nat.le_of_ble_eq_true rfl, Nat.le_of_ble_eq_true rfl, Nat.le_of_ble_eq_true rfl⟩ dX0_restingPairs_30 ⟨Nat.le_of_ble_eq_true rfl, Nat.le_of_ble_eq_true rfl⟩ (fun r_96 u_97 H locs hr_96 hP hD hS => ?_)
        have hP : va_P D vwCl [((o 9), .inr (0, [.ref (o 3), .ref (o 6), .int kopener, .int kworth])), ((o 6), .inr (1, [.ref (o 3), .ref (o 4), .int (u_97.1 0), .int (u_97.1 1), .int (u_97.1 2), .int (u_97.1 3), .int (u_97.1 4), .ref (o 73)])), ((o 73), .inl (k 0, 17, .inl (u_97.2.2.1 0))), ((o 4), .inr (3, [.ref (o 69), .ref (o 70), .ref (o 71)])), ((o 69), .inl (k 0, 17, .inl f69)), ((o 70), .inl (k 0, 17, .inl f70)), ((o 71), .inl (k 0, 17, .inl f71)), ((o 3), .inr (2, [.int glines, .int (nI ghours), .int glaw, .int godds, .int (nI grows), .int (nI gheads), .int (nI gsayings), .int (nI gslugs), .int (nI gacts), .ref (o 26), .ref (o 27), .ref (o 28), .ref (o 29), .ref (o 30), .ref (o 31), .ref (o 32), .ref (o 33), .ref (o 34), .ref (o 35)])), ((o 26), .inl (k 0, 12, .inl f26)), ((o 30), .inl (k 0, 12, .inl f30)), ((o 31), .inl (k 0, 12, .inl f31))] H := hP.sub [0, 1, 2, 3, 4, 5, 6, 7, 8, 9, 10] rfl
        have hD : va_D A [((o 9), .inr (0, [.ref (o 3), .ref (o 6), .int kopener, .int kworth])), ((o 6), .inr (1, [.ref (o 3), .ref (o 4), .int (u_97.1 0), .int (u_97.1 1), .int (u_97.1 2), .int (u_97.1 3), .int (u_97.1 4), .ref (o 73)])), ((o 73), .inl (k 0, 17, .inl (u_97.2.2.1 0))), ((o 4), .inr (3, [.ref (o 69), .ref (o 70), .ref (o 71)])), ((o 69), .inl (k 0, 17, .inl f69)), ((o 70), .inl (k 0, 17, .inl f70)), ((o 71), .inl (k 0, 17, .inl f71)), ((o 3), .inr (2, [.int glines, .int (nI ghours), .int glaw, .int godds, .int (nI grows), .int (nI gheads), .int (nI gsayings), .int (nI gslugs), .int (nI gacts), .ref (o 26), .ref (o 27), .ref (o 28), .ref (o 29), .ref (o 30), .ref (o 31), .ref (o 32), .ref (o 33), .ref (o 34), .ref (o 35)])), ((o 26), .inl (k 0, 12, .inl f26)), ((o 30), .inl (k 0, 12, .inl f30)), ((o 31), .inl (k 0, 12, .inl f31))] := hD.sub [0, 1, 2, 3, 4, 5, 6, 7, 8, 9, 10] (by decide) rfl
        refine lv_aload_n hx hb dX0_restingPairs_33 rfl (lv_at hl 3 rfl) ?_
        refine lv_iload_n hx hb dX0_restingPairs_34 rfl (lv_at hl 4 rfl) ?_
        refine lv_iload hx hb dX0_restingPairs_35 (lv_at hl 0 rfl) ?_
        refine lv_iconst (v := 1) hx hb dX0_restingPairs_37 (by decide) ?_
        refine lv_iload_n hx hb dX0_restingPairs_38 rfl (lv_at hl 4 rfl) ?_
        refine lv_ishl hx hb dX0_restingPairs_39 ?_
        refine lv_topi (fun v_98 ev_98 => ?_)
        refine lv_ixor hx hb dX0_restingPairs_40 ?_
        refine lv_topi (fun v_99 ev_99 => ?_)
        refine x_muVi (wr := []) (As := [.int p0, .int v_99]) S hK hP hD hZ hS hA hl mwX0_gain lkX0_69 (ctX0_gain l D k z o kopener kworth (u_97.1 0) (u_97.1 1) (u_97.1 2) (u_97.1 3) (u_97.1 4) (u_97.2.2.1 0) f69 f70 f71 glines ghours glaw godds grows gheads gsayings gslugs gacts f26 f30 f31 p0 v_99 (by omega) (by omega) (by omega) (by omega) (by omega) (by omega)) [0, 1, 2, 3, 4, 5, 6, 7, 8, 9, 10] [] rfl rfl (by decide) (by decide) (by decide) rfl rfl rfl rfl rfl ⟨Nat.le_of_ble_eq_true rfl, Nat.le_of_ble_eq_true rfl, Nat.le_of_ble_eq_true rfl⟩ dX0_restingPairs_41 ⟨Nat.le_of_ble_eq_true rfl, Nat.le_of_ble_eq_true rfl⟩ (fun r_100 u_101 H locs hr_100 hP hD hS => ?_)
        have hP : va_P D vwCl [((o 9), .inr (0, [.ref (o 3), .ref (o 6), .int kopener, .int kworth])), ((o 6), .inr (1, [.ref (o 3), .ref (o 4), .int (u_101.1 0), .int (u_101.1 1), .int (u_101.1 2), .int (u_101.1 3), .int (u_101.1 4), .ref (o 73)])), ((o 73), .inl (k 0, 17, .inl (u_101.2.2.1 0))), ((o 4), .inr (3, [.ref (o 69), .ref (o 70), .ref (o 71)])), ((o 69), .inl (k 0, 17, .inl f69)), ((o 70), .inl (k 0, 17, .inl f70)), ((o 71), .inl (k 0, 17, .inl f71)), ((o 3), .inr (2, [.int glines, .int (nI ghours), .int glaw, .int godds, .int (nI grows), .int (nI gheads), .int (nI gsayings), .int (nI gslugs), .int (nI gacts), .ref (o 26), .ref (o 27), .ref (o 28), .ref (o 29), .ref (o 30), .ref (o 31), .ref (o 32), .ref (o 33), .ref (o 34), .ref (o 35)])), ((o 26), .inl (k 0, 12, .inl f26)), ((o 30), .inl (k 0, 12, .inl f30)), ((o 31), .inl (k 0, 12, .inl f31))] H := hP.sub [0, 1, 2, 3, 4, 5, 6, 7, 8, 9, 10] rfl
        have hD : va_D A [((o 9), .inr (0, [.ref (o 3), .ref (o 6), .int kopener, .int kworth])), ((o 6), .inr (1, [.ref (o 3), .ref (o 4), .int (u_101.1 0), .int (u_101.1 1), .int (u_101.1 2), .int (u_101.1 3), .int (u_101.1 4), .ref (o 73)])), ((o 73), .inl (k 0, 17, .inl (u_101.2.2.1 0))), ((o 4), .inr (3, [.ref (o 69), .ref (o 70), .ref (o 71)])), ((o 69), .inl (k 0, 17, .inl f69)), ((o 70), .inl (k 0, 17, .inl f70)), ((o 71), .inl (k 0, 17, .inl f71)), ((o 3), .inr (2, [.int glines, .int (nI ghours), .int glaw, .int godds, .int (nI grows), .int (nI gheads), .int (nI gsayings), .int (nI gslugs), .int (nI gacts), .ref (o 26), .ref (o 27), .ref (o 28), .ref (o 29), .ref (o 30), .ref (o 31), .ref (o 32), .ref (o 33), .ref (o 34), .ref (o 35)])), ((o 26), .inl (k 0, 12, .inl f26)), ((o 30), .inl (k 0, 12, .inl f30)), ((o 31), .inl (k 0, 12, .inl f31))] := hD.sub [0, 1, 2, 3, 4, 5, 6, 7, 8, 9, 10] (by decide) rfl
        refine lv_icmp_lt (tgt := 51) hx hb dX0_restingPairs_44 (by decide) (fun c_102 => ?_) (fun c_102 => ?_)
        · skip
          refine lv_iconst (v := 0) hx hb dX0_restingPairs_51 (by decide) ?_
          refine lv_istore (lv' := [(6, .int 0), (5, .int v_95), (4, .int (nI j_81)), (3, .int x_88), (0, .ref (o 9)), (1, .int p0), (2, .int p1)]) hx hb dX0_restingPairs_52 hl (by decide) rfl (fun ls hl => ?_)
          refine lv_aload_n hx hb dX0_restingPairs_54 rfl (lv_at hl 4 rfl) ?_
          refine lv_iload_n hx hb dX0_restingPairs_55 rfl (lv_at hl 6 rfl) ?_
          refine lv_iload hx hb dX0_restingPairs_56 (lv_at hl 1 rfl) ?_
          refine x_muVi (wr := []) (As := [.int p1, .int v_95]) S hK hP hD hZ hS hA hl mwX0_gain lkX0_69 (ctX0_gain l D k z o kopener kworth (u_101.1 0) (u_101.1 1) (u_101.1 2) (u_101.1 3) (u_101.1 4) (u_101.2.2.1 0) f69 f70 f71 glines ghours glaw godds grows gheads gsayings gslugs gacts f26 f30 f31 p1 v_95 (by omega) (by omega) (by omega) (by omega) (by omega) (by omega)) [0, 1, 2, 3, 4, 5, 6, 7, 8, 9, 10] [] rfl rfl (by decide) (by decide) (by decide) rfl rfl rfl rfl rfl ⟨Nat.le_of_ble_eq_true rfl, Nat.le_of_ble_eq_true rfl, Nat.le_of_ble_eq_true rfl⟩ dX0_restingPairs_58 ⟨Nat.le_of_ble_eq_true rfl, Nat.le_of_ble_eq_true rfl⟩ (fun r_103 u_104 H locs hr_103 hP hD hS => ?_)
          have hP : va_P D vwCl [((o 9), .inr (0, [.ref (o 3), .ref (o 6), .int kopener, .int kworth])), ((o 6), .inr (1, [.ref (o 3), .ref (o 4), .int (u_104.1 0), .int (u_104.1 1), .int (u_104.1 2), .int (u_104.1 3), .int (u_104.1 4), .ref (o 73)])), ((o 73), .inl (k 0, 17, .inl (u_104.2.2.1 0))), ((o 4), .inr (3, [.ref (o 69), .ref (o 70), .ref (o 71)])), ((o 69), .inl (k 0, 17, .inl f69)), ((o 70), .inl (k 0, 17, .inl f70)), ((o 71), .inl (k 0, 17, .inl f71)), ((o 3), .inr (2, [.int glines, .int (nI ghours), .int glaw, .int godds, .int (nI grows), .int (nI gheads), .int (nI gsayings), .int (nI gslugs), .int (nI gacts), .ref (o 26), .ref (o 27), .ref (o 28), .ref (o 29), .ref (o 30), .ref (o 31), .ref (o 32), .ref (o 33), .ref (o 34), .ref (o 35)])), ((o 26), .inl (k 0, 12, .inl f26)), ((o 30), .inl (k 0, 12, .inl f30)), ((o 31), .inl (k 0, 12, .inl f31))] H := hP.sub [0, 1, 2, 3, 4, 5, 6, 7, 8, 9, 10] rfl
          have hD : va_D A [((o 9), .inr (0, [.ref (o 3), .ref (o 6), .int kopener, .int kworth])), ((o 6), .inr (1, [.ref (o 3), .ref (o 4), .int (u_104.1 0), .int (u_104.1 1), .int (u_104.1 2), .int (u_104.1 3), .int (u_104.1 4), .ref (o 73)])), ((o 73), .inl (k 0, 17, .inl (u_104.2.2.1 0))), ((o 4), .inr (3, [.ref (o 69), .ref (o 70), .ref (o 71)])), ((o 69), .inl (k 0, 17, .inl f69)), ((o 70), .inl (k 0, 17, .inl f70)), ((o 71), .inl (k 0, 17, .inl f71)), ((o 3), .inr (2, [.int glines, .int (nI ghours), .int glaw, .int godds, .int (nI grows), .int (nI gheads), .int (nI gsayings), .int (nI gslugs), .int (nI gacts), .ref (o 26), .ref (o 27), .ref (o 28), .ref (o 29), .ref (o 30), .ref (o 31), .ref (o 32), .ref (o 33), .ref (o 34), .ref (o 35)])), ((o 26), .inl (k 0, 12, .inl f26)), ((o 30), .inl (k 0, 12, .inl f30)), ((o 31), .inl (k 0, 12, .inl f31))] := hD.sub [0, 1, 2, 3, 4, 5, 6, 7, 8, 9, 10] (by decide) rfl
          refine lv_aload_n hx hb dX0_restingPairs_61 rfl (lv_at hl 4 rfl) ?_
          refine lv_iload_n hx hb dX0_restingPairs_62 rfl (lv_at hl 6 rfl) ?_
          refine lv_iload hx hb dX0_restingPairs_63 (lv_at hl 1 rfl) ?_
          refine lv_iconst (v := 1) hx hb dX0_restingPairs_65 (by decide) ?_
          refine lv_iload_n hx hb dX0_restingPairs_66 rfl (lv_at hl 6 rfl) ?_
          refine lv_ishl hx hb dX0_restingPairs_67 ?_
          refine lv_topi (fun v_105 ev_105 => ?_)
          refine lv_ixor hx hb dX0_restingPairs_68 ?_
          refine lv_topi (fun v_106 ev_106 => ?_)
          refine x_muVi (wr := []) (As := [.int p1, .int v_106]) S hK hP hD hZ hS hA hl mwX0_gain lkX0_69 (ctX0_gain l D k z o kopener kworth (u_104.1 0) (u_104.1 1) (u_104.1 2) (u_104.1 3) (u_104.1 4) (u_104.2.2.1 0) f69 f70 f71 glines ghours glaw godds grows gheads gsayings gslugs gacts f26 f30 f31 p1 v_106 (by omega) (by omega) (by omega) (by omega) (by omega) (by omega)) [0, 1, 2, 3, 4, 5, 6, 7, 8, 9, 10] [] rfl rfl (by decide) (by decide) (by decide) rfl rfl rfl rfl rfl ⟨Nat.le_of_ble_eq_true rfl, Nat.le_of_ble_eq_true rfl, Nat.le_of_ble_eq_true rfl⟩ dX0_restingPairs_69 ⟨Nat.le_of_ble_eq_true rfl, Nat.le_of_ble_eq_true rfl⟩ (fun r_107 u_108 H locs hr_107 hP hD hS => ?_)
          have hP : va_P D vwCl [((o 9), .inr (0, [.ref (o 3), .ref (o 6), .int kopener, .int kworth])), ((o 6), .inr (1, [.ref (o 3), .ref (o 4), .int (u_108.1 0), .int (u_108.1 1), .int (u_108.1 2), .int (u_108.1 3), .int (u_108.1 4), .ref (o 73)])), ((o 73), .inl (k 0, 17, .inl (u_108.2.2.1 0))), ((o 4), .inr (3, [.ref (o 69), .ref (o 70), .ref (o 71)])), ((o 69), .inl (k 0, 17, .inl f69)), ((o 70), .inl (k 0, 17, .inl f70)), ((o 71), .inl (k 0, 17, .inl f71)), ((o 3), .inr (2, [.int glines, .int (nI ghours), .int glaw, .int godds, .int (nI grows), .int (nI gheads), .int (nI gsayings), .int (nI gslugs), .int (nI gacts), .ref (o 26), .ref (o 27), .ref (o 28), .ref (o 29), .ref (o 30), .ref (o 31), .ref (o 32), .ref (o 33), .ref (o 34), .ref (o 35)])), ((o 26), .inl (k 0, 12, .inl f26)), ((o 30), .inl (k 0, 12, .inl f30)), ((o 31), .inl (k 0, 12, .inl f31))] H := hP.sub [0, 1, 2, 3, 4, 5, 6, 7, 8, 9, 10] rfl
          have hD : va_D A [((o 9), .inr (0, [.ref (o 3), .ref (o 6), .int kopener, .int kworth])), ((o 6), .inr (1, [.ref (o 3), .ref (o 4), .int (u_108.1 0), .int (u_108.1 1), .int (u_108.1 2), .int (u_108.1 3), .int (u_108.1 4), .ref (o 73)])), ((o 73), .inl (k 0, 17, .inl (u_108.2.2.1 0))), ((o 4), .inr (3, [.ref (o 69), .ref (o 70), .ref (o 71)])), ((o 69), .inl (k 0, 17, .inl f69)), ((o 70), .inl (k 0, 17, .inl f70)), ((o 71), .inl (k 0, 17, .inl f71)), ((o 3), .inr (2, [.int glines, .int (nI ghours), .int glaw, .int godds, .int (nI grows), .int (nI gheads), .int (nI gsayings), .int (nI gslugs), .int (nI gacts), .ref (o 26), .ref (o 27), .ref (o 28), .ref (o 29), .ref (o 30), .ref (o 31), .ref (o 32), .ref (o 33), .ref (o 34), .ref (o 35)])), ((o 26), .inl (k 0, 12, .inl f26)), ((o 30), .inl (k 0, 12, .inl f30)), ((o 31), .inl (k 0, 12, .inl f31))] := hD.sub [0, 1, 2, 3, 4, 5, 6, 7, 8, 9, 10] (by decide) rfl
          refine lv_icmp_lt (tgt := 79) hx hb dX0_restingPairs_72 (by decide) (fun c_109 => ?_) (fun c_109 => ?_)
          · skip
            refine lv_iconst (v := 0) hx hb dX0_restingPairs_79 (by decide) ?_
            refine lv_istore (lv' := [(7, .int 0), (6, .int 0), (5, .int v_95), (4, .int (nI j_81)), (3, .int x_88), (0, .ref (o 9)), (1, .int p0), (2, .int p1)]) hx hb dX0_restingPairs_80 hl (by decide) rfl (fun ls hl => ?_)
            refine lv_iload hx hb dX0_restingPairs_82 (lv_at hl 1 rfl) ?_
            refine lv_if_eq (tgt := 99) hx hb dX0_restingPairs_84 (by decide) (fun c_110 => ?_) (fun c_110 => absurd (by decide) c_110)
            refine lv_iinc (v := (nI (j_81 + 1))) (lv' := [(4, .int (nI (j_81 + 1))), (7, .int 0), (6, .int 0), (5, .int v_95), (3, .int x_88), (0, .ref (o 9)), (1, .int p0), (2, .int p1)]) hx hb dX0_restingPairs_99 hl (k := 3) rfl (ni_inc _) (by decide) rfl (fun ls hl => ?_)
            refine lv_goto (tgt := 5) hx hb dX0_restingPairs_102 (by decide) ?_
            exact ihj_81 (j_81 + 1) (u_108.1 0) (u_108.1 1) (u_108.1 2) (u_108.1 3) (u_108.1 4) (u_108.2.2.1 0) x_88 _ _ _ (by omega) (by omega) hP hD hS (lv_sub hl [0, 4, 5, 6, 7] rfl)
          · skip
            refine lv_iconst (v := 1) hx hb dX0_restingPairs_75 (by decide) ?_
            refine lv_goto (tgt := 80) hx hb dX0_restingPairs_76 (by decide) ?_
            refine lv_istore (lv' := [(7, .int 1), (6, .int 0), (5, .int v_95), (4, .int (nI j_81)), (3, .int x_88), (0, .ref (o 9)), (1, .int p0), (2, .int p1)]) hx hb dX0_restingPairs_80 hl (by decide) rfl (fun ls hl => ?_)
            refine lv_iload hx hb dX0_restingPairs_82 (lv_at hl 1 rfl) ?_
            refine lv_if_eq (tgt := 99) hx hb dX0_restingPairs_84 (by decide) (fun c_111 => ?_) (fun c_111 => absurd (by decide) c_111)
            refine lv_iinc (v := (nI (j_81 + 1))) (lv' := [(4, .int (nI (j_81 + 1))), (7, .int 1), (6, .int 0), (5, .int v_95), (3, .int x_88), (0, .ref (o 9)), (1, .int p0), (2, .int p1)]) hx hb dX0_restingPairs_99 hl (k := 3) rfl (ni_inc _) (by decide) rfl (fun ls hl => ?_)
            refine lv_goto (tgt := 5) hx hb dX0_restingPairs_102 (by decide) ?_
            exact ihj_81 (j_81 + 1) (u_108.1 0) (u_108.1 1) (u_108.1 2) (u_108.1 3) (u_108.1 4) (u_108.2.2.1 0) x_88 _ _ _ (by omega) (by omega) hP hD hS (lv_sub hl [0, 4, 5, 6, 7] rfl)
        · skip
          refine lv_iconst (v := 1) hx hb dX0_restingPairs_47 (by decide) ?_
          refine lv_goto (tgt := 52) hx hb dX0_restingPairs_48 (by decide) ?_
          refine lv_istore (lv' := [(6, .int 1), (5, .int v_95), (4, .int (nI j_81)), (3, .int x_88), (0, .ref (o 9)), (1, .int p0), (2, .int p1)]) hx hb dX0_restingPairs_52 hl (by decide) rfl (fun ls hl => ?_)
          refine lv_aload_n hx hb dX0_restingPairs_54 rfl (lv_at hl 4 rfl) ?_
          refine lv_iload_n hx hb dX0_restingPairs_55 rfl (lv_at hl 6 rfl) ?_
          refine lv_iload hx hb dX0_restingPairs_56 (lv_at hl 1 rfl) ?_
          refine x_muVi (wr := []) (As := [.int p1, .int v_95]) S hK hP hD hZ hS hA hl mwX0_gain lkX0_69 (ctX0_gain l D k z o kopener kworth (u_101.1 0) (u_101.1 1) (u_101.1 2) (u_101.1 3) (u_101.1 4) (u_101.2.2.1 0) f69 f70 f71 glines ghours glaw godds grows gheads gsayings gslugs gacts f26 f30 f31 p1 v_95 (by omega) (by omega) (by omega) (by omega) (by omega) (by omega)) [0, 1, 2, 3, 4, 5, 6, 7, 8, 9, 10] [] rfl rfl (by decide) (by decide) (by decide) rfl rfl rfl rfl rfl ⟨Nat.le_of_ble_eq_true rfl, Nat.le_of_ble_eq_true rfl, Nat.le_of_ble_eq_true rfl⟩ dX0_restingPairs_58 ⟨Nat.le_of_ble_eq_true rfl, Nat.le_of_ble_eq_true rfl⟩ (fun r_112 u_113 H locs hr_112 hP hD hS => ?_)
          have hP : va_P D vwCl [((o 9), .inr (0, [.ref (o 3), .ref (o 6), .int kopener, .int kworth])), ((o 6), .inr (1, [.ref (o 3), .ref (o 4), .int (u_113.1 0), .int (u_113.1 1), .int (u_113.1 2), .int (u_113.1 3), .int (u_113.1 4), .ref (o 73)])), ((o 73), .inl (k 0, 17, .inl (u_113.2.2.1 0))), ((o 4), .inr (3, [.ref (o 69), .ref (o 70), .ref (o 71)])), ((o 69), .inl (k 0, 17, .inl f69)), ((o 70), .inl (k 0, 17, .inl f70)), ((o 71), .inl (k 0, 17, .inl f71)), ((o 3), .inr (2, [.int glines, .int (nI ghours), .int glaw, .int godds, .int (nI grows), .int (nI gheads), .int (nI gsayings), .int (nI gslugs), .int (nI gacts), .ref (o 26), .ref (o 27), .ref (o 28), .ref (o 29), .ref (o 30), .ref (o 31), .ref (o 32), .ref (o 33), .ref (o 34), .ref (o 35)])), ((o 26), .inl (k 0, 12, .inl f26)), ((o 30), .inl (k 0, 12, .inl f30)), ((o 31), .inl (k 0, 12, .inl f31))] H := hP.sub [0, 1, 2, 3, 4, 5, 6, 7, 8, 9, 10] rfl
          have hD : va_D A [((o 9), .inr (0, [.ref (o 3), .ref (o 6), .int kopener, .int kworth])), ((o 6), .inr (1, [.ref (o 3), .ref (o 4), .int (u_113.1 0), .int (u_113.1 1), .int (u_113.1 2), .int (u_113.1 3), .int (u_113.1 4), .ref (o 73)])), ((o 73), .inl (k 0, 17, .inl (u_113.2.2.1 0))), ((o 4), .inr (3, [.ref (o 69), .ref (o 70), .ref (o 71)])), ((o 69), .inl (k 0, 17, .inl f69)), ((o 70), .inl (k 0, 17, .inl f70)), ((o 71), .inl (k 0, 17, .inl f71)), ((o 3), .inr (2, [.int glines, .int (nI ghours), .int glaw, .int godds, .int (nI grows), .int (nI gheads), .int (nI gsayings), .int (nI gslugs), .int (nI gacts), .ref (o 26), .ref (o 27), .ref (o 28), .ref (o 29), .ref (o 30), .ref (o 31), .ref (o 32), .ref (o 33), .ref (o 34), .ref (o 35)])), ((o 26), .inl (k 0, 12, .inl f26)), ((o 30), .inl (k 0, 12, .inl f30)), ((o 31), .inl (k 0, 12, .inl f31))] := hD.sub [0, 1, 2, 3, 4, 5, 6, 7, 8, 9, 10] (by decide) rfl
          refine lv_aload_n hx hb dX0_restingPairs_61 rfl (lv_at hl 4 rfl) ?_
          refine lv_iload_n hx hb dX0_restingPairs_62 rfl (lv_at hl 6 rfl) ?_
          refine lv_iload hx hb dX0_restingPairs_63 (lv_at hl 1 rfl) ?_
          refine lv_iconst (v := 1) hx hb dX0_restingPairs_65 (by decide) ?_
          refine lv_iload_n hx hb dX0_restingPairs_66 rfl (lv_at hl 6 rfl) ?_
          refine lv_ishl hx hb dX0_restingPairs_67 ?_
          refine lv_topi (fun v_114 ev_114 => ?_)
          refine lv_ixor hx hb dX0_restingPairs_68 ?_
          refine lv_topi (fun v_115 ev_115 => ?_)
          refine x_muVi (wr := []) (As := [.int p1, .int v_115]) S hK hP hD hZ hS hA hl mwX0_gain lkX0_69 (ctX0_gain l D k z o kopener kworth (u_113.1 0) (u_113.1 1) (u_113.1 2) (u_113.1 3) (u_113.1 4) (u_113.2.2.1 0) f69 f70 f71 glines ghours glaw godds grows gheads gsayings gslugs gacts f26 f30 f31 p1 v_115 (by omega) (by omega) (by omega) (by omega) (by omega) (by omega)) [0, 1, 2, 3, 4, 5, 6, 7, 8, 9, 10] [] rfl rfl (by decide) (by decide) (by decide) rfl rfl rfl rfl rfl ⟨Nat.le_of_ble_eq_true rfl, Nat.le_of_ble_eq_true rfl, Nat.le_of_ble_eq_true rfl⟩ dX0_restingPairs_69 ⟨Nat.le_of_ble_eq_true rfl, Nat.le_of_ble_eq_true rfl⟩ (fun r_116 u_117 H locs hr_116 hP hD hS => ?_)
          have hP : va_P D vwCl [((o 9), .inr (0, [.ref (o 3), .ref (o 6), .int kopener, .int kworth])), ((o 6), .inr (1, [.ref (o 3), .ref (o 4), .int (u_117.1 0), .int (u_117.1 1), .int (u_117.1 2), .int (u_117.1 3), .int (u_117.1 4), .ref (o 73)])), ((o 73), .inl (k 0, 17, .inl (u_117.2.2.1 0))), ((o 4), .inr (3, [.ref (o 69), .ref (o 70), .ref (o 71)])), ((o 69), .inl (k 0, 17, .inl f69)), ((o 70), .inl (k 0, 17, .inl f70)), ((o 71), .inl (k 0, 17, .inl f71)), ((o 3), .inr (2, [.int glines, .int (nI ghours), .int glaw, .int godds, .int (nI grows), .int (nI gheads), .int (nI gsayings), .int (nI gslugs), .int (nI gacts), .ref (o 26), .ref (o 27), .ref (o 28), .ref (o 29), .ref (o 30), .ref (o 31), .ref (o 32), .ref (o 33), .ref (o 34), .ref (o 35)])), ((o 26), .inl (k 0, 12, .inl f26)), ((o 30), .inl (k 0, 12, .inl f30)), ((o 31), .inl (k 0, 12, .inl f31))] H := hP.sub [0, 1, 2, 3, 4, 5, 6, 7, 8, 9, 10] rfl
          have hD : va_D A [((o 9), .inr (0, [.ref (o 3), .ref (o 6), .int kopener, .int kworth])), ((o 6), .inr (1, [.ref (o 3), .ref (o 4), .int (u_117.1 0), .int (u_117.1 1), .int (u_117.1 2), .int (u_117.1 3), .int (u_117.1 4), .ref (o 73)])), ((o 73), .inl (k 0, 17, .inl (u_117.2.2.1 0))), ((o 4), .inr (3, [.ref (o 69), .ref (o 70), .ref (o 71)])), ((o 69), .inl (k 0, 17, .inl f69)), ((o 70), .inl (k 0, 17, .inl f70)), ((o 71), .inl (k 0, 17, .inl f71)), ((o 3), .inr (2, [.int glines, .int (nI ghours), .int glaw, .int godds, .int (nI grows), .int (nI gheads), .int (nI gsayings), .int (nI gslugs), .int (nI gacts), .ref (o 26), .ref (o 27), .ref (o 28), .ref (o 29), .ref (o 30), .ref (o 31), .ref (o 32), .ref (o 33), .ref (o 34), .ref (o 35)])), ((o 26), .inl (k 0, 12, .inl f26)), ((o 30), .inl (k 0, 12, .inl f30)), ((o 31), .inl (k 0, 12, .inl f31))] := hD.sub [0, 1, 2, 3, 4, 5, 6, 7, 8, 9, 10] (by decide) rfl
          refine lv_icmp_lt (tgt := 79) hx hb dX0_restingPairs_72 (by decide) (fun c_118 => ?_) (fun c_118 => ?_)
          · skip
            refine lv_iconst (v := 0) hx hb dX0_restingPairs_79 (by decide) ?_
            refine lv_istore (lv' := [(7, .int 0), (6, .int 1), (5, .int v_95), (4, .int (nI j_81)), (3, .int x_88), (0, .ref (o 9)), (1, .int p0), (2, .int p1)]) hx hb dX0_restingPairs_80 hl (by decide) rfl (fun ls hl => ?_)
            refine lv_iload hx hb dX0_restingPairs_82 (lv_at hl 1 rfl) ?_
            refine lv_if_eq (tgt := 99) hx hb dX0_restingPairs_84 (by decide) (fun c_119 => absurd c_119 (by decide)) (fun c_119 => ?_)
            refine lv_iload hx hb dX0_restingPairs_87 (lv_at hl 0 rfl) ?_
            refine lv_if_eq (tgt := 99) hx hb dX0_restingPairs_89 (by decide) (fun c_120 => ?_) (fun c_120 => absurd (by decide) c_120)
            refine lv_iinc (v := (nI (j_81 + 1))) (lv' := [(4, .int (nI (j_81 + 1))), (7, .int 0), (6, .int 1), (5, .int v_95), (3, .int x_88), (0, .ref (o 9)), (1, .int p0), (2, .int p1)]) hx hb dX0_restingPairs_99 hl (k := 3) rfl (ni_inc _) (by decide) rfl (fun ls hl => ?_)
            refine lv_goto (tgt := 5) hx hb dX0_restingPairs_102 (by decide) ?_
            exact ihj_81 (j_81 + 1) (u_117.1 0) (u_117.1 1) (u_117.1 2) (u_117.1 3) (u_117.1 4) (u_117.2.2.1 0) x_88 _ _ _ (by omega) (by omega) hP hD hS (lv_sub hl [0, 4, 5, 6, 7] rfl)
          · skip
            refine lv_iconst (v := 1) hx hb dX0_restingPairs_75 (by decide) ?_
            refine lv_goto (tgt := 80) hx hb dX0_restingPairs_76 (by decide) ?_
            refine lv_istore (lv' := [(7, .int 1), (6, .int 1), (5, .int v_95), (4, .int (nI j_81)), (3, .int x_88), (0, .ref (o 9)), (1, .int p0), (2, .int p1)]) hx hb dX0_restingPairs_80 hl (by decide) rfl (fun ls hl => ?_)
            refine lv_iload hx hb dX0_restingPairs_82 (lv_at hl 1 rfl) ?_
            refine lv_if_eq (tgt := 99) hx hb dX0_restingPairs_84 (by decide) (fun c_121 => absurd c_121 (by decide)) (fun c_121 => ?_)
            refine lv_iload hx hb dX0_restingPairs_87 (lv_at hl 0 rfl) ?_
            refine lv_if_eq (tgt := 99) hx hb dX0_restingPairs_89 (by decide) (fun c_122 => absurd c_122 (by decide)) (fun c_122 => ?_)
            refine lv_iload_n hx hb dX0_restingPairs_92 rfl (lv_at hl 4 rfl) ?_
            refine lv_iconst (v := 1) hx hb dX0_restingPairs_93 (by decide) ?_
            refine lv_iload hx hb dX0_restingPairs_94 (lv_at hl 3 rfl) ?_
            refine lv_ishl hx hb dX0_restingPairs_96 ?_
            refine lv_topi (fun v_123 ev_123 => ?_)
            refine lv_ior hx hb dX0_restingPairs_97 ?_
            refine lv_topi (fun v_124 ev_124 => ?_)
            refine lv_istore_n (lv' := [(3, .int v_124), (7, .int 1), (6, .int 1), (5, .int v_95), (4, .int (nI j_81)), (0, .ref (o 9)), (1, .int p0), (2, .int p1)]) hx hb dX0_restingPairs_98 rfl hl (by decide) rfl (fun ls hl => ?_)
            refine lv_iinc (v := (nI (j_81 + 1))) (lv' := [(4, .int (nI (j_81 + 1))), (3, .int v_124), (7, .int 1), (6, .int 1), (5, .int v_95), (0, .ref (o 9)), (1, .int p0), (2, .int p1)]) hx hb dX0_restingPairs_99 hl (k := 4) rfl (ni_inc _) (by decide) rfl (fun ls hl => ?_)
            refine lv_goto (tgt := 5) hx hb dX0_restingPairs_102 (by decide) ?_
            exact ihj_81 (j_81 + 1) (u_117.1 0) (u_117.1 1) (u_117.1 2) (u_117.1 3) (u_117.1 4) (u_117.2.2.1 0) v_124 _ _ _ (by omega) (by omega) hP hD hS (lv_sub hl [0, 1, 5, 6, 7] rfl)
  exact lp_89 (4 + 1) 0 tlawNow tharder ttold treply twet f73 0 _ _ _ (by omega) (by omega) hP hD hS (lv_sub hl [0, 1, 2, 3, 4] rfl)

set_option maxHeartbeats 4000000 in
set_option maxRecDepth 100000 in
theorem ctX0_bestLaw (l : Launch) (D : va_G) (k : Nat → ClassId) (z : Nat → Nat) (o : Nat → Nat) (kopener : Int32) (kworth : Int32) (tlawNow : Int32) (tharder : Int32) (ttold : Int32) (treply : Int32) (twet : Int32) (f73 : Nat → Int32) (f69 : Nat → Int32) (f70 : Nat → Int32) (f71 : Nat → Int32) (glines : Int32) (ghours : Nat) (glaw : Int32) (godds : Int32) (grows : Nat) (gheads : Nat) (gsayings : Nat) (gslugs : Nat) (gacts : Nat) (f26 : Nat → Int32) (f30 : Nat → Int32) (f31 : Nat → Int32) (hghours : ghours ≤ 16) (hgrows : grows ≤ 4) (hgheads : gheads ≤ 12) (hgsayings : gsayings ≤ 8) (hgslugs : gslugs ≤ 4) (hgacts : gacts ≤ 30) : MU l yX0_bestLaw cX0_bestLaw 5 (some .int) 4 D k z [.ref (o 9)] [((o 9), .inr (0, [.ref (o 3), .ref (o 6), .int kopener, .int kworth])), ((o 6), .inr (1, [.ref (o 3), .ref (o 4), .int tlawNow, .int tharder, .int ttold, .int treply, .int twet, .ref (o 73)])), ((o 73), .inl (k 0, 17, .inl f73)), ((o 4), .inr (3, [.ref (o 69), .ref (o 70), .ref (o 71)])), ((o 69), .inl (k 0, 17, .inl f69)), ((o 70), .inl (k 0, 17, .inl f70)), ((o 71), .inl (k 0, 17, .inl f71)), ((o 3), .inr (2, [.int glines, .int (nI ghours), .int glaw, .int godds, .int (nI grows), .int (nI gheads), .int (nI gsayings), .int (nI gslugs), .int (nI gacts), .ref (o 26), .ref (o 27), .ref (o 28), .ref (o 29), .ref (o 30), .ref (o 31), .ref (o 32), .ref (o 33), .ref (o 34), .ref (o 35)])), ((o 26), .inl (k 0, 12, .inl f26)), ((o 30), .inl (k 0, 12, .inl f30)), ((o 31), .inl (k 0, 12, .inl f31))] 0 0 (Ui D (fun (r : Int32) (u : (Nat → Int32) × (Nat → Nat) × (Nat → Nat → Int32) × (Nat → Nat → Int64) × (Nat → Int64)) => True) (fun u : (Nat → Int32) × (Nat → Nat) × (Nat → Nat → Int32) × (Nat → Nat → Int64) × (Nat → Int64) => [((o 9), .inr (0, [.ref (o 3), .ref (o 6), .int kopener, .int kworth])), ((o 6), .inr (1, [.ref (o 3), .ref (o 4), .int (u.1 0), .int (u.1 1), .int (u.1 2), .int (u.1 3), .int (u.1 4), .ref (o 73)])), ((o 73), .inl (k 0, 17, .inl (u.2.2.1 0))), ((o 4), .inr (3, [.ref (o 69), .ref (o 70), .ref (o 71)])), ((o 69), .inl (k 0, 17, .inl f69)), ((o 70), .inl (k 0, 17, .inl f70)), ((o 71), .inl (k 0, 17, .inl f71)), ((o 3), .inr (2, [.int glines, .int (nI ghours), .int glaw, .int godds, .int (nI grows), .int (nI gheads), .int (nI gsayings), .int (nI gslugs), .int (nI gacts), .ref (o 26), .ref (o 27), .ref (o 28), .ref (o 29), .ref (o 30), .ref (o 31), .ref (o 32), .ref (o 33), .ref (o 34), .ref (o 35)])), ((o 26), .inl (k 0, 12, .inl f26)), ((o 30), .inl (k 0, 12, .inl f30)), ((o 31), .inl (k 0, 12, .inl f31))])) := by
  refine MU.of (by decide) (Nat.le_of_ble_eq_true rfl) ?_
  intro p e s m below meth c ls A args Q S hr hlk hnm hQ hK hP hD hZ hA hS hl
  have hx := S.1
  have hb := S.2.1
  have hl : lv_has ls 5 [(0, .ref (o 9))] := hl
  refine lv_iconst (v := 0) hx hb dX0_bestLaw_0 (by decide) ?_
  refine lv_istore_n (lv' := [(1, .int 0), (0, .ref (o 9))]) hx hb dX0_bestLaw_1 rfl hl (by decide) rfl (fun ls hl => ?_)
  refine lv_iconst (v := (-1)) hx hb dX0_bestLaw_2 (by decide) ?_
  refine lv_istore_n (lv' := [(2, .int (-1)), (1, .int 0), (0, .ref (o 9))]) hx hb dX0_bestLaw_3 rfl hl (by decide) rfl (fun ls hl => ?_)
  refine lv_iconst (v := 0) hx hb dX0_bestLaw_4 (by decide) ?_
  refine lv_istore_n (lv' := [(3, .int 0), (2, .int (-1)), (1, .int 0), (0, .ref (o 9))]) hx hb dX0_bestLaw_5 rfl hl (by decide) rfl (fun ls hl => ?_)
  have lp_47 : ∀ (nn j_38 : Nat) (x_39 : Int32) (x_40 : Int32) (x_41 : Int32) (x_42 : Int32) (x_43 : Int32) (x_44 : Int32) (x_45 : Int32) (g_46 : Nat → Int32) (H : Heap) (locs : List Loc) (ls : Array Slot), j_38 ≤ 4 → 4 - j_38 < nn → va_P D vwCl [((o 9), .inr (0, [.ref (o 3), .ref (o 6), .int kopener, .int kworth])), ((o 6), .inr (1, [.ref (o 3), .ref (o 4), .int x_41, .int x_42, .int x_43, .int x_44, .int x_45, .ref (o 73)])), ((o 73), .inl (k 0, 17, .inl g_46)), ((o 4), .inr (3, [.ref (o 69), .ref (o 70), .ref (o 71)])), ((o 69), .inl (k 0, 17, .inl f69)), ((o 70), .inl (k 0, 17, .inl f70)), ((o 71), .inl (k 0, 17, .inl f71)), ((o 3), .inr (2, [.int glines, .int (nI ghours), .int glaw, .int godds, .int (nI grows), .int (nI gheads), .int (nI gsayings), .int (nI gslugs), .int (nI gacts), .ref (o 26), .ref (o 27), .ref (o 28), .ref (o 29), .ref (o 30), .ref (o 31), .ref (o 32), .ref (o 33), .ref (o 34), .ref (o 35)])), ((o 26), .inl (k 0, 12, .inl f26)), ((o 30), .inl (k 0, 12, .inl f30)), ((o 31), .inl (k 0, 12, .inl f31))] H → va_D A [((o 9), .inr (0, [.ref (o 3), .ref (o 6), .int kopener, .int kworth])), ((o 6), .inr (1, [.ref (o 3), .ref (o 4), .int x_41, .int x_42, .int x_43, .int x_44, .int x_45, .ref (o 73)])), ((o 73), .inl (k 0, 17, .inl g_46)), ((o 4), .inr (3, [.ref (o 69), .ref (o 70), .ref (o 71)])), ((o 69), .inl (k 0, 17, .inl f69)), ((o 70), .inl (k 0, 17, .inl f70)), ((o 71), .inl (k 0, 17, .inl f71)), ((o 3), .inr (2, [.int glines, .int (nI ghours), .int glaw, .int godds, .int (nI grows), .int (nI gheads), .int (nI gsayings), .int (nI gslugs), .int (nI gacts), .ref (o 26), .ref (o 27), .ref (o 28), .ref (o 29), .ref (o 30), .ref (o 31), .ref (o 32), .ref (o 33), .ref (o 34), .ref (o 35)])), ((o 26), .inl (k 0, 12, .inl f26)), ((o 30), .inl (k 0, 12, .inl f30)), ((o 31), .inl (k 0, 12, .inl f31))] → va_S A s.heap H locs → lv_has ls 5 [(3, .int (nI j_38)), (2, .int x_39), (1, .int x_40), (0, .ref (o 9))] → W p l e (Rm 4 0 0) s m args below meth c H locs 0 0 Q (F0 m 6 ls []) := by
    intro nn
    induction nn with
    | zero => intro j_38 x_39 x_40 x_41 x_42 x_43 x_44 x_45 g_46 H locs ls hjj_38 hnj_38; exact absurd hnj_38 (by omega)
    | succ nn ihj_38 =>
      intro j_38 x_39 x_40 x_41 x_42 x_43 x_44 x_45 g_46 H locs ls hjj_38 hnj_38 hP hD hS hl
      refine lv_iload_n hx hb dX0_bestLaw_6 rfl (lv_at hl 0 rfl) ?_
      refine lv_iconst (v := 4) hx hb dX0_bestLaw_7 (by decide) ?_
      refine lv_icmp_ge (tgt := 59) hx hb dX0_bestLaw_8 (by decide) (fun c_48 => ?_) (fun c_48 => ?_)
      · skip
        have c_48 : 4 ≤ j_38 := (ni_le (by decide) rfl (by omega) (by omega)).mp c_48
        refine lv_iload_n hx hb dX0_bestLaw_59 rfl (lv_at hl 2 rfl) ?_
        exact x_reti S hr hlk hQ hS ((fun i => ([x_41, x_42, x_43, x_44, x_45] : List (Int32)).getD i 0), (fun i => ([] : List (Nat)).getD i 0), (fun i => ([g_46] : List (Nat → Int32)).getD i (fun _ => 0)), (fun i => ([] : List (Nat → Int64)).getD i (fun _ => 0)), (fun i => ([] : List (Int64)).getD i 0)) trivial (x_B hP hD) dX0_bestLaw_60
      · skip
        have c_48 : ¬ 4 ≤ j_38 := fun q => c_48 ((ni_le (by decide) rfl (by omega) (by omega)).mpr q)
        refine lv_aload_n hx hb dX0_bestLaw_11 rfl (lv_at hl 3 rfl) ?_
        refine x_get S hK hP 0 rfl cfX0 1 lkX0_19 (by decide) rfl dX0_bestLaw_12 ?_
        refine lv_iload_n hx hb dX0_bestLaw_15 rfl (lv_at hl 0 rfl) ?_
        refine x_muVv (wr := [((o 9), .inr (0, [.ref (o 3), .ref (o 6), .int kopener, .int kworth]))]) (As := [.int (nI j_38)]) S hK hP hD hZ hS hA hl mwX1_asLaw lkX0_72 (ctX1_asLaw_c l D k z (fun i => ([0, 0, 0, (o 3), (o 4), (o 6), 0, 0, 0, 0, 0, 0, 0, 0, 0, 0, 0, 0, 0, 0, 0, 0, 0, 0, 0, 0, (o 26), (o 27), (o 28), (o 29), (o 30), (o 31), (o 32), (o 33), (o 34), (o 35), 0, 0, 0, 0, 0, 0, 0, 0, 0, 0, 0, 0, 0, 0, 0, 0, 0, 0, 0, 0, 0, 0, 0, 0, 0, 0, 0, 0, 0, 0, 0, 0, 0, (o 69), (o 70), (o 71), (o 73)] : List Nat).getD i 0) x_41 x_42 x_43 x_44 x_45 g_46 f69 f70 f71 glines ghours glaw godds grows gheads gsayings gslugs gacts f26 f30 f31 (nI j_38) (by omega) (by omega) (by omega) (by omega) (by omega) (by omega)) [1, 2, 3, 4, 5, 6, 7, 8, 9, 10] [0] rfl rfl (by decide) (by decide) (by decide) rfl rfl rfl rfl rfl ⟨Nat.le_of_ble_eq_true rfl, Nat.le_of_ble_eq_true rfl, Nat.le_of_ble_eq_true rfl⟩ dX0_bestLaw_16 ⟨Nat.le_of_ble_eq_true rfl, Nat.le_of_ble_eq_true rfl⟩ (fun u_50 H locs hr_49 hP hD hS => ?_)
        have hP : va_P D vwCl [((o 9), .inr (0, [.ref (o 3), .ref (o 6), .int kopener, .int kworth])), ((o 6), .inr (1, [.ref (o 3), .ref (o 4), .int (u_50.1 0), .int (u_50.1 1), .int (u_50.1 2), .int (u_50.1 3), .int (u_50.1 4), .ref (o 73)])), ((o 73), .inl (k 0, 17, .inl g_46)), ((o 4), .inr (3, [.ref (o 69), .ref (o 70), .ref (o 71)])), ((o 69), .inl (k 0, 17, .inl f69)), ((o 70), .inl (k 0, 17, .inl f70)), ((o 71), .inl (k 0, 17, .inl f71)), ((o 3), .inr (2, [.int glines, .int (nI ghours), .int glaw, .int godds, .int (nI grows), .int (nI gheads), .int (nI gsayings), .int (nI gslugs), .int (nI gacts), .ref (o 26), .ref (o 27), .ref (o 28), .ref (o 29), .ref (o 30), .ref (o 31), .ref (o 32), .ref (o 33), .ref (o 34), .ref (o 35)])), ((o 26), .inl (k 0, 12, .inl f26)), ((o 30), .inl (k 0, 12, .inl f30)), ((o 31), .inl (k 0, 12, .inl f31))] H := hP.sub [0, 1, 2, 3, 4, 5, 6, 7, 8, 9, 10] rfl
        have hD : va_D A [((o 9), .inr (0, [.ref (o 3), .ref (o 6), .int kopener, .int kworth])), ((o 6), .inr (1, [.ref (o 3), .ref (o 4), .int (u_50.1 0), .int (u_50.1 1), .int (u_50.1 2), .int (u_50.1 3), .int (u_50.1 4), .ref (o 73)])), ((o 73), .inl (k 0, 17, .inl g_46)), ((o 4), .inr (3, [.ref (o 69), .ref (o 70), .ref (o 71)])), ((o 69), .inl (k 0, 17, .inl f69)), ((o 70), .inl (k 0, 17, .inl f70)), ((o 71), .inl (k 0, 17, .inl f71)), ((o 3), .inr (2, [.int glines, .int (nI ghours), .int glaw, .int godds, .int (nI grows), .int (nI gheads), .int (nI gsayings), .int (nI gslugs), .int (nI gacts), .ref (o 26), .ref (o 27), .ref (o 28), .ref (o 29), .ref (o 30), .ref (o 31), .ref (o 32), .ref (o 33), .ref (o 34), .ref (o 35)])), ((o 26), .inl (k 0, 12, .inl f26)), ((o 30), .inl (k 0, 12, .inl f30)), ((o 31), .inl (k 0, 12, .inl f31))] := hD.sub [0, 1, 2, 3, 4, 5, 6, 7, 8, 9, 10] (by decide) rfl
        refine lv_aload_n hx hb dX0_bestLaw_19 rfl (lv_at hl 3 rfl) ?_
        refine x_get S hK hP 0 rfl cfX0 1 lkX0_19 (by decide) rfl dX0_bestLaw_20 ?_
        refine x_muVv (wr := [((o 9), .inr (0, [.ref (o 3), .ref (o 6), .int kopener, .int kworth]))]) (As := []) S hK hP hD hZ hS hA hl mwX1_run lkX0_29 (ctX1_run_c l D k z (fun i => ([0, 0, 0, (o 3), (o 4), (o 6), 0, 0, 0, 0, 0, 0, 0, 0, 0, 0, 0, 0, 0, 0, 0, 0, 0, 0, 0, 0, (o 26), (o 27), (o 28), (o 29), (o 30), (o 31), (o 32), (o 33), (o 34), (o 35), 0, 0, 0, 0, 0, 0, 0, 0, 0, 0, 0, 0, 0, 0, 0, 0, 0, 0, 0, 0, 0, 0, 0, 0, 0, 0, 0, 0, 0, 0, 0, 0, 0, (o 69), (o 70), (o 71), (o 73)] : List Nat).getD i 0) (u_50.1 0) (u_50.1 1) (u_50.1 2) (u_50.1 3) (u_50.1 4) g_46 f69 f70 f71 glines ghours glaw godds grows gheads gsayings gslugs gacts f26 f30 f31 (by omega) (by omega) (by omega) (by omega) (by omega) (by omega)) [1, 2, 3, 4, 5, 6, 7, 8, 9, 10] [0] rfl rfl (by decide) (by decide) (by decide) rfl rfl rfl rfl rfl ⟨Nat.le_of_ble_eq_true rfl, Nat.le_of_ble_eq_true rfl, Nat.le_of_ble_eq_true rfl⟩ dX0_bestLaw_23 ⟨Nat.le_of_ble_eq_true rfl, Nat.le_of_ble_eq_true rfl⟩ (fun u_52 H locs hr_51 hP hD hS => ?_)
        have hP : va_P D vwCl [((o 9), .inr (0, [.ref (o 3), .ref (o 6), .int kopener, .int kworth])), ((o 6), .inr (1, [.ref (o 3), .ref (o 4), .int (u_50.1 0), .int (u_50.1 1), .int (u_50.1 2), .int (u_50.1 3), .int (u_50.1 4), .ref (o 73)])), ((o 73), .inl (k 0, 17, .inl (u_52.2.2.1 0))), ((o 4), .inr (3, [.ref (o 69), .ref (o 70), .ref (o 71)])), ((o 69), .inl (k 0, 17, .inl f69)), ((o 70), .inl (k 0, 17, .inl f70)), ((o 71), .inl (k 0, 17, .inl f71)), ((o 3), .inr (2, [.int glines, .int (nI ghours), .int glaw, .int godds, .int (nI grows), .int (nI gheads), .int (nI gsayings), .int (nI gslugs), .int (nI gacts), .ref (o 26), .ref (o 27), .ref (o 28), .ref (o 29), .ref (o 30), .ref (o 31), .ref (o 32), .ref (o 33), .ref (o 34), .ref (o 35)])), ((o 26), .inl (k 0, 12, .inl f26)), ((o 30), .inl (k 0, 12, .inl f30)), ((o 31), .inl (k 0, 12, .inl f31))] H := hP.sub [0, 1, 2, 3, 4, 5, 6, 7, 8, 9, 10] rfl
        have hD : va_D A [((o 9), .inr (0, [.ref (o 3), .ref (o 6), .int kopener, .int kworth])), ((o 6), .inr (1, [.ref (o 3), .ref (o 4), .int (u_50.1 0), .int (u_50.1 1), .int (u_50.1 2), .int (u_50.1 3), .int (u_50.1 4), .ref (o 73)])), ((o 73), .inl (k 0, 17, .inl (u_52.2.2.1 0))), ((o 4), .inr (3, [.ref (o 69), .ref (o 70), .ref (o 71)])), ((o 69), .inl (k 0, 17, .inl f69)), ((o 70), .inl (k 0, 17, .inl f70)), ((o 71), .inl (k 0, 17, .inl f71)), ((o 3), .inr (2, [.int glines, .int (nI ghours), .int glaw, .int godds, .int (nI grows), .int (nI gheads), .int (nI gsayings), .int (nI gslugs), .int (nI gacts), .ref (o 26), .ref (o 27), .ref (o 28), .ref (o 29), .ref (o 30), .ref (o 31), .ref (o 32), .ref (o 33), .ref (o 34), .ref (o 35)])), ((o 26), .inl (k 0, 12, .inl f26)), ((o 30), .inl (k 0, 12, .inl f30)), ((o 31), .inl (k 0, 12, .inl f31))] := hD.sub [0, 1, 2, 3, 4, 5, 6, 7, 8, 9, 10] (by decide) rfl
        refine lv_aload_n hx hb dX0_bestLaw_26 rfl (lv_at hl 3 rfl) ?_
        refine x_get S hK hP 0 rfl cfX0 1 lkX0_19 (by decide) rfl dX0_bestLaw_27 ?_
        refine x_roVi (As := []) S hK hP hD hZ (fun _ h => h) hA hS hA hl mwX1_lastState lkX0_32 (ctX1_lastState_c l D k z (fun i => ([0, 0, 0, (o 3), (o 4), (o 6), 0, 0, 0, 0, 0, 0, 0, 0, 0, 0, 0, 0, 0, 0, 0, 0, 0, 0, 0, 0, (o 26), (o 27), (o 28), (o 29), (o 30), (o 31), (o 32), (o 33), (o 34), (o 35), 0, 0, 0, 0, 0, 0, 0, 0, 0, 0, 0, 0, 0, 0, 0, 0, 0, 0, 0, 0, 0, 0, 0, 0, 0, 0, 0, 0, 0, 0, 0, 0, 0, (o 69), (o 70), (o 71), (o 73)] : List Nat).getD i 0) (u_50.1 0) (u_50.1 1) (u_50.1 2) (u_50.1 3) (u_50.1 4) (u_52.2.2.1 0) f69 f70 f71 glines ghours glaw godds grows gheads gsayings gslugs gacts f26 f30 f31 (by omega) (by omega) (by omega) (by omega) (by omega) (by omega)) [1, 2, 3, 4, 5, 6, 7, 8, 9, 10] rfl (by decide) rfl rfl rfl rfl rfl ⟨Nat.le_of_ble_eq_true rfl, Nat.le_of_ble_eq_true rfl, Nat.le_of_ble_eq_true rfl⟩ dX0_bestLaw_30 ⟨Nat.le_of_ble_eq_true rfl, Nat.le_of_ble_eq_true rfl⟩ (fun r_53 H locs hr_53 hP hS => ?_)
        refine lv_iconst (v := 1) hx hb dX0_bestLaw_33 (by decide) ?_
        refine x_roSNi (As := [.int r_53, .int 1]) S hK hP hD hZ (fun _ h => h) hA hS hA hl mwX10_holdersIn lkX0_75 (ctX10_holdersIn l D k z r_53 1 ) [] rfl (by decide) rfl rfl ⟨Nat.le_of_ble_eq_true rfl, Nat.le_of_ble_eq_true rfl, Nat.le_of_ble_eq_true rfl⟩ dX0_bestLaw_34 ⟨Nat.le_of_ble_eq_true rfl, Nat.le_of_ble_eq_true rfl⟩ (fun r_55 H locs hr_55 hP hS => ?_)
        refine x_roSi (As := [.int r_55]) S hK hP hD hZ (fun _ h => h) hA hS hA hl mwJ6_bitCount_0f7a4 lkX0_78 (ctJ6_bitCount_0f7a4 l D k z r_55 ) [] rfl (by decide) rfl rfl ⟨Nat.le_of_ble_eq_true rfl, Nat.le_of_ble_eq_true rfl, Nat.le_of_ble_eq_true rfl⟩ dX0_bestLaw_37 ⟨Nat.le_of_ble_eq_true rfl, Nat.le_of_ble_eq_true rfl⟩ (fun r_57 H locs hr_57 hP hS => ?_)
        obtain ⟨n_59, rfl, hn_59⟩ := hr_57
        refine lv_istore (lv' := [(4, .int (nI n_59)), (3, .int (nI j_38)), (2, .int x_39), (1, .int x_40), (0, .ref (o 9))]) hx hb dX0_bestLaw_40 hl (by decide) rfl (fun ls hl => ?_)
        refine lv_iload hx hb dX0_bestLaw_42 (lv_at hl 0 rfl) ?_
        refine lv_iload_n hx hb dX0_bestLaw_44 rfl (lv_at hl 2 rfl) ?_
        refine lv_icmp_le (tgt := 53) hx hb dX0_bestLaw_45 (by decide) (fun c_60 => ?_) (fun c_60 => ?_)
        · skip
          refine lv_iinc (v := (nI (j_38 + 1))) (lv' := [(3, .int (nI (j_38 + 1))), (4, .int (nI n_59)), (2, .int x_39), (1, .int x_40), (0, .ref (o 9))]) hx hb dX0_bestLaw_53 hl (k := 1) rfl (ni_inc _) (by decide) rfl (fun ls hl => ?_)
          refine lv_goto (tgt := 6) hx hb dX0_bestLaw_56 (by decide) ?_
          exact ihj_38 (j_38 + 1) x_39 x_40 (u_50.1 0) (u_50.1 1) (u_50.1 2) (u_50.1 3) (u_50.1 4) (u_52.2.2.1 0) _ _ _ (by omega) (by omega) hP hD hS (lv_sub hl [0, 2, 3, 4] rfl)
        · skip
          refine lv_iload hx hb dX0_bestLaw_48 (lv_at hl 0 rfl) ?_
          refine lv_istore_n (lv' := [(2, .int (nI n_59)), (4, .int (nI n_59)), (3, .int (nI j_38)), (1, .int x_40), (0, .ref (o 9))]) hx hb dX0_bestLaw_50 rfl hl (by decide) rfl (fun ls hl => ?_)
          refine lv_iload_n hx hb dX0_bestLaw_51 rfl (lv_at hl 2 rfl) ?_
          refine lv_istore_n (lv' := [(1, .int (nI j_38)), (2, .int (nI n_59)), (4, .int (nI n_59)), (3, .int (nI j_38)), (0, .ref (o 9))]) hx hb dX0_bestLaw_52 rfl hl (by decide) rfl (fun ls hl => ?_)
          refine lv_iinc (v := (nI (j_38 + 1))) (lv' := [(3, .int (nI (j_38 + 1))), (1, .int (nI j_38)), (2, .int (nI n_59)), (4, .int (nI n_59)), (0, .ref (o 9))]) hx hb dX0_bestLaw_53 hl (k := 3) rfl (ni_inc _) (by decide) rfl (fun ls hl => ?_)
          refine lv_goto (tgt := 6) hx hb dX0_bestLaw_56 (by decide) ?_
          exact ihj_38 (j_38 + 1) (nI n_59) (nI j_38) (u_50.1 0) (u_50.1 1) (u_50.1 2) (u_50.1 3) (u_50.1 4) (u_52.2.2.1 0) _ _ _ (by omega) (by omega) hP hD hS (lv_sub hl [0, 2, 1, 4] rfl)
  exact lp_47 (4 + 1) 0 (-1) 0 tlawNow tharder ttold treply twet f73 _ _ _ (by omega) (by omega) hP hD hS (lv_sub hl [0, 1, 2, 3] rfl)

