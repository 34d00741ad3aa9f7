theorem dX10_isView_0 : decode cX10_isView 0 = .ok (.iload_n 0, 1) := by decide +kernel
theorem dX10_isView_1 : decode cX10_isView 1 = .ok (.iconst 1, 1) := by decide +kernel
theorem dX10_isView_2 : decode cX10_isView 2 = .ok (.if_icmp .eq 8, 3) := by decide +kernel
theorem dX10_isView_5 : decode cX10_isView 5 = .ok (.iload_n 0, 1) := by decide +kernel
theorem dX10_isView_6 : decode cX10_isView 6 = .ok (.iconst 2, 1) := by decide +kernel
theorem dX10_isView_7 : decode cX10_isView 7 = .ok (.if_icmp .ne 7, 3) := by decide +kernel
theorem dX10_isView_10 : decode cX10_isView 10 = .ok (.iconst 1, 1) := by decide +kernel
theorem dX10_isView_11 : decode cX10_isView 11 = .ok (.goto 4, 3) := by decide +kernel
theorem dX10_isView_14 : decode cX10_isView 14 = .ok (.iconst 0, 1) := by decide +kernel
theorem dX10_isView_15 : decode cX10_isView 15 = .ok (.ireturn, 1) := by decide +kernel
theorem dX10_isAnyView_0 : decode cX10_isAnyView 0 = .ok (.iload_n 0, 1) := by decide +kernel
theorem dX10_isAnyView_1 : decode cX10_isAnyView 1 = .ok (.ifCond .lt 12, 3) := by decide +kernel
theorem dX10_isAnyView_4 : decode cX10_isAnyView 4 = .ok (.iload_n 0, 1) := by decide +kernel
theorem dX10_isAnyView_5 : decode cX10_isAnyView 5 = .ok (.iconst 2, 1) := by decide +kernel
theorem dX10_isAnyView_6 : decode cX10_isAnyView 6 = .ok (.if_icmp .gt 7, 3) := by decide +kernel
theorem dX10_isAnyView_9 : decode cX10_isAnyView 9 = .ok (.iconst 1, 1) := by decide +kernel
theorem dX10_isAnyView_10 : decode cX10_isAnyView 10 = .ok (.goto 4, 3) := by decide +kernel
theorem dX10_isAnyView_13 : decode cX10_isAnyView 13 = .ok (.iconst 0, 1) := by decide +kernel
theorem dX10_isAnyView_14 : decode cX10_isAnyView 14 = .ok (.ireturn, 1) := by decide +kernel
theorem dX10_isPart_0 : decode cX10_isPart 0 = .ok (.iload_n 0, 1) := by decide +kernel
theorem dX10_isPart_1 : decode cX10_isPart 1 = .ok (.ifCond .eq 8, 3) := by decide +kernel
theorem dX10_isPart_4 : decode cX10_isPart 4 = .ok (.iload_n 0, 1) := by decide +kernel
theorem dX10_isPart_5 : decode cX10_isPart 5 = .ok (.iconst 1, 1) := by decide +kernel
theorem dX10_isPart_6 : decode cX10_isPart 6 = .ok (.if_icmp .ne 7, 3) := by decide +kernel
theorem dX10_isPart_9 : decode cX10_isPart 9 = .ok (.iconst 1, 1) := by decide +kernel
theorem dX10_isPart_10 : decode cX10_isPart 10 = .ok (.goto 4, 3) := by decide +kernel
theorem dX10_isPart_13 : decode cX10_isPart 13 = .ok (.iconst 0, 1) := by decide +kernel
theorem dX10_isPart_14 : decode cX10_isPart 14 = .ok (.ireturn, 1) := by decide +kernel
theorem dX10_isSeed_0 : decode cX10_isSeed 0 = .ok (.iload_n 0, 1) := by decide +kernel
theorem dX10_isSeed_1 : decode cX10_isSeed 1 = .ok (.ifCond .lt 14, 3) := by decide +kernel
theorem dX10_isSeed_4 : decode cX10_isSeed 4 = .ok (.iload_n 0, 1) := by decide +kernel
theorem dX10_isSeed_5 : decode cX10_isSeed 5 = .ok (.ldc_w 468, 3) := by decide +kernel
theorem dX10_isSeed_8 : decode cX10_isSeed 8 = .ok (.if_icmp .gt 7, 3) := by decide +kernel
theorem dX10_isSeed_11 : decode cX10_isSeed 11 = .ok (.iconst 1, 1) := by decide +kernel
theorem dX10_isSeed_12 : decode cX10_isSeed 12 = .ok (.goto 4, 3) := by decide +kernel
theorem dX10_isSeed_15 : decode cX10_isSeed 15 = .ok (.iconst 0, 1) := by decide +kernel
theorem dX10_isSeed_16 : decode cX10_isSeed 16 = .ok (.ireturn, 1) := by decide +kernel
theorem dX10_isSlot_0 : decode cX10_isSlot 0 = .ok (.iload_n 0, 1) := by decide +kernel
theorem dX10_isSlot_1 : decode cX10_isSlot 1 = .ok (.ifCond .lt 12, 3) := by decide +kernel
theorem dX10_isSlot_4 : decode cX10_isSlot 4 = .ok (.iload_n 0, 1) := by decide +kernel
theorem dX10_isSlot_5 : decode cX10_isSlot 5 = .ok (.iconst 4, 1) := by decide +kernel
theorem dX10_isSlot_6 : decode cX10_isSlot 6 = .ok (.if_icmp .ge 7, 3) := by decide +kernel
theorem dX10_isSlot_9 : decode cX10_isSlot 9 = .ok (.iconst 1, 1) := by decide +kernel
theorem dX10_isSlot_10 : decode cX10_isSlot 10 = .ok (.goto 4, 3) := by decide +kernel
theorem dX10_isSlot_13 : decode cX10_isSlot 13 = .ok (.iconst 0, 1) := by decide +kernel
theorem dX10_isSlot_14 : decode cX10_isSlot 14 = .ok (.ireturn, 1) := by decide +kernel
theorem dX10_holdersIn_0 : decode cX10_holdersIn 0 = .ok (.iload_n 1, 1) := by decide +kernel
theorem dX10_holdersIn_1 : decode cX10_holdersIn 1 = .ok (.iconst 1, 1) := by decide +kernel
theorem dX10_holdersIn_2 : decode cX10_holdersIn 2 = .ok (.if_icmp .ne 11, 3) := by decide +kernel
theorem dX10_holdersIn_5 : decode cX10_holdersIn 5 = .ok (.iload_n 0, 1) := by decide +kernel
theorem dX10_holdersIn_6 : decode cX10_holdersIn 6 = .ok (.ldc_w 482, 3) := by decide +kernel
theorem dX10_holdersIn_9 : decode cX10_holdersIn 9 = .ok (.iand, 1) := by decide +kernel
theorem dX10_holdersIn_10 : decode cX10_holdersIn 10 = .ok (.goto 7, 3) := by decide +kernel
theorem dX10_holdersIn_13 : decode cX10_holdersIn 13 = .ok (.iload_n 0, 1) := by decide +kernel
theorem dX10_holdersIn_14 : decode cX10_holdersIn 14 = .ok (.bipush 16, 2) := by decide +kernel
theorem dX10_holdersIn_16 : decode cX10_holdersIn 16 = .ok (.iushr, 1) := by decide +kernel
theorem dX10_holdersIn_17 : decode cX10_holdersIn 17 = .ok (.ireturn, 1) := by decide +kernel
theorem dX10_inHalf_0 : decode cX10_inHalf 0 = .ok (.iload_n 1, 1) := by decide +kernel
theorem dX10_inHalf_1 : decode cX10_inHalf 1 = .ok (.iconst 1, 1) := by decide +kernel
theorem dX10_inHalf_2 : decode cX10_inHalf 2 = .ok (.if_icmp .ne 7, 3) := by decide +kernel
theorem dX10_inHalf_5 : decode cX10_inHalf 5 = .ok (.iload_n 0, 1) := by decide +kernel
theorem dX10_inHalf_6 : decode cX10_inHalf 6 = .ok (.goto 7, 3) := by decide +kernel
theorem dX10_inHalf_9 : decode cX10_inHalf 9 = .ok (.iload_n 0, 1) := by decide +kernel
theorem dX10_inHalf_10 : decode cX10_inHalf 10 = .ok (.bipush 16, 2) := by decide +kernel
theorem dX10_inHalf_12 : decode cX10_inHalf 12 = .ok (.ishl, 1) := by decide +kernel
theorem dX10_inHalf_13 : decode cX10_inHalf 13 = .ok (.ireturn, 1) := by decide +kernel
theorem dX10_inBoth_0 : decode cX10_inBoth 0 = .ok (.iload_n 0, 1) := by decide +kernel
theorem dX10_inBoth_1 : decode cX10_inBoth 1 = .ok (.iload_n 0, 1) := by decide +kernel
theorem dX10_inBoth_2 : decode cX10_inBoth 2 = .ok (.bipush 16, 2) := by decide +kernel
theorem dX10_inBoth_4 : decode cX10_inBoth 4 = .ok (.ishl, 1) := by decide +kernel
theorem dX10_inBoth_5 : decode cX10_inBoth 5 = .ok (.ior, 1) := by decide +kernel
theorem dX10_inBoth_6 : decode cX10_inBoth 6 = .ok (.ireturn, 1) := by decide +kernel
theorem dX10_viewIn_0 : decode cX10_viewIn 0 = .ok (.iload_n 0, 1) := by decide +kernel
theorem dX10_viewIn_1 : decode cX10_viewIn 1 = .ok (.iload_n 1, 1) := by decide +kernel
theorem dX10_viewIn_2 : decode cX10_viewIn 2 = .ok (.iushr, 1) := by decide +kernel
theorem dX10_viewIn_3 : decode cX10_viewIn 3 = .ok (.iconst 1, 1) := by decide +kernel
theorem dX10_viewIn_4 : decode cX10_viewIn 4 = .ok (.iand, 1) := by decide +kernel
theorem dX10_viewIn_5 : decode cX10_viewIn 5 = .ok (.iload_n 0, 1) := by decide +kernel
theorem dX10_viewIn_6 : decode cX10_viewIn 6 = .ok (.iload_n 1, 1) := by decide +kernel
theorem dX10_viewIn_7 : decode cX10_viewIn 7 = .ok (.bipush 16, 2) := by decide +kernel
theorem dX10_viewIn_9 : decode cX10_viewIn 9 = .ok (.iadd, 1) := by decide +kernel
theorem dX10_viewIn_10 : decode cX10_viewIn 10 = .ok (.iushr, 1) := by decide +kernel
theorem dX10_viewIn_11 : decode cX10_viewIn 11 = .ok (.iconst 1, 1) := by decide +kernel
theorem dX10_viewIn_12 : decode cX10_viewIn 12 = .ok (.iand, 1) := by decide +kernel
theorem dX10_viewIn_13 : decode cX10_viewIn 13 = .ok (.iconst 1, 1) := by decide +kernel
theorem dX10_viewIn_14 : decode cX10_viewIn 14 = .ok (.ishl, 1) := by decide +kernel
theorem dX10_viewIn_15 : decode cX10_viewIn 15 = .ok (.ior, 1) := by decide +kernel
theorem dX10_viewIn_16 : decode cX10_viewIn 16 = .ok (.ireturn, 1) := by decide +kernel
theorem dX10_heard_0 : decode cX10_heard 0 = .ok (.iload_n 1, 1) := by decide +kernel
theorem dX10_heard_1 : decode cX10_heard 1 = .ok (.bipush 16, 2) := by decide +kernel
theorem dX10_heard_3 : decode cX10_heard 3 = .ok (.ishl, 1) := by decide +kernel
theorem dX10_heard_4 : decode cX10_heard 4 = .ok (.iload_n 1, 1) := by decide +kernel
theorem dX10_heard_5 : decode cX10_heard 5 = .ok (.bipush 16, 2) := by decide +kernel
theorem dX10_heard_7 : decode cX10_heard 7 = .ok (.iushr, 1) := by decide +kernel
theorem dX10_heard_8 : decode cX10_heard 8 = .ok (.ior, 1) := by decide +kernel
theorem dX10_heard_9 : decode cX10_heard 9 = .ok (.istore_n 2, 1) := by decide +kernel
theorem dX10_heard_10 : decode cX10_heard 10 = .ok (.iload_n 0, 1) := by decide +kernel
theorem dX10_heard_11 : decode cX10_heard 11 = .ok (.iload_n 2, 1) := by decide +kernel
theorem dX10_heard_12 : decode cX10_heard 12 = .ok (.iconst (-1), 1) := by decide +kernel
theorem dX10_heard_13 : decode cX10_heard 13 = .ok (.ixor, 1) := by decide +kernel
theorem dX10_heard_14 : decode cX10_heard 14 = .ok (.iand, 1) := by decide +kernel
theorem dX10_heard_15 : decode cX10_heard 15 = .ok (.iload_n 1, 1) := by decide +kernel
theorem dX10_heard_16 : decode cX10_heard 16 = .ok (.ior, 1) := by decide +kernel
theorem dX10_heard_17 : decode cX10_heard 17 = .ok (.ireturn, 1) := by decide +kernel
theorem dX10_leadIn_0 : decode cX10_leadIn 0 = .ok (.iload_n 0, 1) := by decide +kernel
theorem dX10_leadIn_1 : decode cX10_leadIn 1 = .ok (.iload_n 1, 1) := by decide +kernel
theorem dX10_leadIn_2 : decode cX10_leadIn 2 = .ok (.iand, 1) := by decide +kernel
theorem dX10_leadIn_3 : decode cX10_leadIn 3 = .ok (.invokestatic 277, 3) := by decide +kernel
theorem dX10_leadIn_6 : decode cX10_leadIn 6 = .ok (.iload_n 0, 1) := by decide +kernel
theorem dX10_leadIn_7 : decode cX10_leadIn 7 = .ok (.iload_n 1, 1) := by decide +kernel
theorem dX10_leadIn_8 : decode cX10_leadIn 8 = .ok (.bipush 16, 2) := by decide +kernel
theorem dX10_leadIn_10 : decode cX10_leadIn 10 = .ok (.ishl, 1) := by decide +kernel
theorem dX10_leadIn_11 : decode cX10_leadIn 11 = .ok (.iand, 1) := by decide +kernel
theorem dX10_leadIn_12 : decode cX10_leadIn 12 = .ok (.invokestatic 277, 3) := by decide +kernel
theorem dX10_leadIn_15 : decode cX10_leadIn 15 = .ok (.isub, 1) := by decide +kernel
theorem dX10_leadIn_16 : decode cX10_leadIn 16 = .ok (.ireturn, 1) := by decide +kernel
theorem dX10_viewOfLead_0 : decode cX10_viewOfLead 0 = .ok (.iload_n 0, 1) := by decide +kernel
theorem dX10_viewOfLead_1 : decode cX10_viewOfLead 1 = .ok (.ifCond .ne 5, 3) := by decide +kernel
theorem dX10_viewOfLead_4 : decode cX10_viewOfLead 4 = .ok (.iconst 0, 1) := by decide +kernel
theorem dX10_viewOfLead_5 : decode cX10_viewOfLead 5 = .ok (.ireturn, 1) := by decide +kernel
theorem dX10_viewOfLead_6 : decode cX10_viewOfLead 6 = .ok (.iload_n 0, 1) := by decide +kernel
theorem dX10_viewOfLead_7 : decode cX10_viewOfLead 7 = .ok (.ifCond .le 7, 3) := by decide +kernel
theorem dX10_viewOfLead_10 : decode cX10_viewOfLead 10 = .ok (.iconst 1, 1) := by decide +kernel
theorem dX10_viewOfLead_11 : decode cX10_viewOfLead 11 = .ok (.goto 4, 3) := by decide +kernel
theorem dX10_viewOfLead_14 : decode cX10_viewOfLead 14 = .ok (.iconst 2, 1) := by decide +kernel
theorem dX10_viewOfLead_15 : decode cX10_viewOfLead 15 = .ok (.ireturn, 1) := by decide +kernel
theorem dX10_commonDivisor_0 : decode cX10_commonDivisor 0 = .ok (.iconst 0, 1) := by decide +kernel
theorem dX10_commonDivisor_1 : decode cX10_commonDivisor 1 = .ok (.istore 4, 2) := by decide +kernel
theorem dX10_commonDivisor_3 : decode cX10_commonDivisor 3 = .ok (.iload 4, 2) := by decide +kernel
theorem dX10_commonDivisor_5 : decode cX10_commonDivisor 5 = .ok (.bipush 100, 2) := by decide +kernel
theorem dX10_commonDivisor_7 : decode cX10_commonDivisor 7 = .ok (.if_icmp .ge 25, 3) := by decide +kernel
theorem dX10_commonDivisor_10 : decode cX10_commonDivisor 10 = .ok (.lload_n 2, 1) := by decide +kernel
theorem dX10_commonDivisor_11 : decode cX10_commonDivisor 11 = .ok (.lconst 0, 1) := by decide +kernel
theorem dX10_commonDivisor_12 : decode cX10_commonDivisor 12 = .ok (.lcmp, 1) := by decide +kernel
theorem dX10_commonDivisor_13 : decode cX10_commonDivisor 13 = .ok (.ifCond .eq 19, 3) := by decide +kernel
theorem dX10_commonDivisor_16 : decode cX10_commonDivisor 16 = .ok (.lload_n 0, 1) := by decide +kernel
theorem dX10_commonDivisor_17 : decode cX10_commonDivisor 17 = .ok (.lload_n 2, 1) := by decide +kernel
theorem dX10_commonDivisor_18 : decode cX10_commonDivisor 18 = .ok (.lrem, 1) := by decide +kernel
theorem dX10_commonDivisor_19 : decode cX10_commonDivisor 19 = .ok (.lstore 5, 2) := by decide +kernel
theorem dX10_commonDivisor_21 : decode cX10_commonDivisor 21 = .ok (.lload_n 2, 1) := by decide +kernel
theorem dX10_commonDivisor_22 : decode cX10_commonDivisor 22 = .ok (.lstore_n 0, 1) := by decide +kernel
theorem dX10_commonDivisor_23 : decode cX10_commonDivisor 23 = .ok (.lload 5, 2) := by decide +kernel
theorem dX10_commonDivisor_25 : decode cX10_commonDivisor 25 = .ok (.lstore_n 2, 1) := by decide +kernel
theorem dX10_commonDivisor_26 : decode cX10_commonDivisor 26 = .ok (.iinc 4 1, 3) := by decide +kernel
theorem dX10_commonDivisor_29 : decode cX10_commonDivisor 29 = .ok (.goto (-26), 3) := by decide +kernel
theorem dX10_commonDivisor_32 : decode cX10_commonDivisor 32 = .ok (.lload_n 0, 1) := by decide +kernel
theorem dX10_commonDivisor_33 : decode cX10_commonDivisor 33 = .ok (.lreturn, 1) := by decide +kernel
theorem dX10_part_0 : decode cX10_part 0 = .ok (.lload_n 0, 1) := by decide +kernel
theorem dX10_part_1 : decode cX10_part 1 = .ok (.invokestatic 483, 3) := by decide +kernel
theorem dX10_part_4 : decode cX10_part 4 = .ok (.lload_n 2, 1) := by decide +kernel
theorem dX10_part_5 : decode cX10_part 5 = .ok (.invokestatic 486, 3) := by decide +kernel
theorem dX10_part_8 : decode cX10_part 8 = .ok (.lstore 5, 2) := by decide +kernel
theorem dX10_part_10 : decode cX10_part 10 = .ok (.lload 5, 2) := by decide +kernel
theorem dX10_part_12 : decode cX10_part 12 = .ok (.lconst 0, 1) := by decide +kernel
theorem dX10_part_13 : decode cX10_part 13 = .ok (.lcmp, 1) := by decide +kernel
theorem dX10_part_14 : decode cX10_part 14 = .ok (.ifCond .ne 5, 3) := by decide +kernel
theorem dX10_part_17 : decode cX10_part 17 = .ok (.lconst 0, 1) := by decide +kernel
theorem dX10_part_18 : decode cX10_part 18 = .ok (.lreturn, 1) := by decide +kernel
theorem dX10_part_19 : decode cX10_part 19 = .ok (.iload 4, 2) := by decide +kernel
theorem dX10_part_21 : decode cX10_part 21 = .ok (.ifCond .ne 10, 3) := by decide +kernel
theorem dX10_part_24 : decode cX10_part 24 = .ok (.lload_n 0, 1) := by decide +kernel
theorem dX10_part_25 : decode cX10_part 25 = .ok (.lload 5, 2) := by decide +kernel
theorem dX10_part_27 : decode cX10_part 27 = .ok (.ldiv, 1) := by decide +kernel
theorem dX10_part_28 : decode cX10_part 28 = .ok (.goto 7, 3) := by decide +kernel
theorem dX10_part_31 : decode cX10_part 31 = .ok (.lload_n 2, 1) := by decide +kernel
theorem dX10_part_32 : decode cX10_part 32 = .ok (.lload 5, 2) := by decide +kernel
theorem dX10_part_34 : decode cX10_part 34 = .ok (.ldiv, 1) := by decide +kernel
theorem dX10_part_35 : decode cX10_part 35 = .ok (.lreturn, 1) := by decide +kernel
theorem dX10_factorial_0 : decode cX10_factorial 0 = .ok (.lconst 1, 1) := by decide +kernel
theorem dX10_factorial_1 : decode cX10_factorial 1 = .ok (.lstore_n 1, 1) := by decide +kernel
theorem dX10_factorial_2 : decode cX10_factorial 2 = .ok (.iconst 2, 1) := by decide +kernel
theorem dX10_factorial_3 : decode cX10_factorial 3 = .ok (.istore_n 3, 1) := by decide +kernel
theorem dX10_factorial_4 : decode cX10_factorial 4 = .ok (.iload_n 3, 1) := by decide +kernel
theorem dX10_factorial_5 : decode cX10_factorial 5 = .ok (.iload_n 0, 1) := by decide +kernel
theorem dX10_factorial_6 : decode cX10_factorial 6 = .ok (.if_icmp .gt 14, 3) := by decide +kernel
theorem dX10_factorial_9 : decode cX10_factorial 9 = .ok (.lload_n 1, 1) := by decide +kernel
theorem dX10_factorial_10 : decode cX10_factorial 10 = .ok (.iload_n 3, 1) := by decide +kernel
theorem dX10_factorial_11 : decode cX10_factorial 11 = .ok (.i2l, 1) := by decide +kernel
theorem dX10_factorial_12 : decode cX10_factorial 12 = .ok (.lmul, 1) := by decide +kernel
theorem dX10_factorial_13 : decode cX10_factorial 13 = .ok (.lstore_n 1, 1) := by decide +kernel
theorem dX10_factorial_14 : decode cX10_factorial 14 = .ok (.iinc 3 1, 3) := by decide +kernel
theorem dX10_factorial_17 : decode cX10_factorial 17 = .ok (.goto (-13), 3) := by decide +kernel
theorem dX10_factorial_20 : decode cX10_factorial 20 = .ok (.lload_n 1, 1) := by decide +kernel
theorem dX10_factorial_21 : decode cX10_factorial 21 = .ok (.lreturn, 1) := by decide +kernel
theorem dX10_choose_0 : decode cX10_choose 0 = .ok (.iload_n 1, 1) := by decide +kernel
theorem dX10_choose_1 : decode cX10_choose 1 = .ok (.ifCond .lt 8, 3) := by decide +kernel
theorem dX10_choose_4 : decode cX10_choose 4 = .ok (.iload_n 1, 1) := by decide +kernel
theorem dX10_choose_5 : decode cX10_choose 5 = .ok (.iload_n 0, 1) := by decide +kernel
theorem dX10_choose_6 : decode cX10_choose 6 = .ok (.if_icmp .le 5, 3) := by decide +kernel
theorem dX10_choose_9 : decode cX10_choose 9 = .ok (.lconst 0, 1) := by decide +kernel
theorem dX10_choose_10 : decode cX10_choose 10 = .ok (.lreturn, 1) := by decide +kernel
theorem dX10_choose_11 : decode cX10_choose 11 = .ok (.lconst 1, 1) := by decide +kernel
theorem dX10_choose_12 : decode cX10_choose 12 = .ok (.lstore_n 2, 1) := by decide +kernel
theorem dX10_choose_13 : decode cX10_choose 13 = .ok (.iconst 1, 1) := by decide +kernel
theorem dX10_choose_14 : decode cX10_choose 14 = .ok (.istore 4, 2) := by decide +kernel
theorem dX10_choose_16 : decode cX10_choose 16 = .ok (.iload 4, 2) := by decide +kernel
theorem dX10_choose_18 : decode cX10_choose 18 = .ok (.iload_n 1, 1) := by decide +kernel
theorem dX10_choose_19 : decode cX10_choose 19 = .ok (.if_icmp .gt 23, 3) := by decide +kernel
theorem dX10_choose_22 : decode cX10_choose 22 = .ok (.lload_n 2, 1) := by decide +kernel
theorem dX10_choose_23 : decode cX10_choose 23 = .ok (.iload_n 0, 1) := by decide +kernel
theorem dX10_choose_24 : decode cX10_choose 24 = .ok (.iload_n 1, 1) := by decide +kernel
theorem dX10_choose_25 : decode cX10_choose 25 = .ok (.isub, 1) := by decide +kernel
theorem dX10_choose_26 : decode cX10_choose 26 = .ok (.iload 4, 2) := by decide +kernel
theorem dX10_choose_28 : decode cX10_choose 28 = .ok (.iadd, 1) := by decide +kernel
theorem dX10_choose_29 : decode cX10_choose 29 = .ok (.i2l, 1) := by decide +kernel
theorem dX10_choose_30 : decode cX10_choose 30 = .ok (.lmul, 1) := by decide +kernel
theorem dX10_choose_31 : decode cX10_choose 31 = .ok (.iload 4, 2) := by decide +kernel
theorem dX10_choose_33 : decode cX10_choose 33 = .ok (.i2l, 1) := by decide +kernel
theorem dX10_choose_34 : decode cX10_choose 34 = .ok (.ldiv, 1) := by decide +kernel
theorem dX10_choose_35 : decode cX10_choose 35 = .ok (.lstore_n 2, 1) := by decide +kernel
theorem dX10_choose_36 : decode cX10_choose 36 = .ok (.iinc 4 1, 3) := by decide +kernel
theorem dX10_choose_39 : decode cX10_choose 39 = .ok (.goto (-23), 3) := by decide +kernel
theorem dX10_choose_42 : decode cX10_choose 42 = .ok (.lload_n 2, 1) := by decide +kernel
theorem dX10_choose_43 : decode cX10_choose 43 = .ok (.lreturn, 1) := by decide +kernel
set_option maxHeartbeats 4000000 in
set_option maxRecDepth 100000 in
theorem ctX10_isView (l : Launch) (D : va_G) (k : Nat → ClassId) (z : Nat → Nat) (p0 : Int32)  : RO l yX10_isView cX10_isView 1 (some .boolean) 0 D k z [.int p0] [] (Qi (fun r : Int32 => (r = 0 ∨ (∃ j : Nat, p0 = nI j ∧ 1 ≤ j ∧ j ≤ 2)))) := by
  refine RO.of (by decide) (Nat.le_of_ble_eq_true rfl) ?_
  intro p e s m below meth c ls A B args Q S hr hlk hQ hK hP hDW hZ hAB hBA hA hS hl
  have hx := S.1
  have hb := S.2.1
  have hl : lv_has ls 1 [(0, .int p0)] := hl
  refine lv_iload_n hx hb dX10_isView_0 rfl (lv_at hl 0 rfl) ?_
  refine lv_iconst (v := 1) hx hb dX10_isView_1 (by decide) ?_
  refine lv_icmp_eq (tgt := 10) hx hb dX10_isView_2 (by decide) (fun c_1 => ?_) (fun c_1 => ?_)
  · skip
    refine lv_iconst (v := 1) hx hb dX10_isView_10 (by decide) ?_
    refine lv_goto (tgt := 15) hx hb dX10_isView_11 (by decide) ?_
    exact x_retz S hr hlk hQ hS rfl () (Or.inr ⟨1, c_1, by omega⟩) x_T dX10_isView_15
  · skip
    refine lv_iload_n hx hb dX10_isView_5 rfl (lv_at hl 0 rfl) ?_
    refine lv_iconst (v := 2) hx hb dX10_isView_6 (by decide) ?_
    refine lv_icmp_ne (tgt := 14) hx hb dX10_isView_7 (by decide) (fun c_2 => ?_) (fun c_2 => ?_)
    · skip
      refine lv_iconst (v := 0) hx hb dX10_isView_14 (by decide) ?_
      exact x_retz S hr hlk hQ hS rfl () (Or.inl rfl) x_T dX10_isView_15
    · skip
      refine lv_iconst (v := 1) hx hb dX10_isView_10 (by decide) ?_
      refine lv_goto (tgt := 15) hx hb dX10_isView_11 (by decide) ?_
      exact x_retz S hr hlk hQ hS rfl () (Or.inr ⟨2, c_2, by omega⟩) x_T dX10_isView_15

set_option maxHeartbeats 4000000 in
set_option maxRecDepth 100000 in
theorem ctX10_isAnyView (l : Launch) (D : va_G) (k : Nat → ClassId) (z : Nat → Nat) (p0 : Int32)  : RO l yX10_isAnyView cX10_isAnyView 1 (some .boolean) 0 D k z [.int p0] [] (Qi (fun r : Int32 => True)) := by
  refine RO.of (by decide) (Nat.le_of_ble_eq_true rfl) ?_
  intro p e s m below meth c ls A B args Q S hr hlk hQ hK hP hDW hZ hAB hBA hA hS hl
  have hx := S.1
  have hb := S.2.1
  have hl : lv_has ls 1 [(0, .int p0)] := hl
  refine lv_iload_n hx hb dX10_isAnyView_0 rfl (lv_at hl 0 rfl) ?_
  refine lv_if_lt (tgt := 13) hx hb dX10_isAnyView_1 (by decide) (fun c_1 => ?_) (fun c_1 => ?_)
  · skip
    refine lv_iconst (v := 0) hx hb dX10_isAnyView_13 (by decide) ?_
    exact x_retz S hr hlk hQ hS rfl () trivial x_T dX10_isAnyView_14
  · skip
    refine lv_iload_n hx hb dX10_isAnyView_4 rfl (lv_at hl 0 rfl) ?_
    refine lv_iconst (v := 2) hx hb dX10_isAnyView_5 (by decide) ?_
    refine lv_icmp_gt (tgt := 13) hx hb dX10_isAnyView_6 (by decide) (fun c_2 => ?_) (fun c_2 => ?_)
    · skip
      refine lv_iconst (v := 0) hx hb dX10_isAnyView_13 (by decide) ?_
      exact x_retz S hr hlk hQ hS rfl () trivial x_T dX10_isAnyView_14
    · skip
      refine lv_iconst (v := 1) hx hb dX10_isAnyView_9 (by decide) ?_
      refine lv_goto (tgt := 14) hx hb dX10_isAnyView_10 (by decide) ?_
      exact x_retz S hr hlk hQ hS rfl () trivial x_T dX10_isAnyView_14

set_option maxHeartbeats 4000000 in
set_option maxRecDepth 100000 in
theorem ctX10_isPart (l : Launch) (D : va_G) (k : Nat → ClassId) (z : Nat → Nat) (p0 : Int32)  : RO l yX10_isPart cX10_isPart 1 (some .boolean) 0 D k z [.int p0] [] (Qi (fun r : Int32 => True)) := by
  refine RO.of (by decide) (Nat.le_of_ble_eq_true rfl) ?_
  intro p e s m below meth c ls A B args Q S hr hlk hQ hK hP hDW hZ hAB hBA hA hS hl
  have hx := S.1
  have hb := S.2.1
  have hl : lv_has ls 1 [(0, .int p0)] := hl
  refine lv_iload_n hx hb dX10_isPart_0 rfl (lv_at hl 0 rfl) ?_
  refine lv_if_eq (tgt := 9) hx hb dX10_isPart_1 (by decide) (fun c_1 => ?_) (fun c_1 => ?_)
  · skip
    refine lv_iconst (v := 1) hx hb dX10_isPart_9 (by decide) ?_
    refine lv_goto (tgt := 14) hx hb dX10_isPart_10 (by decide) ?_
    exact x_retz S hr hlk hQ hS rfl () trivial x_T dX10_isPart_14
  · skip
    refine lv_iload_n hx hb dX10_isPart_4 rfl (lv_at hl 0 rfl) ?_
    refine lv_iconst (v := 1) hx hb dX10_isPart_5 (by decide) ?_
    refine lv_icmp_ne (tgt := 13) hx hb dX10_isPart_6 (by decide) (fun c_2 => ?_) (fun c_2 => ?_)
    · skip
      refine lv_iconst (v := 0) hx hb dX10_isPart_13 (by decide) ?_
      exact x_retz S hr hlk hQ hS rfl () trivial x_T dX10_isPart_14
    · skip
      refine lv_iconst (v := 1) hx hb dX10_isPart_9 (by decide) ?_
      refine lv_goto (tgt := 14) hx hb dX10_isPart_10 (by decide) ?_
      exact x_retz S hr hlk hQ hS rfl () trivial x_T dX10_isPart_14

set_option maxHeartbeats 4000000 in
set_option maxRecDepth 100000 in
theorem ctX10_isSeed (l : Launch) (D : va_G) (k : Nat → ClassId) (z : Nat → Nat) (p0 : Int32)  : RO l yX10_isSeed cX10_isSeed 1 (some .boolean) 0 D k z [.int p0] [] (Qi (fun r : Int32 => True)) := by
  refine RO.of (by decide) (Nat.le_of_ble_eq_true rfl) ?_
  intro p e s m below meth c ls A B args Q S hr hlk hQ hK hP hDW hZ hAB hBA hA hS hl
  have hx := S.1
  have hb := S.2.1
  have hl : lv_has ls 1 [(0, .int p0)] := hl
  refine lv_iload_n hx hb dX10_isSeed_0 rfl (lv_at hl 0 rfl) ?_
  refine lv_if_lt (tgt := 15) hx hb dX10_isSeed_1 (by decide) (fun c_1 => ?_) (fun c_1 => ?_)
  · skip
    refine lv_iconst (v := 0) hx hb dX10_isSeed_15 (by decide) ?_
    exact x_retz S hr hlk hQ hS rfl () trivial x_T dX10_isSeed_16
  · skip
    refine lv_iload_n hx hb dX10_isSeed_4 rfl (lv_at hl 0 rfl) ?_
    refine lv_ldcw hx hb S.2.2.2.1 (S.2.2.2.2 _ lkX10_468) dX10_isSeed_5 ?_
    refine lv_icmp_gt (tgt := 15) hx hb dX10_isSeed_8 (by decide) (fun c_2 => ?_) (fun c_2 => ?_)
    · skip
      refine lv_iconst (v := 0) hx hb dX10_isSeed_15 (by decide) ?_
      exact x_retz S hr hlk hQ hS rfl () trivial x_T dX10_isSeed_16
    · skip
      refine lv_iconst (v := 1) hx hb dX10_isSeed_11 (by decide) ?_
      refine lv_goto (tgt := 16) hx hb dX10_isSeed_12 (by decide) ?_
      exact x_retz S hr hlk hQ hS rfl () trivial x_T dX10_isSeed_16

theorem lfctX10_isSlot_0 (p0 : Int32) (c_1 : p0 < 0) : 0 = (bo (0 ≤ p0 ∧ p0 < 4)) := (by
  simp only [bo]
  repeat' split
  all_goals first | rfl | assumption | (exfalso; simp only [fa_lt, fa_le, fa_eq, fa_lt64, fa_le64, fa_eq64, Int32.toInt_toInt64, tz_0, tz_1, tz_2, tz_3, tz_4, tz_5, tz_6, tz_7, tz_8, tz_9, tz_10, tz_60, tz_m1, tl_0, tl_1, tl_2, tl_3, tl_4, tl_5, tl_6, tl_7, tl_8, tl_9, tl_10, tl_60, tl_m1] at * <;> omega))
theorem lfctX10_isSlot_1 (p0 : Int32) (c_1 : ¬ p0 < 0) (c_2 : 4 ≤ p0) : 0 = (bo (0 ≤ p0 ∧ p0 < 4)) := (by
  simp only [bo]
  repeat' split
  all_goals first | rfl | assumption | (exfalso; simp only [fa_lt, fa_le, fa_eq, fa_lt64, fa_le64, fa_eq64, Int32.toInt_toInt64, tz_0, tz_1, tz_2, tz_3, tz_4, tz_5, tz_6, tz_7, tz_8, tz_9, tz_10, tz_60, tz_m1, tl_0, tl_1, tl_2, tl_3, tl_4, tl_5, tl_6, tl_7, tl_8, tl_9, tl_10, tl_60, tl_m1] at * <;> omega))
theorem lfctX10_isSlot_2 (p0 : Int32) (c_1 : ¬ p0 < 0) (c_2 : ¬ 4 ≤ p0) : 1 = (bo (0 ≤ p0 ∧ p0 < 4)) := (by
  simp only [bo]
  repeat' split
  all_goals first | rfl | assumption | (exfalso; simp only [fa_lt, fa_le, fa_eq, fa_lt64, fa_le64, fa_eq64, Int32.toInt_toInt64, tz_0, tz_1, tz_2, tz_3, tz_4, tz_5, tz_6, tz_7, tz_8, tz_9, tz_10, tz_60, tz_m1, tl_0, tl_1, tl_2, tl_3, tl_4, tl_5, tl_6, tl_7, tl_8, tl_9, tl_10, tl_60, tl_m1] at * <;> omega))
set_option maxHeartbeats 4000000 in
set_option maxRecDepth 100000 in
theorem ctX10_isSlot (l : Launch) (D : va_G) (k : Nat → ClassId) (z : Nat → Nat) (p0 : Int32)  : RO l yX10_isSlot cX10_isSlot 1 (some .boolean) 0 D k z [.int p0] [] (Qi (fun r : Int32 => (r = (bo (0 ≤ p0 ∧ p0 < 4))))) := by
  refine RO.of (by decide) (Nat.le_of_ble_eq_true rfl) ?_
  intro p e s m below meth c ls A B args Q S hr hlk hQ hK hP hDW hZ hAB hBA hA hS hl
  have hx := S.1
  have hb := S.2.1
  have hl : lv_has ls 1 [(0, .int p0)] := hl
  refine lv_iload_n hx hb dX10_isSlot_0 rfl (lv_at hl 0 rfl) ?_
  refine lv_if_lt (tgt := 13) hx hb dX10_isSlot_1 (by decide) (fun c_1 => ?_) (fun c_1 => ?_)
  · skip
    refine lv_iconst (v := 0) hx hb dX10_isSlot_13 (by decide) ?_
    exact x_retz S hr hlk hQ hS rfl () (lfctX10_isSlot_0 p0 c_1) x_T dX10_isSlot_14
  · skip
    refine lv_iload_n hx hb dX10_isSlot_4 rfl (lv_at hl 0 rfl) ?_
    refine lv_iconst (v := 4) hx hb dX10_isSlot_5 (by decide) ?_
    refine lv_icmp_ge (tgt := 13) hx hb dX10_isSlot_6 (by decide) (fun c_2 => ?_) (fun c_2 => ?_)
    · skip
      refine lv_iconst (v := 0) hx hb dX10_isSlot_13 (by decide) ?_
      exact x_retz S hr hlk hQ hS rfl () (lfctX10_isSlot_1 p0 c_1 c_2) x_T dX10_isSlot_14
    · skip
      refine lv_iconst (v := 1) hx hb dX10_isSlot_9 (by decide) ?_
      refine lv_goto (tgt := 14) hx hb dX10_isSlot_10 (by decide) ?_
      exact x_retz S hr hlk hQ hS rfl () (lfctX10_isSlot_2 p0 c_1 c_2) x_T dX10_isSlot_14

set_option maxHeartbeats 4000000 in
set_option maxRecDepth 100000 in
theorem ctX10_holdersIn (l : Launch) (D : va_G) (k : Nat → ClassId) (z : Nat → Nat) (p0 : Int32) (p1 : Int32)  : RO l yX10_holdersIn cX10_holdersIn 2 (some .int) 0 D k z [.int p0, .int p1] [] (Qi (fun r : Int32 => True)) := by
  refine RO.of (by decide) (Nat.le_of_ble_eq_true rfl) ?_
  intro p e s m below meth c ls A B args Q S hr hlk hQ hK hP hDW hZ hAB hBA hA hS hl
  have hx := S.1
  have hb := S.2.1
  have hl : lv_has ls 2 [(0, .int p0), (1, .int p1)] := hl
  refine lv_iload_n hx hb dX10_holdersIn_0 rfl (lv_at hl 1 rfl) ?_
  refine lv_iconst (v := 1) hx hb dX10_holdersIn_1 (by decide) ?_
  refine lv_icmp_ne (tgt := 13) hx hb dX10_holdersIn_2 (by decide) (fun c_1 => ?_) (fun c_1 => ?_)
  · skip
    refine lv_iload_n hx hb dX10_holdersIn_13 rfl (lv_at hl 0 rfl) ?_
    refine lv_bipush (v := 16) hx hb dX10_holdersIn_14 (by decide) ?_
    refine lv_iushr hx hb dX10_holdersIn_16 rfl ?_
    refine lv_topi (fun v_2 ev_2 => ?_)
    exact x_reti S hr hlk hQ hS () trivial x_T dX10_holdersIn_17
  · skip
    refine lv_iload_n hx hb dX10_holdersIn_5 rfl (lv_at hl 0 rfl) ?_
    refine lv_ldcw hx hb S.2.2.2.1 (S.2.2.2.2 _ lkX10_482) dX10_holdersIn_6 ?_
    refine lv_iand hx hb dX10_holdersIn_9 ?_
    refine lv_topi (fun v_3 ev_3 => ?_)
    refine lv_goto (tgt := 17) hx hb dX10_holdersIn_10 (by decide) ?_
    exact x_reti S hr hlk hQ hS () trivial x_T dX10_holdersIn_17

set_option maxHeartbeats 4000000 in
set_option maxRecDepth 100000 in
theorem ctX10_inHalf (l : Launch) (D : va_G) (k : Nat → ClassId) (z : Nat → Nat) (p0 : Int32) (p1 : Int32)  : RO l yX10_inHalf cX10_inHalf 2 (some .int) 0 D k z [.int p0, .int p1] [] (Qi (fun r : Int32 => True)) := by
  refine RO.of (by decide) (Nat.le_of_ble_eq_true rfl) ?_
  intro p e s m below meth c ls A B args Q S hr hlk hQ hK hP hDW hZ hAB hBA hA hS hl
  have hx := S.1
  have hb := S.2.1
  have hl : lv_has ls 2 [(0, .int p0), (1, .int p1)] := hl
  refine lv_iload_n hx hb dX10_inHalf_0 rfl (lv_at hl 1 rfl) ?_
  refine lv_iconst (v := 1) hx hb dX10_inHalf_1 (by decide) ?_
  refine lv_icmp_ne (tgt := 9) hx hb dX10_inHalf_2 (by decide) (fun c_1 => ?_) (fun c_1 => ?_)
  · skip
    refine lv_iload_n hx hb dX10_inHalf_9 rfl (lv_at hl 0 rfl) ?_
    refine lv_bipush (v := 16) hx hb dX10_inHalf_10 (by decide) ?_
    refine lv_ishl hx hb dX10_inHalf_12 ?_
    refine lv_topi (fun v_2 ev_2 => ?_)
    exact x_reti S hr hlk hQ hS () trivial x_T dX10_inHalf_13
  · skip
    refine lv_iload_n hx hb dX10_inHalf_5 rfl (lv_at hl 0 rfl) ?_
    refine lv_goto (tgt := 13) hx hb dX10_inHalf_6 (by decide) ?_
    exact x_reti S hr hlk hQ hS () trivial x_T dX10_inHalf_13

set_option maxHeartbeats 4000000 in
set_option maxRecDepth 100000 in
theorem ctX10_inBoth (l : Launch) (D : va_G) (k : Nat → ClassId) (z : Nat → Nat) (p0 : Int32)  : RO l yX10_inBoth cX10_inBoth 1 (some .int) 0 D k z [.int p0] [] (Qi (fun r : Int32 => True)) := by
  refine RO.of (by decide) (Nat.le_of_ble_eq_true rfl) ?_
  intro p e s m below meth c ls A B args Q S hr hlk hQ hK hP hDW hZ hAB hBA hA hS hl
  have hx := S.1
  have hb := S.2.1
  have hl : lv_has ls 1 [(0, .int p0)] := hl
  refine lv_iload_n hx hb dX10_inBoth_0 rfl (lv_at hl 0 rfl) ?_
  refine lv_iload_n hx hb dX10_inBoth_1 rfl (lv_at hl 0 rfl) ?_
  refine lv_bipush (v := 16) hx hb dX10_inBoth_2 (by decide) ?_
  refine lv_ishl hx hb dX10_inBoth_4 ?_
  refine lv_topi (fun v_1 ev_1 => ?_)
  refine lv_ior hx hb dX10_inBoth_5 ?_
  refine lv_topi (fun v_2 ev_2 => ?_)
  exact x_reti S hr hlk hQ hS () trivial x_T dX10_inBoth_6

set_option maxHeartbeats 4000000 in
set_option maxRecDepth 100000 in
theorem ctX10_viewIn (l : Launch) (D : va_G) (k : Nat → ClassId) (z : Nat → Nat) (p0 : Int32) (p1 : Int32)  : RO l yX10_viewIn cX10_viewIn 2 (some .int) 0 D k z [.int p0, .int p1] [] (Qi (fun r : Int32 => True)) := by
  refine RO.of (by decide) (Nat.le_of_ble_eq_true rfl) ?_
  intro p e s m below meth c ls A B args Q S hr hlk hQ hK hP hDW hZ hAB hBA hA hS hl
  have hx := S.1
  have hb := S.2.1
  have hl : lv_has ls 2 [(0, .int p0), (1, .int p1)] := hl
  refine lv_iload_n hx hb dX10_viewIn_0 rfl (lv_at hl 0 rfl) ?_
  refine lv_iload_n hx hb dX10_viewIn_1 rfl (lv_at hl 1 rfl) ?_
  refine lv_iushr hx hb dX10_viewIn_2 rfl ?_
  refine lv_topi (fun v_1 ev_1 => ?_)
  refine lv_iconst (v := 1) hx hb dX10_viewIn_3 (by decide) ?_
  refine lv_iand hx hb dX10_viewIn_4 ?_
  refine lv_topi (fun v_2 ev_2 => ?_)
  refine lv_iload_n hx hb dX10_viewIn_5 rfl (lv_at hl 0 rfl) ?_
  refine lv_iload_n hx hb dX10_viewIn_6 rfl (lv_at hl 1 rfl) ?_
  refine lv_bipush (v := 16) hx hb dX10_viewIn_7 (by decide) ?_
  refine lv_iadd hx hb dX10_viewIn_9 ?_
  refine lv_topi (fun v_3 ev_3 => ?_)
  refine lv_iushr hx hb dX10_viewIn_10 rfl ?_
  refine lv_topi (fun v_4 ev_4 => ?_)
  refine lv_iconst (v := 1) hx hb dX10_viewIn_11 (by decide) ?_
  refine lv_iand hx hb dX10_viewIn_12 ?_
  refine lv_topi (fun v_5 ev_5 => ?_)
  refine lv_iconst (v := 1) hx hb dX10_viewIn_13 (by decide) ?_
  refine lv_ishl hx hb dX10_viewIn_14 ?_
  refine lv_topi (fun v_6 ev_6 => ?_)
  refine lv_ior hx hb dX10_viewIn_15 ?_
  refine lv_topi (fun v_7 ev_7 => ?_)
  exact x_reti S hr hlk hQ hS () trivial x_T dX10_viewIn_16

set_option maxHeartbeats 4000000 in
set_option maxRecDepth 100000 in
theorem ctX10_heard (l : Launch) (D : va_G) (k : Nat → ClassId) (z : Nat → Nat) (p0 : Int32) (p1 : Int32)  : RO l yX10_heard cX10_heard 3 (some .int) 0 D k z [.int p0, .int p1] [] (Qi (fun r : Int32 => True)) := by
  refine RO.of (by decide) (Nat.le_of_ble_eq_true rfl) ?_
  intro p e s m below meth c ls A B args Q S hr hlk hQ hK hP hDW hZ hAB hBA hA hS hl
  have hx := S.1
  have hb := S.2.1
  have hl : lv_has ls 3 [(0, .int p0), (1, .int p1)] := hl
  refine lv_iload_n hx hb dX10_heard_0 rfl (lv_at hl 1 rfl) ?_
  refine lv_bipush (v := 16) hx hb dX10_heard_1 (by decide) ?_
  refine lv_ishl hx hb dX10_heard_3 ?_
  refine lv_topi (fun v_1 ev_1 => ?_)
  refine lv_iload_n hx hb dX10_heard_4 rfl (lv_at hl 1 rfl) ?_
  refine lv_bipush (v := 16) hx hb dX10_heard_5 (by decide) ?_
  refine lv_iushr hx hb dX10_heard_7 rfl ?_
  refine lv_topi (fun v_2 ev_2 => ?_)
  refine lv_ior hx hb dX10_heard_8 ?_
  refine lv_topi (fun v_3 ev_3 => ?_)
  refine lv_istore_n (lv' := [(2, .int v_3), (0, .int p0), (1, .int p1)]) hx hb dX10_heard_9 rfl hl (by decide) rfl (fun ls hl => ?_)
  refine lv_iload_n hx hb dX10_heard_10 rfl (lv_at hl 1 rfl) ?_
  refine lv_iload_n hx hb dX10_heard_11 rfl (lv_at hl 0 rfl) ?_
  refine lv_iconst (v := (-1)) hx hb dX10_heard_12 (by decide) ?_
  refine lv_ixor hx hb dX10_heard_13 ?_
  refine lv_topi (fun v_4 ev_4 => ?_)
  refine lv_iand hx hb dX10_heard_14 ?_
  refine lv_topi (fun v_5 ev_5 => ?_)
  refine lv_iload_n hx hb dX10_heard_15 rfl (lv_at hl 2 rfl) ?_
  refine lv_ior hx hb dX10_heard_16 ?_
  refine lv_topi (fun v_6 ev_6 => ?_)
  exact x_reti S hr hlk hQ hS () trivial x_T dX10_heard_17

set_option maxHeartbeats 4000000 in
set_option maxRecDepth 100000 in
theorem ctX10_leadIn (l : Launch) (D : va_G) (k : Nat → ClassId) (z : Nat → Nat) (p0 : Int32) (p1 : Int32)  : RO l yX10_leadIn cX10_leadIn 2 (some .int) 1 D k z [.int p0, .int p1] [] (Qi (fun r : Int32 => True)) := by
  refine RO.of (by decide) (Nat.le_of_ble_eq_true rfl) ?_
  intro p e s m below meth c ls A B args Q S hr hlk hQ hK hP hDW hZ hAB hBA hA hS hl
  have hx := S.1
  have hb := S.2.1
  have hl : lv_has ls 2 [(0, .int p0), (1, .int p1)] := hl
  refine lv_iload_n hx hb dX10_leadIn_0 rfl (lv_at hl 0 rfl) ?_
  refine lv_iload_n hx hb dX10_leadIn_1 rfl (lv_at hl 1 rfl) ?_
  refine lv_iand hx hb dX10_leadIn_2 ?_
  refine lv_topi (fun v_1 ev_1 => ?_)
  refine x_roSi (As := [.int v_1]) S hK hP hDW hZ hAB hBA hS hA hl mwJ6_bitCount_0f7a4 lkX10_277 (ctJ6_bitCount_0f7a4 l D k z v_1 ) [] rfl (by decide) rfl rfl ⟨Nat.le_of_ble_eq_true rfl, Nat.le_of_ble_eq_true rfl, Nat.le_of_ble_eq_true rfl⟩ dX10_leadIn_3 ⟨Nat.le_of_ble_eq_true rfl, Nat.le_of_ble_eq_true rfl⟩ (fun r_2 H locs hr_2 hP hS => ?_)
  obtain ⟨n_4, rfl, hn_4⟩ := hr_2
  refine lv_iload_n hx hb dX10_leadIn_6 rfl (lv_at hl 0 rfl) ?_
  refine lv_iload_n hx hb dX10_leadIn_7 rfl (lv_at hl 1 rfl) ?_
  refine lv_bipush (v := 16) hx hb dX10_leadIn_8 (by decide) ?_
  refine lv_ishl hx hb dX10_leadIn_10 ?_
  refine lv_topi (fun v_5 ev_5 => ?_)
  refine lv_iand hx hb dX10_leadIn_11 ?_
  refine lv_topi (fun v_6 ev_6 => ?_)
  refine x_roSi (As := [.int v_6]) S hK hP hDW hZ hAB hBA hS hA hl mwJ6_bitCount_0f7a4 lkX10_277 (ctJ6_bitCount_0f7a4 l D k z v_6 ) [] rfl (by decide) rfl rfl ⟨Nat.le_of_ble_eq_true rfl, Nat.le_of_ble_eq_true rfl, Nat.le_of_ble_eq_true rfl⟩ dX10_leadIn_12 ⟨Nat.le_of_ble_eq_true rfl, Nat.le_of_ble_eq_true rfl⟩ (fun r_7 H locs hr_7 hP hS => ?_)
  obtain ⟨n_9, rfl, hn_9⟩ := hr_7
  refine lv_isub hx hb dX10_leadIn_15 ?_
  refine lv_topi (fun v_10 ev_10 => ?_)
  exact x_reti S hr hlk hQ hS () trivial x_T dX10_leadIn_16

set_option maxHeartbeats 4000000 in
set_option maxRecDepth 100000 in
theorem ctX10_viewOfLead (l : Launch) (D : va_G) (k : Nat → ClassId) (z : Nat → Nat) (p0 : Int32)  : RO l yX10_viewOfLead cX10_viewOfLead 1 (some .int) 0 D k z [.int p0] [] (Qi (fun r : Int32 => True)) := by
  refine RO.of (by decide) (Nat.le_of_ble_eq_true rfl) ?_
  intro p e s m below meth c ls A B args Q S hr hlk hQ hK hP hDW hZ hAB hBA hA hS hl
  have hx := S.1
  have hb := S.2.1
  have hl : lv_has ls 1 [(0, .int p0)] := hl
  refine lv_iload_n hx hb dX10_viewOfLead_0 rfl (lv_at hl 0 rfl) ?_
  refine lv_if_ne (tgt := 6) hx hb dX10_viewOfLead_1 (by decide) (fun c_1 => ?_) (fun c_1 => ?_)
  · skip
    refine lv_iload_n hx hb dX10_viewOfLead_6 rfl (lv_at hl 0 rfl) ?_
    refine lv_if_le (tgt := 14) hx hb dX10_viewOfLead_7 (by decide) (fun c_2 => ?_) (fun c_2 => ?_)
    · skip
      refine lv_iconst (v := 2) hx hb dX10_viewOfLead_14 (by decide) ?_
      exact x_reti S hr hlk hQ hS () trivial x_T dX10_viewOfLead_15
    · skip
      refine lv_iconst (v := 1) hx hb dX10_viewOfLead_10 (by decide) ?_
      refine lv_goto (tgt := 15) hx hb dX10_viewOfLead_11 (by decide) ?_
      exact x_reti S hr hlk hQ hS () trivial x_T dX10_viewOfLead_15
  · skip
    refine lv_iconst (v := 0) hx hb dX10_viewOfLead_4 (by decide) ?_
    exact x_reti S hr hlk hQ hS () trivial x_T dX10_viewOfLead_5

set_option maxHeartbeats 4000000 in
set_option maxRecDepth 100000 in
theorem ctX10_commonDivisor (l : Launch) (D : va_G) (k : Nat → ClassId) (z : Nat → Nat) (p0 : Int64) (p1 : Int64)  : RO l yX10_commonDivisor cX10_commonDivisor 7 (some .long) 0 D k z [.long p0, .long p1] [] (Ql (fun r : Int64 => True)) := by
  refine RO.of (by decide) (Nat.le_of_ble_eq_true rfl) ?_
  intro p e s m below meth c ls A B args Q S hr hlk hQ hK hP hDW hZ hAB hBA hA hS hl
  have hx := S.1
  have hb := S.2.1
  have hl : lv_has ls 7 [(0, .long p0), (2, .long p1)] := hl
  refine lv_iconst (v := 0) hx hb dX10_commonDivisor_0 (by decide) ?_
  refine lv_istore (lv' := [(4, .int 0), (0, .long p0), (2, .long p1)]) hx hb dX10_commonDivisor_1 hl (by decide) rfl (fun ls hl => ?_)
  have lp_15 : ∀ (nn j_12 : Nat) (x_13 : Int64) (x_14 : Int64) (H : Heap) (locs : List Loc) (ls : Array Slot), j_12 ≤ 100 → 100 - j_12 < nn → va_P D vwCl [] H → va_S A s.heap H locs → lv_has ls 7 [(4, .int (nI j_12)), (0, .long x_13), (2, .long x_14)] → W p l e (Rm 0 0 0) s m args below meth c H locs 0 0 Q (F0 m 3 ls []) := by
    intro nn
    induction nn with
    | zero => intro j_12 x_13 x_14 H locs ls hjj_12 hnj_12; exact absurd hnj_12 (by omega)
    | succ nn ihj_12 =>
      intro j_12 x_13 x_14 H locs ls hjj_12 hnj_12 hP hS hl
      refine lv_iload hx hb dX10_commonDivisor_3 (lv_at hl 0 rfl) ?_
      refine lv_bipush (v := 100) hx hb dX10_commonDivisor_5 (by decide) ?_
      refine lv_icmp_ge (tgt := 32) hx hb dX10_commonDivisor_7 (by decide) (fun c_16 => ?_) (fun c_16 => ?_)
      · skip
        have c_16 : 100 ≤ j_12 := (ni_le (by decide) rfl (by omega) (by omega)).mp c_16
        refine lv_lload_n hx hb dX10_commonDivisor_32 rfl (lv_at hl 1 rfl) ?_
        exact x_retl S hr hlk hQ hS () trivial x_T dX10_commonDivisor_33
      · skip
        have c_16 : ¬ 100 ≤ j_12 := fun q => c_16 ((ni_le (by decide) rfl (by omega) (by omega)).mpr q)
        refine lv_lload_n hx hb dX10_commonDivisor_10 rfl (lv_at hl 2 rfl) ?_
        refine lv_lconst (v := 0) hx hb dX10_commonDivisor_11 (by decide) ?_
        refine W.lcmp hx hb dX10_commonDivisor_12 ?_
        refine lv_if_eq (tgt := 32) hx hb dX10_commonDivisor_13 (by decide) (fun c_17 => ?_) (fun c_17 => ?_)
        · skip
          have c_17 : x_14 = 0 := (lg_cmp_eq _ _).mp c_17
          refine lv_lload_n hx hb dX10_commonDivisor_32 rfl (lv_at hl 1 rfl) ?_
          exact x_retl S hr hlk hQ hS () trivial x_T dX10_commonDivisor_33
        · skip
          have c_17 : ¬ x_14 = 0 := fun q => c_17 ((lg_cmp_eq _ _).mpr q)
          refine lv_lload_n hx hb dX10_commonDivisor_16 rfl (lv_at hl 1 rfl) ?_
          refine lv_lload_n hx hb dX10_commonDivisor_17 rfl (lv_at hl 2 rfl) ?_
          refine lv_lrem hx hb dX10_commonDivisor_18 c_17 ?_
          refine lv_topl (fun v_18 ev_18 => ?_)
          refine lv_lstore (lv' := [(5, .long v_18), (4, .int (nI j_12)), (0, .long x_13), (2, .long x_14)]) hx hb dX10_commonDivisor_19 hl (by decide) rfl (fun ls hl => ?_)
          refine lv_lload_n hx hb dX10_commonDivisor_21 rfl (lv_at hl 3 rfl) ?_
          refine lv_lstore_n (lv' := [(0, .long x_14), (5, .long v_18), (4, .int (nI j_12)), (2, .long x_14)]) hx hb dX10_commonDivisor_22 rfl hl (by decide) rfl (fun ls hl => ?_)
          refine lv_lload hx hb dX10_commonDivisor_23 (lv_at hl 1 rfl) ?_
          refine lv_lstore_n (lv' := [(2, .long v_18), (0, .long x_14), (5, .long v_18), (4, .int (nI j_12))]) hx hb dX10_commonDivisor_25 rfl hl (by decide) rfl (fun ls hl => ?_)
          refine lv_iinc (v := (nI (j_12 + 1))) (lv' := [(4, .int (nI (j_12 + 1))), (2, .long v_18), (0, .long x_14), (5, .long v_18)]) hx hb dX10_commonDivisor_26 hl (k := 3) rfl (ni_inc _) (by decide) rfl (fun ls hl => ?_)
          refine lv_goto (tgt := 3) hx hb dX10_commonDivisor_29 (by decide) ?_
          exact ihj_12 (j_12 + 1) x_14 v_18 _ _ _ (by omega) (by omega) hP hS (lv_sub hl [0, 2, 1] rfl)
  exact lp_15 (100 + 1) 0 p0 p1 _ _ _ (by omega) (by omega) hP hS (lv_sub hl [0, 1, 2] rfl)

set_option maxHeartbeats 4000000 in
set_option maxRecDepth 100000 in
theorem ctX10_part (l : Launch) (D : va_G) (k : Nat → ClassId) (z : Nat → Nat) (p0 : Int64) (p1 : Int64) (p2 : Int32)  : RO l yX10_part cX10_part 7 (some .long) 1 D k z [.long p0, .long p1, .int p2] [] (Ql (fun r : Int64 => True)) := by
  refine RO.of (by decide) (Nat.le_of_ble_eq_true rfl) ?_
  intro p e s m below meth c ls A B args Q S hr hlk hQ hK hP hDW hZ hAB hBA hA hS hl
  have hx := S.1
  have hb := S.2.1
  have hl : lv_has ls 7 [(0, .long p0), (2, .long p1), (4, .int p2)] := hl
  refine lv_lload_n hx hb dX10_part_0 rfl (lv_at hl 0 rfl) ?_
  refine x_mabsl S hl lkX10_483 (Nat.le_of_ble_eq_true rfl) (Nat.le_of_ble_eq_true rfl) ⟨Nat.le_of_ble_eq_true rfl, Nat.le_of_ble_eq_true rfl⟩ dX10_part_1 (fun v_1 ev_1 => ?_)
  refine lv_lload_n hx hb dX10_part_4 rfl (lv_at hl 1 rfl) ?_
  refine x_roSl (As := [.long v_1, .long p1]) S hK hP hDW hZ hAB hBA hS hA hl mwX10_commonDivisor lkX10_486 (ctX10_commonDivisor l D k z v_1 p1 ) [] rfl (by decide) rfl rfl ⟨Nat.le_of_ble_eq_true rfl, Nat.le_of_ble_eq_true rfl, Nat.le_of_ble_eq_true rfl⟩ dX10_part_5 ⟨Nat.le_of_ble_eq_true rfl, Nat.le_of_ble_eq_true rfl⟩ (fun r_2 H locs hr_2 hP hS => ?_)
  refine lv_lstore (lv' := [(5, .long r_2), (0, .long p0), (2, .long p1), (4, .int p2)]) hx hb dX10_part_8 hl (by decide) rfl (fun ls hl => ?_)
  refine lv_lload hx hb dX10_part_10 (lv_at hl 0 rfl) ?_
  refine lv_lconst (v := 0) hx hb dX10_part_12 (by decide) ?_
  refine W.lcmp hx hb dX10_part_13 ?_
  refine lv_if_ne (tgt := 19) hx hb dX10_part_14 (by decide) (fun c_4 => ?_) (fun c_4 => ?_)
  · skip
    have c_4 : ¬ r_2 = 0 := fun q => c_4 ((lg_cmp_eq _ _).mpr q)
    refine lv_iload hx hb dX10_part_19 (lv_at hl 3 rfl) ?_
    refine lv_if_ne (tgt := 31) hx hb dX10_part_21 (by decide) (fun c_5 => ?_) (fun c_5 => ?_)
    · skip
      refine lv_lload_n hx hb dX10_part_31 rfl (lv_at hl 2 rfl) ?_
      refine lv_lload hx hb dX10_part_32 (lv_at hl 0 rfl) ?_
      refine lv_ldiv hx hb dX10_part_34 c_4 ?_
      refine lv_topl (fun v_6 ev_6 => ?_)
      exact x_retl S hr hlk hQ hS () trivial x_T dX10_part_35
    · skip
      refine lv_lload_n hx hb dX10_part_24 rfl (lv_at hl 1 rfl) ?_
      refine lv_lload hx hb dX10_part_25 (lv_at hl 0 rfl) ?_
      refine lv_ldiv hx hb dX10_part_27 c_4 ?_
      refine lv_topl (fun v_7 ev_7 => ?_)
      refine lv_goto (tgt := 35) hx hb dX10_part_28 (by decide) ?_
      exact x_retl S hr hlk hQ hS () trivial x_T dX10_part_35
  · skip
    have c_4 : r_2 = 0 := (lg_cmp_eq _ _).mp c_4
    refine lv_lconst (v := 0) hx hb dX10_part_17 (by decide) ?_
    exact x_retl S hr hlk hQ hS () trivial x_T dX10_part_18

set_option maxHeartbeats 4000000 in
set_option maxRecDepth 100000 in
theorem ctX10_factorial (l : Launch) (D : va_G) (k : Nat → ClassId) (z : Nat → Nat) (p0 : Nat) (hp0 : p0 ≤ 63) : RO l yX10_factorial cX10_factorial 4 (some .long) 0 D k z [.int (nI p0)] [] (Ql (fun r : Int64 => True)) := by
  refine RO.of (by decide) (Nat.le_of_ble_eq_true rfl) ?_
  intro p e s m below meth c ls A B args Q S hr hlk hQ hK hP hDW hZ hAB hBA hA hS hl
  have hx := S.1
  have hb := S.2.1
  have hl : lv_has ls 4 [(0, .int (nI p0))] := hl
  refine lv_lconst (v := 1) hx hb dX10_factorial_0 (by decide) ?_
  refine lv_lstore_n (lv' := [(1, .long 1), (0, .int (nI p0))]) hx hb dX10_factorial_1 rfl hl (by decide) rfl (fun ls hl => ?_)
  refine lv_iconst (v := 2) hx hb dX10_factorial_2 (by decide) ?_
  refine lv_istore_n (lv' := [(3, .int 2), (1, .long 1), (0, .int (nI p0))]) hx hb dX10_factorial_3 rfl hl (by decide) rfl (fun ls hl => ?_)
  have lp_10 : ∀ (nn j_8 : Nat) (x_9 : Int64) (H : Heap) (locs : List Loc) (ls : Array Slot), j_8 ≤ p0 + 2 → p0 + 2 - j_8 < nn → va_P D vwCl [] H → va_S A s.heap H locs → lv_has ls 4 [(3, .int (nI j_8)), (1, .long x_9), (0, .int (nI p0))] → W p l e (Rm 0 0 0) s m args below meth c H locs 0 0 Q (F0 m 4 ls []) := by
    intro nn
    induction nn with
    | zero => intro j_8 x_9 H locs ls hjj_8 hnj_8; exact absurd hnj_8 (by omega)
    | succ nn ihj_8 =>
      intro j_8 x_9 H locs ls hjj_8 hnj_8 hP hS hl
      refine lv_iload_n hx hb dX10_factorial_4 rfl (lv_at hl 0 rfl) ?_
      refine lv_iload_n hx hb dX10_factorial_5 rfl (lv_at hl 2 rfl) ?_
      refine lv_icmp_gt (tgt := 20) hx hb dX10_factorial_6 (by decide) (fun c_11 => ?_) (fun c_11 => ?_)
      · skip
        have c_11 : p0 < j_8 := (ni_lt rfl rfl (by omega) (by omega)).mp c_11
        refine lv_lload_n hx hb dX10_factorial_20 rfl (lv_at hl 1 rfl) ?_
        exact x_retl S hr hlk hQ hS () trivial x_T dX10_factorial_21
      · skip
        have c_11 : ¬ p0 < j_8 := fun q => c_11 ((ni_lt rfl rfl (by omega) (by omega)).mpr q)
        refine lv_lload_n hx hb dX10_factorial_9 rfl (lv_at hl 1 rfl) ?_
        refine lv_iload_n hx hb dX10_factorial_10 rfl (lv_at hl 0 rfl) ?_
        refine lv_i2l (v := (nI j_8).toInt64) hx hb dX10_factorial_11 rfl ?_
        refine lv_lmul hx hb dX10_factorial_12 ?_
        refine lv_topl (fun v_12 ev_12 => ?_)
        refine lv_lstore_n (lv' := [(1, .long v_12), (3, .int (nI j_8)), (0, .int (nI p0))]) hx hb dX10_factorial_13 rfl hl (by decide) rfl (fun ls hl => ?_)
        refine lv_iinc (v := (nI (j_8 + 1))) (lv' := [(3, .int (nI (j_8 + 1))), (1, .long v_12), (0, .int (nI p0))]) hx hb dX10_factorial_14 hl (k := 1) rfl (ni_inc _) (by decide) rfl (fun ls hl => ?_)
        refine lv_goto (tgt := 4) hx hb dX10_factorial_17 (by decide) ?_
        exact ihj_8 (j_8 + 1) v_12 _ _ _ (by omega) (by omega) hP hS (lv_sub hl [0, 1, 2] rfl)
  exact lp_10 (p0 + 2 + 1) 2 1 _ _ _ (by omega) (by omega) hP hS (lv_sub hl [0, 1, 2] rfl)

set_option maxHeartbeats 4000000 in
set_option maxRecDepth 100000 in
theorem ctX10_choose (l : Launch) (D : va_G) (k : Nat → ClassId) (z : Nat → Nat) (p0 : Nat) (p1 : Int32) (hp0 : p0 ≤ 63) : RO l yX10_choose cX10_choose 5 (some .long) 0 D k z [.int (nI p0), .int p1] [] (Ql (fun r : Int64 => True)) := by
  refine RO.of (by decide) (Nat.le_of_ble_eq_true rfl) ?_
  intro p e s m below meth c ls A B args Q S hr hlk hQ hK hP hDW hZ hAB hBA hA hS hl
  have hx := S.1
  have hb := S.2.1
  have hl : lv_has ls 5 [(0, .int (nI p0)), (1, .int p1)] := hl
  refine lv_iload_n hx hb dX10_choose_0 rfl (lv_at hl 1 rfl) ?_
  refine lv_if_lt (tgt := 9) hx hb dX10_choose_1 (by decide) (fun c_1 => ?_) (fun c_1 => ?_)
  · skip
    refine lv_lconst (v := 0) hx hb dX10_choose_9 (by decide) ?_
    exact x_retl S hr hlk hQ hS () trivial x_T dX10_choose_10
  · skip
    obtain ⟨kk, hkk, ekk⟩ : ∃ kk : Nat, kk < 2147483648 ∧ p1 = nI kk := natp c_1
    have hl : lv_has ls 5 [(0, .int (nI p0)), (1, .int (nI kk))] := by rw [ekk] at hl; exact hl
    refine lv_iload_n hx hb dX10_choose_4 rfl (lv_at hl 1 rfl) ?_
    refine lv_iload_n hx hb dX10_choose_5 rfl (lv_at hl 0 rfl) ?_
    refine lv_icmp_le (tgt := 11) hx hb dX10_choose_6 (by decide) (fun c_2 => ?_) (fun c_2 => ?_)
    · skip
      have c_2 : kk ≤ p0 := (ni_le rfl rfl (by omega) (by omega)).mp c_2
      refine lv_lconst (v := 1) hx hb dX10_choose_11 (by decide) ?_
      refine lv_lstore_n (lv' := [(2, .long 1), (0, .int (nI p0)), (1, .int (nI kk))]) hx hb dX10_choose_12 rfl hl (by decide) rfl (fun ls hl => ?_)
      refine lv_iconst (v := 1) hx hb dX10_choose_13 (by decide) ?_
      refine lv_istore (lv' := [(4, .int 1), (2, .long 1), (0, .int (nI p0)), (1, .int (nI kk))]) hx hb dX10_choose_14 hl (by decide) rfl (fun ls hl => ?_)
      have lp_15 : ∀ (nn j_13 : Nat) (x_14 : Int64) (H : Heap) (locs : List Loc) (ls : Array Slot), 1 ≤ j_13 → j_13 ≤ kk + 1 → kk + 1 - j_13 < nn → va_P D vwCl [] H → va_S A s.heap H locs → lv_has ls 5 [(4, .int (nI j_13)), (2, .long x_14), (0, .int (nI p0)), (1, .int (nI kk))] → W p l e (Rm 0 0 0) s m args below meth c H locs 0 0 Q (F0 m 16 ls []) := by
        intro nn
        induction nn with
        | zero => intro j_13 x_14 H locs ls hlj_13 hjj_13 hnj_13; exact absurd hnj_13 (by omega)
        | succ nn ihj_13 =>
          intro j_13 x_14 H locs ls hlj_13 hjj_13 hnj_13 hP hS hl
          refine lv_iload hx hb dX10_choose_16 (lv_at hl 0 rfl) ?_
          refine lv_iload_n hx hb dX10_choose_18 rfl (lv_at hl 3 rfl) ?_
          refine lv_icmp_gt (tgt := 42) hx hb dX10_choose_19 (by decide) (fun c_16 => ?_) (fun c_16 => ?_)
          · skip
            have c_16 : kk < j_13 := (ni_lt rfl rfl (by omega) (by omega)).mp c_16
            refine lv_lload_n hx hb dX10_choose_42 rfl (lv_at hl 1 rfl) ?_
            exact x_retl S hr hlk hQ hS () trivial x_T dX10_choose_43
          · skip
            have c_16 : ¬ kk < j_13 := fun q => c_16 ((ni_lt rfl rfl (by omega) (by omega)).mpr q)
            refine lv_lload_n hx hb dX10_choose_22 rfl (lv_at hl 1 rfl) ?_
            refine lv_iload_n hx hb dX10_choose_23 rfl (lv_at hl 2 rfl) ?_
            refine lv_iload_n hx hb dX10_choose_24 rfl (lv_at hl 3 rfl) ?_
            refine lv_isub hx hb dX10_choose_25 ?_
            refine x_is (nI (p0 - kk)) (ni_sub rfl rfl (by omega)) ?_
            refine lv_iload hx hb dX10_choose_26 (lv_at hl 0 rfl) ?_
            refine lv_iadd hx hb dX10_choose_28 ?_
            refine x_is (nI (p0 - kk + j_13)) (ni_add rfl rfl) ?_
            refine lv_i2l (v := (nI (p0 - kk + j_13)).toInt64) hx hb dX10_choose_29 rfl ?_
            refine lv_lmul hx hb dX10_choose_30 ?_
            refine lv_topl (fun v_17 ev_17 => ?_)
            refine lv_iload hx hb dX10_choose_31 (lv_at hl 0 rfl) ?_
            refine lv_i2l (v := (nI j_13).toInt64) hx hb dX10_choose_33 rfl ?_
            refine lv_ldiv hx hb dX10_choose_34 (ne0l (by omega) (by omega)) ?_
            refine lv_topl (fun v_18 ev_18 => ?_)
            refine lv_lstore_n (lv' := [(2, .long v_18), (4, .int (nI j_13)), (0, .int (nI p0)), (1, .int (nI kk))]) hx hb dX10_choose_35 rfl hl (by decide) rfl (fun ls hl => ?_)
            refine lv_iinc (v := (nI (j_13 + 1))) (lv' := [(4, .int (nI (j_13 + 1))), (2, .long v_18), (0, .int (nI p0)), (1, .int (nI kk))]) hx hb dX10_choose_36 hl (k := 1) rfl (ni_inc _) (by decide) rfl (fun ls hl => ?_)
            refine lv_goto (tgt := 16) hx hb dX10_choose_39 (by decide) ?_
            exact ihj_13 (j_13 + 1) v_18 _ _ _ (by omega) (by omega) (by omega) hP hS (lv_sub hl [0, 1, 2, 3] rfl)
      exact lp_15 (kk + 1 + 1) 1 1 _ _ _ (by omega) (by omega) (by omega) hP hS (lv_sub hl [0, 1, 2, 3] rfl)
    · skip
      have c_2 : ¬ kk ≤ p0 := fun q => c_2 ((ni_le rfl rfl (by omega) (by omega)).mpr q)
      refine lv_lconst (v := 0) hx hb dX10_choose_9 (by decide) ?_
      exact x_retl S hr hlk hQ hS () trivial x_T dX10_choose_10

set_option maxHeartbeats 4000000 in
set_option maxRecDepth 100000 in
theorem ctX10_factorial_i (l : Launch) (D : va_G) (k : Nat → ClassId) (z : Nat → Nat) (p0 : Int32) (h63 : p0 ≤ 63) : RO l yX10_factorial cX10_factorial 4 (some .long) 0 D k z [.int p0] [] (Ql (fun r : Int64 => True)) := by
  refine RO.of (by decide) (Nat.le_of_ble_eq_true rfl) ?_
  intro p e s m below meth c ls A B args Q S hr hlk hQ hK hP hDW hZ hAB hBA hA hS hl
  have hx := S.1
  have hb := S.2.1
  have hl : lv_has ls 4 [(0, .int p0)] := hl
  by_cases hneg : p0 < 0
  · skip
    have hn2 : p0 < 2 := Int32.lt_trans hneg (by decide)
    refine lv_lconst (v := 1) hx hb dX10_factorial_0 (by decide) ?_
    refine lv_lstore_n (lv' := [(1, .long 1), (0, .int p0)]) hx hb dX10_factorial_1 rfl hl (by decide) rfl (fun ls hl => ?_)
    refine lv_iconst (v := 2) hx hb dX10_factorial_2 (by decide) ?_
    refine lv_istore_n (lv' := [(3, .int 2), (1, .long 1), (0, .int p0)]) hx hb dX10_factorial_3 rfl hl (by decide) rfl (fun ls hl => ?_)
    refine lv_iload_n hx hb dX10_factorial_4 rfl (lv_at hl 0 rfl) ?_
    refine lv_iload_n hx hb dX10_factorial_5 rfl (lv_at hl 2 rfl) ?_
    refine lv_icmp_gt (tgt := 20) hx hb dX10_factorial_6 (by decide) (fun c_1 => ?_) (fun c_1 => ?_)
    · skip
      refine lv_lload_n hx hb dX10_factorial_20 rfl (lv_at hl 1 rfl) ?_
      exact x_retl S hr hlk hQ hS () trivial x_T dX10_factorial_21
    · skip
      exact absurd hn2 c_1
  · skip
    obtain ⟨nn0, hnn0, enn0⟩ : ∃ nn0 : Nat, nn0 < 2147483648 ∧ p0 = nI nn0 := natp hneg
    have hl : lv_has ls 4 [(0, .int (nI nn0))] := by rw [enn0] at hl; exact hl
    have hj63 : nn0 ≤ 63 := (ni_le (x := nI nn0) (y := 63) (b := 63) rfl (by decide) (by omega) (by decide)).mp (enn0 ▸ h63)
    refine lv_lconst (v := 1) hx hb dX10_factorial_0 (by decide) ?_
    refine lv_lstore_n (lv' := [(1, .long 1), (0, .int (nI nn0))]) hx hb dX10_factorial_1 rfl hl (by decide) rfl (fun ls hl => ?_)
    refine lv_iconst (v := 2) hx hb dX10_factorial_2 (by decide) ?_
    refine lv_istore_n (lv' := [(3, .int 2), (1, .long 1), (0, .int (nI nn0))]) hx hb dX10_factorial_3 rfl hl (by decide) rfl (fun ls hl => ?_)
    have lp_11 : ∀ (nn j_9 : Nat) (x_10 : Int64) (H : Heap) (locs : List Loc) (ls : Array Slot), j_9 ≤ nn0 + 2 → nn0 + 2 - j_9 < nn → va_P D vwCl [] H → va_S A s.heap H locs → lv_has ls 4 [(3, .int (nI j_9)), (1, .long x_10), (0, .int (nI nn0))] → W p l e (Rm 0 0 0) s m args below meth c H locs 0 0 Q (F0 m 4 ls []) := by
      intro nn
      induction nn with
      | zero => intro j_9 x_10 H locs ls hjj_9 hnj_9; exact absurd hnj_9 (by omega)
      | succ nn ihj_9 =>
        intro j_9 x_10 H locs ls hjj_9 hnj_9 hP hS hl
        refine lv_iload_n hx hb dX10_factorial_4 rfl (lv_at hl 0 rfl) ?_
        refine lv_iload_n hx hb dX10_factorial_5 rfl (lv_at hl 2 rfl) ?_
        refine lv_icmp_gt (tgt := 20) hx hb dX10_factorial_6 (by decide) (fun c_12 => ?_) (fun c_12 => ?_)
        · skip
          have c_12 : nn0 < j_9 := (ni_lt rfl rfl (by omega) (by omega)).mp c_12
          refine lv_lload_n hx hb dX10_factorial_20 rfl (lv_at hl 1 rfl) ?_
          exact x_retl S hr hlk hQ hS () trivial x_T dX10_factorial_21
        · skip
          have c_12 : ¬ nn0 < j_9 := fun q => c_12 ((ni_lt rfl rfl (by omega) (by omega)).mpr q)
          refine lv_lload_n hx hb dX10_factorial_9 rfl (lv_at hl 1 rfl) ?_
          refine lv_iload_n hx hb dX10_factorial_10 rfl (lv_at hl 0 rfl) ?_
          refine lv_i2l (v := (nI j_9).toInt64) hx hb dX10_factorial_11 rfl ?_
          refine lv_lmul hx hb dX10_factorial_12 ?_
          refine lv_topl (fun v_13 ev_13 => ?_)
          refine lv_lstore_n (lv' := [(1, .long v_13), (3, .int (nI j_9)), (0, .int (nI nn0))]) hx hb dX10_factorial_13 rfl hl (by decide) rfl (fun ls hl => ?_)
          refine lv_iinc (v := (nI (j_9 + 1))) (lv' := [(3, .int (nI (j_9 + 1))), (1, .long v_13), (0, .int (nI nn0))]) hx hb dX10_factorial_14 hl (k := 1) rfl (ni_inc _) (by decide) rfl (fun ls hl => ?_)
          refine lv_goto (tgt := 4) hx hb dX10_factorial_17 (by decide) ?_
          exact ihj_9 (j_9 + 1) v_13 _ _ _ (by omega) (by omega) hP hS (lv_sub hl [0, 1, 2] rfl)
    exact lp_11 (nn0 + 2 + 1) 2 1 _ _ _ (by omega) (by omega) hP hS (lv_sub hl [0, 1, 2] rfl)

set_option maxHeartbeats 4000000 in
set_option maxRecDepth 100000 in
theorem ctX10_choose_i (l : Launch) (D : va_G) (k : Nat → ClassId) (z : Nat → Nat) (p0 : Int32) (p1 : Int32) (h63 : p0 ≤ 63) : RO l yX10_choose cX10_choose 5 (some .long) 0 D k z [.int p0, .int p1] [] (Ql (fun r : Int64 => True)) := by
  refine RO.of (by decide) (Nat.le_of_ble_eq_true rfl) ?_
  intro p e s m below meth c ls A B args Q S hr hlk hQ hK hP hDW hZ hAB hBA hA hS hl
  have hx := S.1
  have hb := S.2.1
  have hl : lv_has ls 5 [(0, .int p0), (1, .int p1)] := hl
  refine lv_iload_n hx hb dX10_choose_0 rfl (lv_at hl 1 rfl) ?_
  refine lv_if_lt (tgt := 9) hx hb dX10_choose_1 (by decide) (fun c_1 => ?_) (fun c_1 => ?_)
  · skip
    refine lv_lconst (v := 0) hx hb dX10_choose_9 (by decide) ?_
    exact x_retl S hr hlk hQ hS () trivial x_T dX10_choose_10
  · skip
    obtain ⟨kk, hkk, ekk⟩ : ∃ kk : Nat, kk < 2147483648 ∧ p1 = nI kk := natp c_1
    have hl : lv_has ls 5 [(0, .int p0), (1, .int (nI kk))] := by rw [ekk] at hl; exact hl
    refine lv_iload_n hx hb dX10_choose_4 rfl (lv_at hl 1 rfl) ?_
    refine lv_iload_n hx hb dX10_choose_5 rfl (lv_at hl 0 rfl) ?_
    refine lv_icmp_le (tgt := 11) hx hb dX10_choose_6 (by decide) (fun c_2 => ?_) (fun c_2 => ?_)
    · skip
      have hk63 : kk ≤ 63 := (ni_le (x := nI kk) (y := 63) (b := 63) rfl (by decide) (by omega) (by decide)).mp (Int32.le_trans c_2 h63)
      refine lv_lconst (v := 1) hx hb dX10_choose_11 (by decide) ?_
      refine lv_lstore_n (lv' := [(2, .long 1), (0, .int p0), (1, .int (nI kk))]) hx hb dX10_choose_12 rfl hl (by decide) rfl (fun ls hl => ?_)
      refine lv_iconst (v := 1) hx hb dX10_choose_13 (by decide) ?_
      refine lv_istore (lv' := [(4, .int 1), (2, .long 1), (0, .int p0), (1, .int (nI kk))]) hx hb dX10_choose_14 hl (by decide) rfl (fun ls hl => ?_)
      have lp_19 : ∀ (nn j_17 : Nat) (x_18 : Int64) (H : Heap) (locs : List Loc) (ls : Array Slot), 1 ≤ j_17 → j_17 ≤ kk + 1 → kk + 1 - j_17 < nn → va_P D vwCl [] H → va_S A s.heap H locs → lv_has ls 5 [(4, .int (nI j_17)), (2, .long x_18), (0, .int p0), (1, .int (nI kk))] → W p l e (Rm 0 0 0) s m args below meth c H locs 0 0 Q (F0 m 16 ls []) := by
        intro nn
        induction nn with
        | zero => intro j_17 x_18 H locs ls hlj_17 hjj_17 hnj_17; exact absurd hnj_17 (by omega)
        | succ nn ihj_17 =>
          intro j_17 x_18 H locs ls hlj_17 hjj_17 hnj_17 hP hS hl
          refine lv_iload hx hb dX10_choose_16 (lv_at hl 0 rfl) ?_
          refine lv_iload_n hx hb dX10_choose_18 rfl (lv_at hl 3 rfl) ?_
          refine lv_icmp_gt (tgt := 42) hx hb dX10_choose_19 (by decide) (fun c_20 => ?_) (fun c_20 => ?_)
          · skip
            have c_20 : kk < j_17 := (ni_lt rfl rfl (by omega) (by omega)).mp c_20
            refine lv_lload_n hx hb dX10_choose_42 rfl (lv_at hl 1 rfl) ?_
            exact x_retl S hr hlk hQ hS () trivial x_T dX10_choose_43
          · skip
            have c_20 : ¬ kk < j_17 := fun q => c_20 ((ni_lt rfl rfl (by omega) (by omega)).mpr q)
            refine lv_lload_n hx hb dX10_choose_22 rfl (lv_at hl 1 rfl) ?_
            refine lv_iload_n hx hb dX10_choose_23 rfl (lv_at hl 2 rfl) ?_
            refine lv_iload_n hx hb dX10_choose_24 rfl (lv_at hl 3 rfl) ?_
            refine lv_isub hx hb dX10_choose_25 ?_
            refine lv_topi (fun v_21 ev_21 => ?_)
            refine lv_iload hx hb dX10_choose_26 (lv_at hl 0 rfl) ?_
            refine lv_iadd hx hb dX10_choose_28 ?_
            refine lv_topi (fun v_22 ev_22 => ?_)
            refine lv_i2l (v := v_22.toInt64) hx hb dX10_choose_29 rfl ?_
            refine lv_lmul hx hb dX10_choose_30 ?_
            refine lv_topl (fun v_23 ev_23 => ?_)
            refine lv_iload hx hb dX10_choose_31 (lv_at hl 0 rfl) ?_
            refine lv_i2l (v := (nI j_17).toInt64) hx hb dX10_choose_33 rfl ?_
            refine lv_ldiv hx hb dX10_choose_34 (ne0l (by omega) (by omega)) ?_
            refine lv_topl (fun v_24 ev_24 => ?_)
            refine lv_lstore_n (lv' := [(2, .long v_24), (4, .int (nI j_17)), (0, .int p0), (1, .int (nI kk))]) hx hb dX10_choose_35 rfl hl (by decide) rfl (fun ls hl => ?_)
            refine lv_iinc (v := (nI (j_17 + 1))) (lv' := [(4, .int (nI (j_17 + 1))), (2, .long v_24), (0, .int p0), (1, .int (nI kk))]) hx hb dX10_choose_36 hl (k := 1) rfl (ni_inc _) (by decide) rfl (fun ls hl => ?_)
            refine lv_goto (tgt := 16) hx hb dX10_choose_39 (by decide) ?_
            exact ihj_17 (j_17 + 1) v_24 _ _ _ (by omega) (by omega) (by omega) hP hS (lv_sub hl [0, 1, 2, 3] rfl)
      exact lp_19 (kk + 1 + 1) 1 1 _ _ _ (by omega) (by omega) (by omega) hP hS (lv_sub hl [0, 1, 2, 3] rfl)
    · skip
      refine lv_lconst (v := 0) hx hb dX10_choose_9 (by decide) ?_
      exact x_retl S hr hlk hQ hS () trivial x_T dX10_choose_10

