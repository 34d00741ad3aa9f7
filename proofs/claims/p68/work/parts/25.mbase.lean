theorem dX11_in_0 : decode cX11_in 0 = .ok (.lload_n 0, 1) := by decide +kernel
theorem dX11_in_1 : decode cX11_in 1 = .ok (.lload_n 2, 1) := by decide +kernel
theorem dX11_in_2 : decode cX11_in 2 = .ok (.lcmp, 1) := by decide +kernel
theorem dX11_in_3 : decode cX11_in 3 = .ok (.ifCond .lt 14, 3) := by decide +kernel
theorem dX11_in_6 : decode cX11_in 6 = .ok (.lload_n 0, 1) := by decide +kernel
theorem dX11_in_7 : decode cX11_in 7 = .ok (.lload 4, 2) := by decide +kernel
theorem dX11_in_9 : decode cX11_in 9 = .ok (.lcmp, 1) := by decide +kernel
theorem dX11_in_10 : decode cX11_in 10 = .ok (.ifCond .gt 7, 3) := by decide +kernel
theorem dX11_in_13 : decode cX11_in 13 = .ok (.iconst 1, 1) := by decide +kernel
theorem dX11_in_14 : decode cX11_in 14 = .ok (.goto 4, 3) := by decide +kernel
theorem dX11_in_17 : decode cX11_in 17 = .ok (.iconst 0, 1) := by decide +kernel
theorem dX11_in_18 : decode cX11_in 18 = .ok (.ireturn, 1) := by decide +kernel
theorem dX11_isView_0 : decode cX11_isView 0 = .ok (.lload_n 0, 1) := by decide +kernel
theorem dX11_isView_1 : decode cX11_isView 1 = .ok (.lconst 1, 1) := by decide +kernel
theorem dX11_isView_2 : decode cX11_isView 2 = .ok (.ldc2_w 89, 3) := by decide +kernel
theorem dX11_isView_5 : decode cX11_isView 5 = .ok (.invokestatic 91, 3) := by decide +kernel
theorem dX11_isView_8 : decode cX11_isView 8 = .ok (.ireturn, 1) := by decide +kernel
theorem dX11_isAny_0 : decode cX11_isAny 0 = .ok (.lload_n 0, 1) := by decide +kernel
theorem dX11_isAny_1 : decode cX11_isAny 1 = .ok (.lconst 0, 1) := by decide +kernel
theorem dX11_isAny_2 : decode cX11_isAny 2 = .ok (.ldc2_w 89, 3) := by decide +kernel
theorem dX11_isAny_5 : decode cX11_isAny 5 = .ok (.invokestatic 91, 3) := by decide +kernel
theorem dX11_isAny_8 : decode cX11_isAny 8 = .ok (.ireturn, 1) := by decide +kernel
theorem dX11_isSlot_0 : decode cX11_isSlot 0 = .ok (.iload_n 0, 1) := by decide +kernel
theorem dX11_isSlot_1 : decode cX11_isSlot 1 = .ok (.i2l, 1) := by decide +kernel
theorem dX11_isSlot_2 : decode cX11_isSlot 2 = .ok (.lconst 0, 1) := by decide +kernel
theorem dX11_isSlot_3 : decode cX11_isSlot 3 = .ok (.ldc2_w 241, 3) := by decide +kernel
theorem dX11_isSlot_6 : decode cX11_isSlot 6 = .ok (.invokestatic 91, 3) := by decide +kernel
theorem dX11_isSlot_9 : decode cX11_isSlot 9 = .ok (.ireturn, 1) := by decide +kernel
theorem dX11_isSeed_0 : decode cX11_isSeed 0 = .ok (.iload_n 0, 1) := by decide +kernel
theorem dX11_isSeed_1 : decode cX11_isSeed 1 = .ok (.i2l, 1) := by decide +kernel
theorem dX11_isSeed_2 : decode cX11_isSeed 2 = .ok (.lconst 0, 1) := by decide +kernel
theorem dX11_isSeed_3 : decode cX11_isSeed 3 = .ok (.ldc2_w 496, 3) := by decide +kernel
theorem dX11_isSeed_6 : decode cX11_isSeed 6 = .ok (.invokestatic 91, 3) := by decide +kernel
theorem dX11_isSeed_9 : decode cX11_isSeed 9 = .ok (.ireturn, 1) := by decide +kernel
theorem dX11_bit_0 : decode cX11_bit 0 = .ok (.iload_n 0, 1) := by decide +kernel
theorem dX11_bit_1 : decode cX11_bit 1 = .ok (.iload_n 1, 1) := by decide +kernel
theorem dX11_bit_2 : decode cX11_bit 2 = .ok (.ishr, 1) := by decide +kernel
theorem dX11_bit_3 : decode cX11_bit 3 = .ok (.iconst 1, 1) := by decide +kernel
theorem dX11_bit_4 : decode cX11_bit 4 = .ok (.iand, 1) := by decide +kernel
theorem dX11_bit_5 : decode cX11_bit 5 = .ok (.ireturn, 1) := by decide +kernel
theorem dX11_bits_0 : decode cX11_bits 0 = .ok (.iconst 0, 1) := by decide +kernel
theorem dX11_bits_1 : decode cX11_bits 1 = .ok (.istore_n 1, 1) := by decide +kernel
theorem dX11_bits_2 : decode cX11_bits 2 = .ok (.iconst 0, 1) := by decide +kernel
theorem dX11_bits_3 : decode cX11_bits 3 = .ok (.istore_n 2, 1) := by decide +kernel
theorem dX11_bits_4 : decode cX11_bits 4 = .ok (.iload_n 2, 1) := by decide +kernel
theorem dX11_bits_5 : decode cX11_bits 5 = .ok (.bipush 16, 2) := by decide +kernel
theorem dX11_bits_7 : decode cX11_bits 7 = .ok (.if_icmp .ge 17, 3) := by decide +kernel
theorem dX11_bits_10 : decode cX11_bits 10 = .ok (.iload_n 1, 1) := by decide +kernel
theorem dX11_bits_11 : decode cX11_bits 11 = .ok (.iload_n 0, 1) := by decide +kernel
theorem dX11_bits_12 : decode cX11_bits 12 = .ok (.iload_n 2, 1) := by decide +kernel
theorem dX11_bits_13 : decode cX11_bits 13 = .ok (.ishr, 1) := by decide +kernel
theorem dX11_bits_14 : decode cX11_bits 14 = .ok (.iconst 1, 1) := by decide +kernel
theorem dX11_bits_15 : decode cX11_bits 15 = .ok (.iand, 1) := by decide +kernel
theorem dX11_bits_16 : decode cX11_bits 16 = .ok (.iadd, 1) := by decide +kernel
theorem dX11_bits_17 : decode cX11_bits 17 = .ok (.istore_n 1, 1) := by decide +kernel
theorem dX11_bits_18 : decode cX11_bits 18 = .ok (.iinc 2 1, 3) := by decide +kernel
theorem dX11_bits_21 : decode cX11_bits 21 = .ok (.goto (-17), 3) := by decide +kernel
theorem dX11_bits_24 : decode cX11_bits 24 = .ok (.iload_n 1, 1) := by decide +kernel
theorem dX11_bits_25 : decode cX11_bits 25 = .ok (.ireturn, 1) := by decide +kernel
theorem dX11_oneOf_0 : decode cX11_oneOf 0 = .ok (.iload_n 0, 1) := by decide +kernel
theorem dX11_oneOf_1 : decode cX11_oneOf 1 = .ok (.iconst (-1), 1) := by decide +kernel
theorem dX11_oneOf_2 : decode cX11_oneOf 2 = .ok (.if_icmp .ne 7, 3) := by decide +kernel
theorem dX11_oneOf_5 : decode cX11_oneOf 5 = .ok (.iconst 0, 1) := by decide +kernel
theorem dX11_oneOf_6 : decode cX11_oneOf 6 = .ok (.goto 6, 3) := by decide +kernel
theorem dX11_oneOf_9 : decode cX11_oneOf 9 = .ok (.iconst 1, 1) := by decide +kernel
theorem dX11_oneOf_10 : decode cX11_oneOf 10 = .ok (.iload_n 0, 1) := by decide +kernel
theorem dX11_oneOf_11 : decode cX11_oneOf 11 = .ok (.ishl, 1) := by decide +kernel
theorem dX11_oneOf_12 : decode cX11_oneOf 12 = .ok (.ireturn, 1) := by decide +kernel
theorem dX11_isOne_0 : decode cX11_isOne 0 = .ok (.iload_n 0, 1) := by decide +kernel
theorem dX11_isOne_1 : decode cX11_isOne 1 = .ok (.ifCond .eq 15, 3) := by decide +kernel
theorem dX11_isOne_4 : decode cX11_isOne 4 = .ok (.iload_n 0, 1) := by decide +kernel
theorem dX11_isOne_5 : decode cX11_isOne 5 = .ok (.iload_n 1, 1) := by decide +kernel
theorem dX11_isOne_6 : decode cX11_isOne 6 = .ok (.iconst (-1), 1) := by decide +kernel
theorem dX11_isOne_7 : decode cX11_isOne 7 = .ok (.ixor, 1) := by decide +kernel
theorem dX11_isOne_8 : decode cX11_isOne 8 = .ok (.iand, 1) := by decide +kernel
theorem dX11_isOne_9 : decode cX11_isOne 9 = .ok (.ifCond .ne 7, 3) := by decide +kernel
theorem dX11_isOne_12 : decode cX11_isOne 12 = .ok (.iconst 1, 1) := by decide +kernel
theorem dX11_isOne_13 : decode cX11_isOne 13 = .ok (.goto 4, 3) := by decide +kernel
theorem dX11_isOne_16 : decode cX11_isOne 16 = .ok (.iconst 0, 1) := by decide +kernel
theorem dX11_isOne_17 : decode cX11_isOne 17 = .ok (.ireturn, 1) := by decide +kernel
theorem dX11_clipped_0 : decode cX11_clipped 0 = .ok (.bipush 64, 2) := by decide +kernel
theorem dX11_clipped_2 : decode cX11_clipped 2 = .ok (.bipush 8, 2) := by decide +kernel
theorem dX11_clipped_4 : decode cX11_clipped 4 = .ok (.iload_n 2, 1) := by decide +kernel
theorem dX11_clipped_5 : decode cX11_clipped 5 = .ok (.ishl, 1) := by decide +kernel
theorem dX11_clipped_6 : decode cX11_clipped 6 = .ok (.isub, 1) := by decide +kernel
theorem dX11_clipped_7 : decode cX11_clipped 7 = .ok (.istore_n 3, 1) := by decide +kernel
theorem dX11_clipped_8 : decode cX11_clipped 8 = .ok (.lload_n 0, 1) := by decide +kernel
theorem dX11_clipped_9 : decode cX11_clipped 9 = .ok (.iload_n 3, 1) := by decide +kernel
theorem dX11_clipped_10 : decode cX11_clipped 10 = .ok (.lshl, 1) := by decide +kernel
theorem dX11_clipped_11 : decode cX11_clipped 11 = .ok (.iload_n 3, 1) := by decide +kernel
theorem dX11_clipped_12 : decode cX11_clipped 12 = .ok (.lshr, 1) := by decide +kernel
theorem dX11_clipped_13 : decode cX11_clipped 13 = .ok (.lreturn, 1) := by decide +kernel
theorem dX11_factorial_0 : decode cX11_factorial 0 = .ok (.lconst 1, 1) := by decide +kernel
theorem dX11_factorial_1 : decode cX11_factorial 1 = .ok (.lstore_n 1, 1) := by decide +kernel
theorem dX11_factorial_2 : decode cX11_factorial 2 = .ok (.iconst 2, 1) := by decide +kernel
theorem dX11_factorial_3 : decode cX11_factorial 3 = .ok (.istore_n 3, 1) := by decide +kernel
theorem dX11_factorial_4 : decode cX11_factorial 4 = .ok (.iload_n 3, 1) := by decide +kernel
theorem dX11_factorial_5 : decode cX11_factorial 5 = .ok (.iload_n 0, 1) := by decide +kernel
theorem dX11_factorial_6 : decode cX11_factorial 6 = .ok (.if_icmp .gt 14, 3) := by decide +kernel
theorem dX11_factorial_9 : decode cX11_factorial 9 = .ok (.lload_n 1, 1) := by decide +kernel
theorem dX11_factorial_10 : decode cX11_factorial 10 = .ok (.iload_n 3, 1) := by decide +kernel
theorem dX11_factorial_11 : decode cX11_factorial 11 = .ok (.i2l, 1) := by decide +kernel
theorem dX11_factorial_12 : decode cX11_factorial 12 = .ok (.lmul, 1) := by decide +kernel
theorem dX11_factorial_13 : decode cX11_factorial 13 = .ok (.lstore_n 1, 1) := by decide +kernel
theorem dX11_factorial_14 : decode cX11_factorial 14 = .ok (.iinc 3 1, 3) := by decide +kernel
theorem dX11_factorial_17 : decode cX11_factorial 17 = .ok (.goto (-13), 3) := by decide +kernel
theorem dX11_factorial_20 : decode cX11_factorial 20 = .ok (.lload_n 1, 1) := by decide +kernel
theorem dX11_factorial_21 : decode cX11_factorial 21 = .ok (.lreturn, 1) := by decide +kernel
theorem dX11_divisor_0 : decode cX11_divisor 0 = .ok (.lload_n 0, 1) := by decide +kernel
theorem dX11_divisor_1 : decode cX11_divisor 1 = .ok (.invokestatic 382, 3) := by decide +kernel
theorem dX11_divisor_4 : decode cX11_divisor 4 = .ok (.lstore 4, 2) := by decide +kernel
theorem dX11_divisor_6 : decode cX11_divisor 6 = .ok (.lload_n 2, 1) := by decide +kernel
theorem dX11_divisor_7 : decode cX11_divisor 7 = .ok (.lstore 6, 2) := by decide +kernel
theorem dX11_divisor_9 : decode cX11_divisor 9 = .ok (.lload 6, 2) := by decide +kernel
theorem dX11_divisor_11 : decode cX11_divisor 11 = .ok (.lconst 0, 1) := by decide +kernel
theorem dX11_divisor_12 : decode cX11_divisor 12 = .ok (.lcmp, 1) := by decide +kernel
theorem dX11_divisor_13 : decode cX11_divisor 13 = .ok (.ifCond .eq 21, 3) := by decide +kernel
theorem dX11_divisor_16 : decode cX11_divisor 16 = .ok (.lload 4, 2) := by decide +kernel
theorem dX11_divisor_18 : decode cX11_divisor 18 = .ok (.lload 6, 2) := by decide +kernel
theorem dX11_divisor_20 : decode cX11_divisor 20 = .ok (.lrem, 1) := by decide +kernel
theorem dX11_divisor_21 : decode cX11_divisor 21 = .ok (.lstore 8, 2) := by decide +kernel
theorem dX11_divisor_23 : decode cX11_divisor 23 = .ok (.lload 6, 2) := by decide +kernel
theorem dX11_divisor_25 : decode cX11_divisor 25 = .ok (.lstore 4, 2) := by decide +kernel
theorem dX11_divisor_27 : decode cX11_divisor 27 = .ok (.lload 8, 2) := by decide +kernel
theorem dX11_divisor_29 : decode cX11_divisor 29 = .ok (.lstore 6, 2) := by decide +kernel
theorem dX11_divisor_31 : decode cX11_divisor 31 = .ok (.goto (-22), 3) := by decide +kernel
theorem dX11_divisor_34 : decode cX11_divisor 34 = .ok (.lload 4, 2) := by decide +kernel
theorem dX11_divisor_36 : decode cX11_divisor 36 = .ok (.lreturn, 1) := by decide +kernel
theorem dX11_part_0 : decode cX11_part 0 = .ok (.iload 4, 2) := by decide +kernel
theorem dX11_part_2 : decode cX11_part 2 = .ok (.ifCond .ne 7, 3) := by decide +kernel
theorem dX11_part_5 : decode cX11_part 5 = .ok (.lload_n 0, 1) := by decide +kernel
theorem dX11_part_6 : decode cX11_part 6 = .ok (.goto 4, 3) := by decide +kernel
theorem dX11_part_9 : decode cX11_part 9 = .ok (.lload_n 2, 1) := by decide +kernel
theorem dX11_part_10 : decode cX11_part 10 = .ok (.lload_n 0, 1) := by decide +kernel
theorem dX11_part_11 : decode cX11_part 11 = .ok (.lload_n 2, 1) := by decide +kernel
theorem dX11_part_12 : decode cX11_part 12 = .ok (.invokestatic 385, 3) := by decide +kernel
theorem dX11_part_15 : decode cX11_part 15 = .ok (.ldiv, 1) := by decide +kernel
theorem dX11_part_16 : decode cX11_part 16 = .ok (.lreturn, 1) := by decide +kernel
theorem dX11_choose_0 : decode cX11_choose 0 = .ok (.iload_n 1, 1) := by decide +kernel
theorem dX11_choose_1 : decode cX11_choose 1 = .ok (.ifCond .lt 8, 3) := by decide +kernel
theorem dX11_choose_4 : decode cX11_choose 4 = .ok (.iload_n 1, 1) := by decide +kernel
theorem dX11_choose_5 : decode cX11_choose 5 = .ok (.iload_n 0, 1) := by decide +kernel
theorem dX11_choose_6 : decode cX11_choose 6 = .ok (.if_icmp .le 5, 3) := by decide +kernel
theorem dX11_choose_9 : decode cX11_choose 9 = .ok (.lconst 0, 1) := by decide +kernel
theorem dX11_choose_10 : decode cX11_choose 10 = .ok (.lreturn, 1) := by decide +kernel
theorem dX11_choose_11 : decode cX11_choose 11 = .ok (.lconst 1, 1) := by decide +kernel
theorem dX11_choose_12 : decode cX11_choose 12 = .ok (.lstore_n 2, 1) := by decide +kernel
theorem dX11_choose_13 : decode cX11_choose 13 = .ok (.iconst 0, 1) := by decide +kernel
theorem dX11_choose_14 : decode cX11_choose 14 = .ok (.istore 4, 2) := by decide +kernel
theorem dX11_choose_16 : decode cX11_choose 16 = .ok (.iload 4, 2) := by decide +kernel
theorem dX11_choose_18 : decode cX11_choose 18 = .ok (.iload_n 1, 1) := by decide +kernel
theorem dX11_choose_19 : decode cX11_choose 19 = .ok (.if_icmp .ge 23, 3) := by decide +kernel
theorem dX11_choose_22 : decode cX11_choose 22 = .ok (.lload_n 2, 1) := by decide +kernel
theorem dX11_choose_23 : decode cX11_choose 23 = .ok (.iload_n 0, 1) := by decide +kernel
theorem dX11_choose_24 : decode cX11_choose 24 = .ok (.iload 4, 2) := by decide +kernel
theorem dX11_choose_26 : decode cX11_choose 26 = .ok (.isub, 1) := by decide +kernel
theorem dX11_choose_27 : decode cX11_choose 27 = .ok (.i2l, 1) := by decide +kernel
theorem dX11_choose_28 : decode cX11_choose 28 = .ok (.lmul, 1) := by decide +kernel
theorem dX11_choose_29 : decode cX11_choose 29 = .ok (.iload 4, 2) := by decide +kernel
theorem dX11_choose_31 : decode cX11_choose 31 = .ok (.iconst 1, 1) := by decide +kernel
theorem dX11_choose_32 : decode cX11_choose 32 = .ok (.iadd, 1) := by decide +kernel
theorem dX11_choose_33 : decode cX11_choose 33 = .ok (.i2l, 1) := by decide +kernel
theorem dX11_choose_34 : decode cX11_choose 34 = .ok (.ldiv, 1) := by decide +kernel
theorem dX11_choose_35 : decode cX11_choose 35 = .ok (.lstore_n 2, 1) := by decide +kernel
theorem dX11_choose_36 : decode cX11_choose 36 = .ok (.iinc 4 1, 3) := by decide +kernel
theorem dX11_choose_39 : decode cX11_choose 39 = .ok (.goto (-23), 3) := by decide +kernel
theorem dX11_choose_42 : decode cX11_choose 42 = .ok (.lload_n 2, 1) := by decide +kernel
theorem dX11_choose_43 : decode cX11_choose 43 = .ok (.lreturn, 1) := by decide +kernel
theorem dX11_isGarden_0 : decode cX11_isGarden 0 = .ok (.aload_n 0, 1) := by decide +kernel
theorem dX11_isGarden_1 : decode cX11_isGarden 1 = .ok (.getfield 9, 3) := by decide +kernel
theorem dX11_isGarden_4 : decode cX11_isGarden 4 = .ok (.bipush 8, 2) := by decide +kernel
theorem dX11_isGarden_6 : decode cX11_isGarden 6 = .ok (.iaload, 1) := by decide +kernel
theorem dX11_isGarden_7 : decode cX11_isGarden 7 = .ok (.ifCond .le 7, 3) := by decide +kernel
theorem dX11_isGarden_10 : decode cX11_isGarden 10 = .ok (.iconst 1, 1) := by decide +kernel
theorem dX11_isGarden_11 : decode cX11_isGarden 11 = .ok (.goto 4, 3) := by decide +kernel
theorem dX11_isGarden_14 : decode cX11_isGarden 14 = .ok (.iconst 0, 1) := by decide +kernel
theorem dX11_isGarden_15 : decode cX11_isGarden 15 = .ok (.ireturn, 1) := by decide +kernel
theorem dX11_hours_0 : decode cX11_hours 0 = .ok (.aload_n 0, 1) := by decide +kernel
theorem dX11_hours_1 : decode cX11_hours 1 = .ok (.getfield 9, 3) := by decide +kernel
theorem dX11_hours_4 : decode cX11_hours 4 = .ok (.iconst 0, 1) := by decide +kernel
theorem dX11_hours_5 : decode cX11_hours 5 = .ok (.iaload, 1) := by decide +kernel
theorem dX11_hours_6 : decode cX11_hours 6 = .ok (.ireturn, 1) := by decide +kernel
theorem dX11_headMany_0 : decode cX11_headMany 0 = .ok (.aload_n 0, 1) := by decide +kernel
theorem dX11_headMany_1 : decode cX11_headMany 1 = .ok (.getfield 9, 3) := by decide +kernel
theorem dX11_headMany_4 : decode cX11_headMany 4 = .ok (.iconst 4, 1) := by decide +kernel
theorem dX11_headMany_5 : decode cX11_headMany 5 = .ok (.iaload, 1) := by decide +kernel
theorem dX11_headMany_6 : decode cX11_headMany 6 = .ok (.ireturn, 1) := by decide +kernel
theorem dX11_allHeads_0 : decode cX11_allHeads 0 = .ok (.iconst 1, 1) := by decide +kernel
theorem dX11_allHeads_1 : decode cX11_allHeads 1 = .ok (.aload_n 0, 1) := by decide +kernel
theorem dX11_allHeads_2 : decode cX11_allHeads 2 = .ok (.invokevirtual 95, 3) := by decide +kernel
theorem dX11_allHeads_5 : decode cX11_allHeads 5 = .ok (.ishl, 1) := by decide +kernel
theorem dX11_allHeads_6 : decode cX11_allHeads 6 = .ok (.iconst 1, 1) := by decide +kernel
theorem dX11_allHeads_7 : decode cX11_allHeads 7 = .ok (.isub, 1) := by decide +kernel
theorem dX11_allHeads_8 : decode cX11_allHeads 8 = .ok (.ireturn, 1) := by decide +kernel
theorem dX11_isHead_0 : decode cX11_isHead 0 = .ok (.lload_n 1, 1) := by decide +kernel
theorem dX11_isHead_1 : decode cX11_isHead 1 = .ok (.lconst 0, 1) := by decide +kernel
theorem dX11_isHead_2 : decode cX11_isHead 2 = .ok (.aload_n 0, 1) := by decide +kernel
theorem dX11_isHead_3 : decode cX11_isHead 3 = .ok (.invokevirtual 95, 3) := by decide +kernel
theorem dX11_isHead_6 : decode cX11_isHead 6 = .ok (.iconst 1, 1) := by decide +kernel
theorem dX11_isHead_7 : decode cX11_isHead 7 = .ok (.isub, 1) := by decide +kernel
theorem dX11_isHead_8 : decode cX11_isHead 8 = .ok (.i2l, 1) := by decide +kernel
theorem dX11_isHead_9 : decode cX11_isHead 9 = .ok (.invokestatic 91, 3) := by decide +kernel
theorem dX11_isHead_12 : decode cX11_isHead 12 = .ok (.ireturn, 1) := by decide +kernel
theorem dX11_isRow_0 : decode cX11_isRow 0 = .ok (.iload_n 1, 1) := by decide +kernel
theorem dX11_isRow_1 : decode cX11_isRow 1 = .ok (.i2l, 1) := by decide +kernel
theorem dX11_isRow_2 : decode cX11_isRow 2 = .ok (.lconst 0, 1) := by decide +kernel
theorem dX11_isRow_3 : decode cX11_isRow 3 = .ok (.aload_n 0, 1) := by decide +kernel
theorem dX11_isRow_4 : decode cX11_isRow 4 = .ok (.getfield 9, 3) := by decide +kernel
theorem dX11_isRow_7 : decode cX11_isRow 7 = .ok (.iconst 3, 1) := by decide +kernel
theorem dX11_isRow_8 : decode cX11_isRow 8 = .ok (.iaload, 1) := by decide +kernel
theorem dX11_isRow_9 : decode cX11_isRow 9 = .ok (.iconst 1, 1) := by decide +kernel
theorem dX11_isRow_10 : decode cX11_isRow 10 = .ok (.isub, 1) := by decide +kernel
theorem dX11_isRow_11 : decode cX11_isRow 11 = .ok (.i2l, 1) := by decide +kernel
theorem dX11_isRow_12 : decode cX11_isRow 12 = .ok (.invokestatic 91, 3) := by decide +kernel
theorem dX11_isRow_15 : decode cX11_isRow 15 = .ok (.ireturn, 1) := by decide +kernel
theorem dX11_isHour_0 : decode cX11_isHour 0 = .ok (.aload_n 0, 1) := by decide +kernel
theorem dX11_isHour_1 : decode cX11_isHour 1 = .ok (.invokevirtual 99, 3) := by decide +kernel
theorem dX11_isHour_4 : decode cX11_isHour 4 = .ok (.ifCond .eq 20, 3) := by decide +kernel
theorem dX11_isHour_7 : decode cX11_isHour 7 = .ok (.lload_n 1, 1) := by decide +kernel
theorem dX11_isHour_8 : decode cX11_isHour 8 = .ok (.lconst 0, 1) := by decide +kernel
theorem dX11_isHour_9 : decode cX11_isHour 9 = .ok (.aload_n 0, 1) := by decide +kernel
theorem dX11_isHour_10 : decode cX11_isHour 10 = .ok (.invokevirtual 103, 3) := by decide +kernel
theorem dX11_isHour_13 : decode cX11_isHour 13 = .ok (.i2l, 1) := by decide +kernel
theorem dX11_isHour_14 : decode cX11_isHour 14 = .ok (.invokestatic 91, 3) := by decide +kernel
theorem dX11_isHour_17 : decode cX11_isHour 17 = .ok (.ifCond .eq 7, 3) := by decide +kernel
theorem dX11_isHour_20 : decode cX11_isHour 20 = .ok (.iconst 1, 1) := by decide +kernel
theorem dX11_isHour_21 : decode cX11_isHour 21 = .ok (.goto 4, 3) := by decide +kernel
theorem dX11_isHour_24 : decode cX11_isHour 24 = .ok (.iconst 0, 1) := by decide +kernel
theorem dX11_isHour_25 : decode cX11_isHour 25 = .ok (.ireturn, 1) := by decide +kernel
theorem dX11_hardOf_0 : decode cX11_hardOf 0 = .ok (.aload_n 0, 1) := by decide +kernel
theorem dX11_hardOf_1 : decode cX11_hardOf 1 = .ok (.getfield 9, 3) := by decide +kernel
theorem dX11_hardOf_4 : decode cX11_hardOf 4 = .ok (.bipush 13, 2) := by decide +kernel
theorem dX11_hardOf_6 : decode cX11_hardOf 6 = .ok (.iconst 2, 1) := by decide +kernel
theorem dX11_hardOf_7 : decode cX11_hardOf 7 = .ok (.iload_n 1, 1) := by decide +kernel
theorem dX11_hardOf_8 : decode cX11_hardOf 8 = .ok (.imul, 1) := by decide +kernel
theorem dX11_hardOf_9 : decode cX11_hardOf 9 = .ok (.iadd, 1) := by decide +kernel
theorem dX11_hardOf_10 : decode cX11_hardOf 10 = .ok (.iaload, 1) := by decide +kernel
theorem dX11_hardOf_11 : decode cX11_hardOf 11 = .ok (.ireturn, 1) := by decide +kernel
theorem dX11_holdsOf_0 : decode cX11_holdsOf 0 = .ok (.aload_n 0, 1) := by decide +kernel
theorem dX11_holdsOf_1 : decode cX11_holdsOf 1 = .ok (.getfield 9, 3) := by decide +kernel
theorem dX11_holdsOf_4 : decode cX11_holdsOf 4 = .ok (.bipush 13, 2) := by decide +kernel
theorem dX11_holdsOf_6 : decode cX11_holdsOf 6 = .ok (.iconst 2, 1) := by decide +kernel
theorem dX11_holdsOf_7 : decode cX11_holdsOf 7 = .ok (.iload_n 1, 1) := by decide +kernel
theorem dX11_holdsOf_8 : decode cX11_holdsOf 8 = .ok (.imul, 1) := by decide +kernel
theorem dX11_holdsOf_9 : decode cX11_holdsOf 9 = .ok (.iadd, 1) := by decide +kernel
theorem dX11_holdsOf_10 : decode cX11_holdsOf 10 = .ok (.iconst 1, 1) := by decide +kernel
theorem dX11_holdsOf_11 : decode cX11_holdsOf 11 = .ok (.iadd, 1) := by decide +kernel
theorem dX11_holdsOf_12 : decode cX11_holdsOf 12 = .ok (.iaload, 1) := by decide +kernel
theorem dX11_holdsOf_13 : decode cX11_holdsOf 13 = .ok (.ireturn, 1) := by decide +kernel
theorem dX11_layRows_0 : decode cX11_layRows 0 = .ok (.iconst 0, 1) := by decide +kernel
theorem dX11_layRows_1 : decode cX11_layRows 1 = .ok (.istore_n 1, 1) := by decide +kernel
theorem dX11_layRows_2 : decode cX11_layRows 2 = .ok (.iconst 0, 1) := by decide +kernel
theorem dX11_layRows_3 : decode cX11_layRows 3 = .ok (.istore_n 2, 1) := by decide +kernel
theorem dX11_layRows_4 : decode cX11_layRows 4 = .ok (.iload_n 2, 1) := by decide +kernel
theorem dX11_layRows_5 : decode cX11_layRows 5 = .ok (.aload_n 0, 1) := by decide +kernel
theorem dX11_layRows_6 : decode cX11_layRows 6 = .ok (.getfield 9, 3) := by decide +kernel
theorem dX11_layRows_9 : decode cX11_layRows 9 = .ok (.iconst 3, 1) := by decide +kernel
theorem dX11_layRows_10 : decode cX11_layRows 10 = .ok (.iaload, 1) := by decide +kernel
theorem dX11_layRows_11 : decode cX11_layRows 11 = .ok (.if_icmp .ge 54, 3) := by decide +kernel
theorem dX11_layRows_14 : decode cX11_layRows 14 = .ok (.aload_n 0, 1) := by decide +kernel
theorem dX11_layRows_15 : decode cX11_layRows 15 = .ok (.getfield 40, 3) := by decide +kernel
theorem dX11_layRows_18 : decode cX11_layRows 18 = .ok (.iload_n 2, 1) := by decide +kernel
theorem dX11_layRows_19 : decode cX11_layRows 19 = .ok (.iload_n 1, 1) := by decide +kernel
theorem dX11_layRows_20 : decode cX11_layRows 20 = .ok (.iastore, 1) := by decide +kernel
theorem dX11_layRows_21 : decode cX11_layRows 21 = .ok (.iconst 0, 1) := by decide +kernel
theorem dX11_layRows_22 : decode cX11_layRows 22 = .ok (.istore_n 3, 1) := by decide +kernel
theorem dX11_layRows_23 : decode cX11_layRows 23 = .ok (.iload_n 3, 1) := by decide +kernel
theorem dX11_layRows_24 : decode cX11_layRows 24 = .ok (.aload_n 0, 1) := by decide +kernel
theorem dX11_layRows_25 : decode cX11_layRows 25 = .ok (.getfield 9, 3) := by decide +kernel
theorem dX11_layRows_28 : decode cX11_layRows 28 = .ok (.bipush 9, 2) := by decide +kernel
theorem dX11_layRows_30 : decode cX11_layRows 30 = .ok (.iload_n 2, 1) := by decide +kernel
theorem dX11_layRows_31 : decode cX11_layRows 31 = .ok (.iadd, 1) := by decide +kernel
theorem dX11_layRows_32 : decode cX11_layRows 32 = .ok (.iaload, 1) := by decide +kernel
theorem dX11_layRows_33 : decode cX11_layRows 33 = .ok (.if_icmp .ge 26, 3) := by decide +kernel
theorem dX11_layRows_36 : decode cX11_layRows 36 = .ok (.aload_n 0, 1) := by decide +kernel
theorem dX11_layRows_37 : decode cX11_layRows 37 = .ok (.getfield 34, 3) := by decide +kernel
theorem dX11_layRows_40 : decode cX11_layRows 40 = .ok (.iload_n 1, 1) := by decide +kernel
theorem dX11_layRows_41 : decode cX11_layRows 41 = .ok (.iload_n 2, 1) := by decide +kernel
theorem dX11_layRows_42 : decode cX11_layRows 42 = .ok (.iastore, 1) := by decide +kernel
theorem dX11_layRows_43 : decode cX11_layRows 43 = .ok (.aload_n 0, 1) := by decide +kernel
theorem dX11_layRows_44 : decode cX11_layRows 44 = .ok (.getfield 37, 3) := by decide +kernel
theorem dX11_layRows_47 : decode cX11_layRows 47 = .ok (.iload_n 1, 1) := by decide +kernel
theorem dX11_layRows_48 : decode cX11_layRows 48 = .ok (.iload_n 3, 1) := by decide +kernel
theorem dX11_layRows_49 : decode cX11_layRows 49 = .ok (.iastore, 1) := by decide +kernel
theorem dX11_layRows_50 : decode cX11_layRows 50 = .ok (.iinc 1 1, 3) := by decide +kernel
theorem dX11_layRows_53 : decode cX11_layRows 53 = .ok (.iinc 3 1, 3) := by decide +kernel
theorem dX11_layRows_56 : decode cX11_layRows 56 = .ok (.goto (-33), 3) := by decide +kernel
theorem dX11_layRows_59 : decode cX11_layRows 59 = .ok (.iinc 2 1, 3) := by decide +kernel
theorem dX11_layRows_62 : decode cX11_layRows 62 = .ok (.goto (-58), 3) := by decide +kernel
theorem dX11_layRows_65 : decode cX11_layRows 65 = .ok (.return_, 1) := by decide +kernel
theorem dX11_headAt_0 : decode cX11_headAt 0 = .ok (.aload_n 0, 1) := by decide +kernel
theorem dX11_headAt_1 : decode cX11_headAt 1 = .ok (.iload_n 1, 1) := by decide +kernel
theorem dX11_headAt_2 : decode cX11_headAt 2 = .ok (.invokevirtual 227, 3) := by decide +kernel
theorem dX11_headAt_5 : decode cX11_headAt 5 = .ok (.ifCond .eq 35, 3) := by decide +kernel
theorem dX11_headAt_8 : decode cX11_headAt 8 = .ok (.iload_n 2, 1) := by decide +kernel
theorem dX11_headAt_9 : decode cX11_headAt 9 = .ok (.i2l, 1) := by decide +kernel
theorem dX11_headAt_10 : decode cX11_headAt 10 = .ok (.lconst 0, 1) := by decide +kernel
theorem dX11_headAt_11 : decode cX11_headAt 11 = .ok (.aload_n 0, 1) := by decide +kernel
theorem dX11_headAt_12 : decode cX11_headAt 12 = .ok (.getfield 9, 3) := by decide +kernel
theorem dX11_headAt_15 : decode cX11_headAt 15 = .ok (.bipush 9, 2) := by decide +kernel
theorem dX11_headAt_17 : decode cX11_headAt 17 = .ok (.iload_n 1, 1) := by decide +kernel
theorem dX11_headAt_18 : decode cX11_headAt 18 = .ok (.iadd, 1) := by decide +kernel
theorem dX11_headAt_19 : decode cX11_headAt 19 = .ok (.iaload, 1) := by decide +kernel
theorem dX11_headAt_20 : decode cX11_headAt 20 = .ok (.iconst 1, 1) := by decide +kernel
theorem dX11_headAt_21 : decode cX11_headAt 21 = .ok (.isub, 1) := by decide +kernel
theorem dX11_headAt_22 : decode cX11_headAt 22 = .ok (.i2l, 1) := by decide +kernel
theorem dX11_headAt_23 : decode cX11_headAt 23 = .ok (.invokestatic 91, 3) := by decide +kernel
theorem dX11_headAt_26 : decode cX11_headAt 26 = .ok (.ifCond .eq 14, 3) := by decide +kernel
theorem dX11_headAt_29 : decode cX11_headAt 29 = .ok (.aload_n 0, 1) := by decide +kernel
theorem dX11_headAt_30 : decode cX11_headAt 30 = .ok (.getfield 40, 3) := by decide +kernel
theorem dX11_headAt_33 : decode cX11_headAt 33 = .ok (.iload_n 1, 1) := by decide +kernel
theorem dX11_headAt_34 : decode cX11_headAt 34 = .ok (.iaload, 1) := by decide +kernel
theorem dX11_headAt_35 : decode cX11_headAt 35 = .ok (.iload_n 2, 1) := by decide +kernel
theorem dX11_headAt_36 : decode cX11_headAt 36 = .ok (.iadd, 1) := by decide +kernel
theorem dX11_headAt_37 : decode cX11_headAt 37 = .ok (.goto 4, 3) := by decide +kernel
theorem dX11_headAt_40 : decode cX11_headAt 40 = .ok (.iconst (-1), 1) := by decide +kernel
theorem dX11_headAt_41 : decode cX11_headAt 41 = .ok (.ireturn, 1) := by decide +kernel
theorem dX11_besides_0 : decode cX11_besides 0 = .ok (.aload_n 0, 1) := by decide +kernel
theorem dX11_besides_1 : decode cX11_besides 1 = .ok (.aload_n 0, 1) := by decide +kernel
theorem dX11_besides_2 : decode cX11_besides 2 = .ok (.getfield 34, 3) := by decide +kernel
theorem dX11_besides_5 : decode cX11_besides 5 = .ok (.iload_n 1, 1) := by decide +kernel
theorem dX11_besides_6 : decode cX11_besides 6 = .ok (.iaload, 1) := by decide +kernel
theorem dX11_besides_7 : decode cX11_besides 7 = .ok (.aload_n 0, 1) := by decide +kernel
theorem dX11_besides_8 : decode cX11_besides 8 = .ok (.getfield 37, 3) := by decide +kernel
theorem dX11_besides_11 : decode cX11_besides 11 = .ok (.iload_n 1, 1) := by decide +kernel
theorem dX11_besides_12 : decode cX11_besides 12 = .ok (.iaload, 1) := by decide +kernel
theorem dX11_besides_13 : decode cX11_besides 13 = .ok (.iconst 1, 1) := by decide +kernel
theorem dX11_besides_14 : decode cX11_besides 14 = .ok (.isub, 1) := by decide +kernel
theorem dX11_besides_15 : decode cX11_besides 15 = .ok (.invokevirtual 231, 3) := by decide +kernel
theorem dX11_besides_18 : decode cX11_besides 18 = .ok (.invokestatic 234, 3) := by decide +kernel
theorem dX11_besides_21 : decode cX11_besides 21 = .ok (.aload_n 0, 1) := by decide +kernel
theorem dX11_besides_22 : decode cX11_besides 22 = .ok (.aload_n 0, 1) := by decide +kernel
theorem dX11_besides_23 : decode cX11_besides 23 = .ok (.getfield 34, 3) := by decide +kernel
theorem dX11_besides_26 : decode cX11_besides 26 = .ok (.iload_n 1, 1) := by decide +kernel
theorem dX11_besides_27 : decode cX11_besides 27 = .ok (.iaload, 1) := by decide +kernel
theorem dX11_besides_28 : decode cX11_besides 28 = .ok (.aload_n 0, 1) := by decide +kernel
theorem dX11_besides_29 : decode cX11_besides 29 = .ok (.getfield 37, 3) := by decide +kernel
theorem dX11_besides_32 : decode cX11_besides 32 = .ok (.iload_n 1, 1) := by decide +kernel
theorem dX11_besides_33 : decode cX11_besides 33 = .ok (.iaload, 1) := by decide +kernel
theorem dX11_besides_34 : decode cX11_besides 34 = .ok (.iconst 1, 1) := by decide +kernel
theorem dX11_besides_35 : decode cX11_besides 35 = .ok (.iadd, 1) := by decide +kernel
theorem dX11_besides_36 : decode cX11_besides 36 = .ok (.invokevirtual 231, 3) := by decide +kernel
theorem dX11_besides_39 : decode cX11_besides 39 = .ok (.invokestatic 234, 3) := by decide +kernel
theorem dX11_besides_42 : decode cX11_besides 42 = .ok (.ior, 1) := by decide +kernel
theorem dX11_besides_43 : decode cX11_besides 43 = .ok (.ireturn, 1) := by decide +kernel
theorem dX11_across_0 : decode cX11_across 0 = .ok (.aload_n 0, 1) := by decide +kernel
theorem dX11_across_1 : decode cX11_across 1 = .ok (.aload_n 0, 1) := by decide +kernel
theorem dX11_across_2 : decode cX11_across 2 = .ok (.getfield 34, 3) := by decide +kernel
theorem dX11_across_5 : decode cX11_across 5 = .ok (.iload_n 1, 1) := by decide +kernel
theorem dX11_across_6 : decode cX11_across 6 = .ok (.iaload, 1) := by decide +kernel
theorem dX11_across_7 : decode cX11_across 7 = .ok (.iconst 1, 1) := by decide +kernel
theorem dX11_across_8 : decode cX11_across 8 = .ok (.isub, 1) := by decide +kernel
theorem dX11_across_9 : decode cX11_across 9 = .ok (.aload_n 0, 1) := by decide +kernel
theorem dX11_across_10 : decode cX11_across 10 = .ok (.getfield 37, 3) := by decide +kernel
theorem dX11_across_13 : decode cX11_across 13 = .ok (.iload_n 1, 1) := by decide +kernel
theorem dX11_across_14 : decode cX11_across 14 = .ok (.iaload, 1) := by decide +kernel
theorem dX11_across_15 : decode cX11_across 15 = .ok (.invokevirtual 231, 3) := by decide +kernel
theorem dX11_across_18 : decode cX11_across 18 = .ok (.invokestatic 234, 3) := by decide +kernel
theorem dX11_across_21 : decode cX11_across 21 = .ok (.aload_n 0, 1) := by decide +kernel
theorem dX11_across_22 : decode cX11_across 22 = .ok (.aload_n 0, 1) := by decide +kernel
theorem dX11_across_23 : decode cX11_across 23 = .ok (.getfield 34, 3) := by decide +kernel
theorem dX11_across_26 : decode cX11_across 26 = .ok (.iload_n 1, 1) := by decide +kernel
theorem dX11_across_27 : decode cX11_across 27 = .ok (.iaload, 1) := by decide +kernel
theorem dX11_across_28 : decode cX11_across 28 = .ok (.iconst 1, 1) := by decide +kernel
theorem dX11_across_29 : decode cX11_across 29 = .ok (.iadd, 1) := by decide +kernel
theorem dX11_across_30 : decode cX11_across 30 = .ok (.aload_n 0, 1) := by decide +kernel
theorem dX11_across_31 : decode cX11_across 31 = .ok (.getfield 37, 3) := by decide +kernel
theorem dX11_across_34 : decode cX11_across 34 = .ok (.iload_n 1, 1) := by decide +kernel
theorem dX11_across_35 : decode cX11_across 35 = .ok (.iaload, 1) := by decide +kernel
theorem dX11_across_36 : decode cX11_across 36 = .ok (.invokevirtual 231, 3) := by decide +kernel
theorem dX11_across_39 : decode cX11_across 39 = .ok (.invokestatic 234, 3) := by decide +kernel
theorem dX11_across_42 : decode cX11_across 42 = .ok (.ior, 1) := by decide +kernel
theorem dX11_across_43 : decode cX11_across 43 = .ok (.ireturn, 1) := by decide +kernel
theorem dX11_rowSet_0 : decode cX11_rowSet 0 = .ok (.iconst 1, 1) := by decide +kernel
theorem dX11_rowSet_1 : decode cX11_rowSet 1 = .ok (.aload_n 0, 1) := by decide +kernel
theorem dX11_rowSet_2 : decode cX11_rowSet 2 = .ok (.getfield 9, 3) := by decide +kernel
theorem dX11_rowSet_5 : decode cX11_rowSet 5 = .ok (.bipush 9, 2) := by decide +kernel
theorem dX11_rowSet_7 : decode cX11_rowSet 7 = .ok (.iload_n 1, 1) := by decide +kernel
theorem dX11_rowSet_8 : decode cX11_rowSet 8 = .ok (.iadd, 1) := by decide +kernel
theorem dX11_rowSet_9 : decode cX11_rowSet 9 = .ok (.iaload, 1) := by decide +kernel
theorem dX11_rowSet_10 : decode cX11_rowSet 10 = .ok (.ishl, 1) := by decide +kernel
theorem dX11_rowSet_11 : decode cX11_rowSet 11 = .ok (.iconst 1, 1) := by decide +kernel
theorem dX11_rowSet_12 : decode cX11_rowSet 12 = .ok (.isub, 1) := by decide +kernel
theorem dX11_rowSet_13 : decode cX11_rowSet 13 = .ok (.aload_n 0, 1) := by decide +kernel
theorem dX11_rowSet_14 : decode cX11_rowSet 14 = .ok (.getfield 40, 3) := by decide +kernel
theorem dX11_rowSet_17 : decode cX11_rowSet 17 = .ok (.iload_n 1, 1) := by decide +kernel
theorem dX11_rowSet_18 : decode cX11_rowSet 18 = .ok (.iaload, 1) := by decide +kernel
theorem dX11_rowSet_19 : decode cX11_rowSet 19 = .ok (.ishl, 1) := by decide +kernel
theorem dX11_rowSet_20 : decode cX11_rowSet 20 = .ok (.ireturn, 1) := by decide +kernel
theorem dX11_asItIs_0 : decode cX11_asItIs 0 = .ok (.aload_n 0, 1) := by decide +kernel
theorem dX11_asItIs_1 : decode cX11_asItIs 1 = .ok (.invokevirtual 243, 3) := by decide +kernel
theorem dX11_asItIs_4 : decode cX11_asItIs 4 = .ok (.aload_n 0, 1) := by decide +kernel
theorem dX11_asItIs_5 : decode cX11_asItIs 5 = .ok (.aload_n 0, 1) := by decide +kernel
theorem dX11_asItIs_6 : decode cX11_asItIs 6 = .ok (.getfield 9, 3) := by decide +kernel
theorem dX11_asItIs_9 : decode cX11_asItIs 9 = .ok (.iconst 1, 1) := by decide +kernel
theorem dX11_asItIs_10 : decode cX11_asItIs 10 = .ok (.iaload, 1) := by decide +kernel
theorem dX11_asItIs_11 : decode cX11_asItIs 11 = .ok (.putfield 261, 3) := by decide +kernel
theorem dX11_asItIs_14 : decode cX11_asItIs 14 = .ok (.aload_n 0, 1) := by decide +kernel
theorem dX11_asItIs_15 : decode cX11_asItIs 15 = .ok (.iconst 0, 1) := by decide +kernel
theorem dX11_asItIs_16 : decode cX11_asItIs 16 = .ok (.putfield 264, 3) := by decide +kernel
theorem dX11_asItIs_19 : decode cX11_asItIs 19 = .ok (.aload_n 0, 1) := by decide +kernel
theorem dX11_asItIs_20 : decode cX11_asItIs 20 = .ok (.iconst 0, 1) := by decide +kernel
theorem dX11_asItIs_21 : decode cX11_asItIs 21 = .ok (.putfield 267, 3) := by decide +kernel
theorem dX11_asItIs_24 : decode cX11_asItIs 24 = .ok (.aload_n 0, 1) := by decide +kernel
theorem dX11_asItIs_25 : decode cX11_asItIs 25 = .ok (.iconst 0, 1) := by decide +kernel
theorem dX11_asItIs_26 : decode cX11_asItIs 26 = .ok (.putfield 270, 3) := by decide +kernel
theorem dX11_asItIs_29 : decode cX11_asItIs 29 = .ok (.iconst 0, 1) := by decide +kernel
theorem dX11_asItIs_30 : decode cX11_asItIs 30 = .ok (.istore_n 1, 1) := by decide +kernel
theorem dX11_asItIs_31 : decode cX11_asItIs 31 = .ok (.iload_n 1, 1) := by decide +kernel
theorem dX11_asItIs_32 : decode cX11_asItIs 32 = .ok (.bipush 12, 2) := by decide +kernel
theorem dX11_asItIs_34 : decode cX11_asItIs 34 = .ok (.if_icmp .ge 20, 3) := by decide +kernel
theorem dX11_asItIs_37 : decode cX11_asItIs 37 = .ok (.aload_n 0, 1) := by decide +kernel
theorem dX11_asItIs_38 : decode cX11_asItIs 38 = .ok (.getfield 43, 3) := by decide +kernel
theorem dX11_asItIs_41 : decode cX11_asItIs 41 = .ok (.iload_n 1, 1) := by decide +kernel
theorem dX11_asItIs_42 : decode cX11_asItIs 42 = .ok (.aload_n 0, 1) := by decide +kernel
theorem dX11_asItIs_43 : decode cX11_asItIs 43 = .ok (.iload_n 1, 1) := by decide +kernel
theorem dX11_asItIs_44 : decode cX11_asItIs 44 = .ok (.invokevirtual 246, 3) := by decide +kernel
theorem dX11_asItIs_47 : decode cX11_asItIs 47 = .ok (.iastore, 1) := by decide +kernel
theorem dX11_asItIs_48 : decode cX11_asItIs 48 = .ok (.iinc 1 1, 3) := by decide +kernel
theorem dX11_asItIs_51 : decode cX11_asItIs 51 = .ok (.goto (-20), 3) := by decide +kernel
theorem dX11_asItIs_54 : decode cX11_asItIs 54 = .ok (.return_, 1) := by decide +kernel
theorem dX11_tellMore_0 : decode cX11_tellMore 0 = .ok (.aload_n 0, 1) := by decide +kernel
theorem dX11_tellMore_1 : decode cX11_tellMore 1 = .ok (.getfield 46, 3) := by decide +kernel
theorem dX11_tellMore_4 : decode cX11_tellMore 4 = .ok (.aload_n 0, 1) := by decide +kernel
theorem dX11_tellMore_5 : decode cX11_tellMore 5 = .ok (.getfield 267, 3) := by decide +kernel
theorem dX11_tellMore_8 : decode cX11_tellMore 8 = .ok (.iload_n 1, 1) := by decide +kernel
theorem dX11_tellMore_9 : decode cX11_tellMore 9 = .ok (.iastore, 1) := by decide +kernel
theorem dX11_tellMore_10 : decode cX11_tellMore 10 = .ok (.aload_n 0, 1) := by decide +kernel
theorem dX11_tellMore_11 : decode cX11_tellMore 11 = .ok (.getfield 49, 3) := by decide +kernel
theorem dX11_tellMore_14 : decode cX11_tellMore 14 = .ok (.aload_n 0, 1) := by decide +kernel
theorem dX11_tellMore_15 : decode cX11_tellMore 15 = .ok (.getfield 267, 3) := by decide +kernel
theorem dX11_tellMore_18 : decode cX11_tellMore 18 = .ok (.iload_n 2, 1) := by decide +kernel
theorem dX11_tellMore_19 : decode cX11_tellMore 19 = .ok (.iastore, 1) := by decide +kernel
theorem dX11_tellMore_20 : decode cX11_tellMore 20 = .ok (.aload_n 0, 1) := by decide +kernel
theorem dX11_tellMore_21 : decode cX11_tellMore 21 = .ok (.dup, 1) := by decide +kernel
theorem dX11_tellMore_22 : decode cX11_tellMore 22 = .ok (.getfield 267, 3) := by decide +kernel
theorem dX11_tellMore_25 : decode cX11_tellMore 25 = .ok (.iconst 1, 1) := by decide +kernel
theorem dX11_tellMore_26 : decode cX11_tellMore 26 = .ok (.iadd, 1) := by decide +kernel
theorem dX11_tellMore_27 : decode cX11_tellMore 27 = .ok (.putfield 267, 3) := by decide +kernel
theorem dX11_tellMore_30 : decode cX11_tellMore 30 = .ok (.return_, 1) := by decide +kernel
theorem dX11_tellSet_0 : decode cX11_tellSet 0 = .ok (.aload_n 0, 1) := by decide +kernel
theorem dX11_tellSet_1 : decode cX11_tellSet 1 = .ok (.iconst 0, 1) := by decide +kernel
theorem dX11_tellSet_2 : decode cX11_tellSet 2 = .ok (.putfield 267, 3) := by decide +kernel
theorem dX11_tellSet_5 : decode cX11_tellSet 5 = .ok (.iconst 0, 1) := by decide +kernel
theorem dX11_tellSet_6 : decode cX11_tellSet 6 = .ok (.istore_n 3, 1) := by decide +kernel
theorem dX11_tellSet_7 : decode cX11_tellSet 7 = .ok (.iload_n 3, 1) := by decide +kernel
theorem dX11_tellSet_8 : decode cX11_tellSet 8 = .ok (.aload_n 0, 1) := by decide +kernel
theorem dX11_tellSet_9 : decode cX11_tellSet 9 = .ok (.invokevirtual 95, 3) := by decide +kernel
theorem dX11_tellSet_12 : decode cX11_tellSet 12 = .ok (.if_icmp .ge 24, 3) := by decide +kernel
theorem dX11_tellSet_15 : decode cX11_tellSet 15 = .ok (.iload_n 1, 1) := by decide +kernel
theorem dX11_tellSet_16 : decode cX11_tellSet 16 = .ok (.iload_n 3, 1) := by decide +kernel
theorem dX11_tellSet_17 : decode cX11_tellSet 17 = .ok (.invokestatic 274, 3) := by decide +kernel
theorem dX11_tellSet_20 : decode cX11_tellSet 20 = .ok (.iconst 1, 1) := by decide +kernel
theorem dX11_tellSet_21 : decode cX11_tellSet 21 = .ok (.if_icmp .ne 9, 3) := by decide +kernel
theorem dX11_tellSet_24 : decode cX11_tellSet 24 = .ok (.aload_n 0, 1) := by decide +kernel
theorem dX11_tellSet_25 : decode cX11_tellSet 25 = .ok (.iload_n 3, 1) := by decide +kernel
theorem dX11_tellSet_26 : decode cX11_tellSet 26 = .ok (.iload_n 2, 1) := by decide +kernel
theorem dX11_tellSet_27 : decode cX11_tellSet 27 = .ok (.invokevirtual 277, 3) := by decide +kernel
theorem dX11_tellSet_30 : decode cX11_tellSet 30 = .ok (.iinc 3 1, 3) := by decide +kernel
theorem dX11_tellSet_33 : decode cX11_tellSet 33 = .ok (.goto (-26), 3) := by decide +kernel
theorem dX11_tellSet_36 : decode cX11_tellSet 36 = .ok (.return_, 1) := by decide +kernel
theorem dX11_isSaid_0 : decode cX11_isSaid 0 = .ok (.aload_n 0, 1) := by decide +kernel
theorem dX11_isSaid_1 : decode cX11_isSaid 1 = .ok (.getfield 281, 3) := by decide +kernel
theorem dX11_isSaid_4 : decode cX11_isSaid 4 = .ok (.iload_n 2, 1) := by decide +kernel
theorem dX11_isSaid_5 : decode cX11_isSaid 5 = .ok (.invokestatic 274, 3) := by decide +kernel
theorem dX11_isSaid_8 : decode cX11_isSaid 8 = .ok (.iconst 1, 1) := by decide +kernel
theorem dX11_isSaid_9 : decode cX11_isSaid 9 = .ok (.if_icmp .ne 4, 3) := by decide +kernel
theorem dX11_isSaid_12 : decode cX11_isSaid 12 = .ok (.return_, 1) := by decide +kernel
theorem dX11_isSaid_13 : decode cX11_isSaid 13 = .ok (.aload_n 0, 1) := by decide +kernel
theorem dX11_isSaid_14 : decode cX11_isSaid 14 = .ok (.iload_n 1, 1) := by decide +kernel
theorem dX11_isSaid_15 : decode cX11_isSaid 15 = .ok (.iconst 1, 1) := by decide +kernel
theorem dX11_isSaid_16 : decode cX11_isSaid 16 = .ok (.if_icmp .ne 14, 3) := by decide +kernel
theorem dX11_isSaid_19 : decode cX11_isSaid 19 = .ok (.aload_n 0, 1) := by decide +kernel
theorem dX11_isSaid_20 : decode cX11_isSaid 20 = .ok (.getfield 284, 3) := by decide +kernel
theorem dX11_isSaid_23 : decode cX11_isSaid 23 = .ok (.iconst 1, 1) := by decide +kernel
theorem dX11_isSaid_24 : decode cX11_isSaid 24 = .ok (.iload_n 2, 1) := by decide +kernel
theorem dX11_isSaid_25 : decode cX11_isSaid 25 = .ok (.ishl, 1) := by decide +kernel
theorem dX11_isSaid_26 : decode cX11_isSaid 26 = .ok (.ior, 1) := by decide +kernel
theorem dX11_isSaid_27 : decode cX11_isSaid 27 = .ok (.goto 13, 3) := by decide +kernel
theorem dX11_isSaid_30 : decode cX11_isSaid 30 = .ok (.aload_n 0, 1) := by decide +kernel
theorem dX11_isSaid_31 : decode cX11_isSaid 31 = .ok (.getfield 284, 3) := by decide +kernel
theorem dX11_isSaid_34 : decode cX11_isSaid 34 = .ok (.iconst 1, 1) := by decide +kernel
theorem dX11_isSaid_35 : decode cX11_isSaid 35 = .ok (.iload_n 2, 1) := by decide +kernel
theorem dX11_isSaid_36 : decode cX11_isSaid 36 = .ok (.ishl, 1) := by decide +kernel
theorem dX11_isSaid_37 : decode cX11_isSaid 37 = .ok (.iconst (-1), 1) := by decide +kernel
theorem dX11_isSaid_38 : decode cX11_isSaid 38 = .ok (.ixor, 1) := by decide +kernel
theorem dX11_isSaid_39 : decode cX11_isSaid 39 = .ok (.iand, 1) := by decide +kernel
theorem dX11_isSaid_40 : decode cX11_isSaid 40 = .ok (.putfield 284, 3) := by decide +kernel
theorem dX11_isSaid_43 : decode cX11_isSaid 43 = .ok (.aload_n 0, 1) := by decide +kernel
theorem dX11_isSaid_44 : decode cX11_isSaid 44 = .ok (.iload_n 1, 1) := by decide +kernel
theorem dX11_isSaid_45 : decode cX11_isSaid 45 = .ok (.iconst 2, 1) := by decide +kernel
theorem dX11_isSaid_46 : decode cX11_isSaid 46 = .ok (.if_icmp .ne 14, 3) := by decide +kernel
theorem dX11_isSaid_49 : decode cX11_isSaid 49 = .ok (.aload_n 0, 1) := by decide +kernel
theorem dX11_isSaid_50 : decode cX11_isSaid 50 = .ok (.getfield 287, 3) := by decide +kernel
theorem dX11_isSaid_53 : decode cX11_isSaid 53 = .ok (.iconst 1, 1) := by decide +kernel
theorem dX11_isSaid_54 : decode cX11_isSaid 54 = .ok (.iload_n 2, 1) := by decide +kernel
theorem dX11_isSaid_55 : decode cX11_isSaid 55 = .ok (.ishl, 1) := by decide +kernel
theorem dX11_isSaid_56 : decode cX11_isSaid 56 = .ok (.ior, 1) := by decide +kernel
theorem dX11_isSaid_57 : decode cX11_isSaid 57 = .ok (.goto 13, 3) := by decide +kernel
theorem dX11_isSaid_60 : decode cX11_isSaid 60 = .ok (.aload_n 0, 1) := by decide +kernel
theorem dX11_isSaid_61 : decode cX11_isSaid 61 = .ok (.getfield 287, 3) := by decide +kernel
theorem dX11_isSaid_64 : decode cX11_isSaid 64 = .ok (.iconst 1, 1) := by decide +kernel
theorem dX11_isSaid_65 : decode cX11_isSaid 65 = .ok (.iload_n 2, 1) := by decide +kernel
theorem dX11_isSaid_66 : decode cX11_isSaid 66 = .ok (.ishl, 1) := by decide +kernel
theorem dX11_isSaid_67 : decode cX11_isSaid 67 = .ok (.iconst (-1), 1) := by decide +kernel
theorem dX11_isSaid_68 : decode cX11_isSaid 68 = .ok (.ixor, 1) := by decide +kernel
theorem dX11_isSaid_69 : decode cX11_isSaid 69 = .ok (.iand, 1) := by decide +kernel
theorem dX11_isSaid_70 : decode cX11_isSaid 70 = .ok (.putfield 287, 3) := by decide +kernel
theorem dX11_isSaid_73 : decode cX11_isSaid 73 = .ok (.return_, 1) := by decide +kernel
theorem dX11_isEaten_0 : decode cX11_isEaten 0 = .ok (.aload_n 0, 1) := by decide +kernel
theorem dX11_isEaten_1 : decode cX11_isEaten 1 = .ok (.dup, 1) := by decide +kernel
theorem dX11_isEaten_2 : decode cX11_isEaten 2 = .ok (.getfield 281, 3) := by decide +kernel
theorem dX11_isEaten_5 : decode cX11_isEaten 5 = .ok (.iconst 1, 1) := by decide +kernel
theorem dX11_isEaten_6 : decode cX11_isEaten 6 = .ok (.iload_n 1, 1) := by decide +kernel
theorem dX11_isEaten_7 : decode cX11_isEaten 7 = .ok (.ishl, 1) := by decide +kernel
theorem dX11_isEaten_8 : decode cX11_isEaten 8 = .ok (.ior, 1) := by decide +kernel
theorem dX11_isEaten_9 : decode cX11_isEaten 9 = .ok (.putfield 281, 3) := by decide +kernel
theorem dX11_isEaten_12 : decode cX11_isEaten 12 = .ok (.aload_n 0, 1) := by decide +kernel
theorem dX11_isEaten_13 : decode cX11_isEaten 13 = .ok (.dup, 1) := by decide +kernel
theorem dX11_isEaten_14 : decode cX11_isEaten 14 = .ok (.getfield 284, 3) := by decide +kernel
theorem dX11_isEaten_17 : decode cX11_isEaten 17 = .ok (.aload_n 0, 1) := by decide +kernel
theorem dX11_isEaten_18 : decode cX11_isEaten 18 = .ok (.getfield 281, 3) := by decide +kernel
theorem dX11_isEaten_21 : decode cX11_isEaten 21 = .ok (.iconst (-1), 1) := by decide +kernel
theorem dX11_isEaten_22 : decode cX11_isEaten 22 = .ok (.ixor, 1) := by decide +kernel
theorem dX11_isEaten_23 : decode cX11_isEaten 23 = .ok (.iand, 1) := by decide +kernel
theorem dX11_isEaten_24 : decode cX11_isEaten 24 = .ok (.putfield 284, 3) := by decide +kernel
theorem dX11_isEaten_27 : decode cX11_isEaten 27 = .ok (.aload_n 0, 1) := by decide +kernel
theorem dX11_isEaten_28 : decode cX11_isEaten 28 = .ok (.dup, 1) := by decide +kernel
theorem dX11_isEaten_29 : decode cX11_isEaten 29 = .ok (.getfield 287, 3) := by decide +kernel
theorem dX11_isEaten_32 : decode cX11_isEaten 32 = .ok (.aload_n 0, 1) := by decide +kernel
theorem dX11_isEaten_33 : decode cX11_isEaten 33 = .ok (.getfield 281, 3) := by decide +kernel
theorem dX11_isEaten_36 : decode cX11_isEaten 36 = .ok (.iconst (-1), 1) := by decide +kernel
theorem dX11_isEaten_37 : decode cX11_isEaten 37 = .ok (.ixor, 1) := by decide +kernel
theorem dX11_isEaten_38 : decode cX11_isEaten 38 = .ok (.iand, 1) := by decide +kernel
theorem dX11_isEaten_39 : decode cX11_isEaten 39 = .ok (.putfield 287, 3) := by decide +kernel
theorem dX11_isEaten_42 : decode cX11_isEaten 42 = .ok (.return_, 1) := by decide +kernel
theorem dX11_beginHour_0 : decode cX11_beginHour 0 = .ok (.iconst 0, 1) := by decide +kernel
theorem dX11_beginHour_1 : decode cX11_beginHour 1 = .ok (.istore_n 2, 1) := by decide +kernel
theorem dX11_beginHour_2 : decode cX11_beginHour 2 = .ok (.iload_n 2, 1) := by decide +kernel
theorem dX11_beginHour_3 : decode cX11_beginHour 3 = .ok (.aload_n 0, 1) := by decide +kernel
theorem dX11_beginHour_4 : decode cX11_beginHour 4 = .ok (.getfield 9, 3) := by decide +kernel
theorem dX11_beginHour_7 : decode cX11_beginHour 7 = .ok (.iconst 5, 1) := by decide +kernel
theorem dX11_beginHour_8 : decode cX11_beginHour 8 = .ok (.iaload, 1) := by decide +kernel
theorem dX11_beginHour_9 : decode cX11_beginHour 9 = .ok (.if_icmp .ge 54, 3) := by decide +kernel
theorem dX11_beginHour_12 : decode cX11_beginHour 12 = .ok (.aload_n 0, 1) := by decide +kernel
theorem dX11_beginHour_13 : decode cX11_beginHour 13 = .ok (.getfield 9, 3) := by decide +kernel
theorem dX11_beginHour_16 : decode cX11_beginHour 16 = .ok (.bipush 37, 2) := by decide +kernel
theorem dX11_beginHour_18 : decode cX11_beginHour 18 = .ok (.iconst 3, 1) := by decide +kernel
theorem dX11_beginHour_19 : decode cX11_beginHour 19 = .ok (.iload_n 2, 1) := by decide +kernel
theorem dX11_beginHour_20 : decode cX11_beginHour 20 = .ok (.imul, 1) := by decide +kernel
theorem dX11_beginHour_21 : decode cX11_beginHour 21 = .ok (.iadd, 1) := by decide +kernel
theorem dX11_beginHour_22 : decode cX11_beginHour 22 = .ok (.iconst 2, 1) := by decide +kernel
theorem dX11_beginHour_23 : decode cX11_beginHour 23 = .ok (.iadd, 1) := by decide +kernel
theorem dX11_beginHour_24 : decode cX11_beginHour 24 = .ok (.iaload, 1) := by decide +kernel
theorem dX11_beginHour_25 : decode cX11_beginHour 25 = .ok (.iload_n 1, 1) := by decide +kernel
theorem dX11_beginHour_26 : decode cX11_beginHour 26 = .ok (.if_icmp .ne 31, 3) := by decide +kernel
theorem dX11_beginHour_29 : decode cX11_beginHour 29 = .ok (.aload_n 0, 1) := by decide +kernel
theorem dX11_beginHour_30 : decode cX11_beginHour 30 = .ok (.aload_n 0, 1) := by decide +kernel
theorem dX11_beginHour_31 : decode cX11_beginHour 31 = .ok (.getfield 9, 3) := by decide +kernel
theorem dX11_beginHour_34 : decode cX11_beginHour 34 = .ok (.bipush 37, 2) := by decide +kernel
theorem dX11_beginHour_36 : decode cX11_beginHour 36 = .ok (.iconst 3, 1) := by decide +kernel
theorem dX11_beginHour_37 : decode cX11_beginHour 37 = .ok (.iload_n 2, 1) := by decide +kernel
theorem dX11_beginHour_38 : decode cX11_beginHour 38 = .ok (.imul, 1) := by decide +kernel
theorem dX11_beginHour_39 : decode cX11_beginHour 39 = .ok (.iadd, 1) := by decide +kernel
theorem dX11_beginHour_40 : decode cX11_beginHour 40 = .ok (.iaload, 1) := by decide +kernel
theorem dX11_beginHour_41 : decode cX11_beginHour 41 = .ok (.aload_n 0, 1) := by decide +kernel
theorem dX11_beginHour_42 : decode cX11_beginHour 42 = .ok (.getfield 9, 3) := by decide +kernel
theorem dX11_beginHour_45 : decode cX11_beginHour 45 = .ok (.bipush 37, 2) := by decide +kernel
theorem dX11_beginHour_47 : decode cX11_beginHour 47 = .ok (.iconst 3, 1) := by decide +kernel
theorem dX11_beginHour_48 : decode cX11_beginHour 48 = .ok (.iload_n 2, 1) := by decide +kernel
theorem dX11_beginHour_49 : decode cX11_beginHour 49 = .ok (.imul, 1) := by decide +kernel
theorem dX11_beginHour_50 : decode cX11_beginHour 50 = .ok (.iadd, 1) := by decide +kernel
theorem dX11_beginHour_51 : decode cX11_beginHour 51 = .ok (.iconst 1, 1) := by decide +kernel
theorem dX11_beginHour_52 : decode cX11_beginHour 52 = .ok (.iadd, 1) := by decide +kernel
theorem dX11_beginHour_53 : decode cX11_beginHour 53 = .ok (.iaload, 1) := by decide +kernel
theorem dX11_beginHour_54 : decode cX11_beginHour 54 = .ok (.invokevirtual 290, 3) := by decide +kernel
theorem dX11_beginHour_57 : decode cX11_beginHour 57 = .ok (.iinc 2 1, 3) := by decide +kernel
theorem dX11_beginHour_60 : decode cX11_beginHour 60 = .ok (.goto (-58), 3) := by decide +kernel
theorem dX11_beginHour_63 : decode cX11_beginHour 63 = .ok (.iconst 0, 1) := by decide +kernel
theorem dX11_beginHour_64 : decode cX11_beginHour 64 = .ok (.istore_n 2, 1) := by decide +kernel
theorem dX11_beginHour_65 : decode cX11_beginHour 65 = .ok (.iload_n 2, 1) := by decide +kernel
theorem dX11_beginHour_66 : decode cX11_beginHour 66 = .ok (.aload_n 0, 1) := by decide +kernel
theorem dX11_beginHour_67 : decode cX11_beginHour 67 = .ok (.getfield 9, 3) := by decide +kernel
theorem dX11_beginHour_70 : decode cX11_beginHour 70 = .ok (.bipush 7, 2) := by decide +kernel
theorem dX11_beginHour_72 : decode cX11_beginHour 72 = .ok (.iaload, 1) := by decide +kernel
theorem dX11_beginHour_73 : decode cX11_beginHour 73 = .ok (.if_icmp .ge 50, 3) := by decide +kernel
theorem dX11_beginHour_76 : decode cX11_beginHour 76 = .ok (.aload_n 0, 1) := by decide +kernel
theorem dX11_beginHour_77 : decode cX11_beginHour 77 = .ok (.getfield 9, 3) := by decide +kernel
theorem dX11_beginHour_80 : decode cX11_beginHour 80 = .ok (.bipush 69, 2) := by decide +kernel
theorem dX11_beginHour_82 : decode cX11_beginHour 82 = .ok (.iload_n 2, 1) := by decide +kernel
theorem dX11_beginHour_83 : decode cX11_beginHour 83 = .ok (.iadd, 1) := by decide +kernel
theorem dX11_beginHour_84 : decode cX11_beginHour 84 = .ok (.iaload, 1) := by decide +kernel
theorem dX11_beginHour_85 : decode cX11_beginHour 85 = .ok (.istore_n 3, 1) := by decide +kernel
theorem dX11_beginHour_86 : decode cX11_beginHour 86 = .ok (.iload_n 3, 1) := by decide +kernel
theorem dX11_beginHour_87 : decode cX11_beginHour 87 = .ok (.sipush 10000, 3) := by decide +kernel
theorem dX11_beginHour_90 : decode cX11_beginHour 90 = .ok (.if_icmp .lt 27, 3) := by decide +kernel
theorem dX11_beginHour_93 : decode cX11_beginHour 93 = .ok (.iload_n 3, 1) := by decide +kernel
theorem dX11_beginHour_94 : decode cX11_beginHour 94 = .ok (.bipush 100, 2) := by decide +kernel
theorem dX11_beginHour_96 : decode cX11_beginHour 96 = .ok (.irem, 1) := by decide +kernel
theorem dX11_beginHour_97 : decode cX11_beginHour 97 = .ok (.iload_n 1, 1) := by decide +kernel
theorem dX11_beginHour_98 : decode cX11_beginHour 98 = .ok (.if_icmp .ne 19, 3) := by decide +kernel
theorem dX11_beginHour_101 : decode cX11_beginHour 101 = .ok (.aload_n 0, 1) := by decide +kernel
theorem dX11_beginHour_102 : decode cX11_beginHour 102 = .ok (.iload_n 3, 1) := by decide +kernel
theorem dX11_beginHour_103 : decode cX11_beginHour 103 = .ok (.sipush 10000, 3) := by decide +kernel
theorem dX11_beginHour_106 : decode cX11_beginHour 106 = .ok (.idiv, 1) := by decide +kernel
theorem dX11_beginHour_107 : decode cX11_beginHour 107 = .ok (.iload_n 3, 1) := by decide +kernel
theorem dX11_beginHour_108 : decode cX11_beginHour 108 = .ok (.bipush 100, 2) := by decide +kernel
theorem dX11_beginHour_110 : decode cX11_beginHour 110 = .ok (.idiv, 1) := by decide +kernel
theorem dX11_beginHour_111 : decode cX11_beginHour 111 = .ok (.bipush 100, 2) := by decide +kernel
theorem dX11_beginHour_113 : decode cX11_beginHour 113 = .ok (.irem, 1) := by decide +kernel
theorem dX11_beginHour_114 : decode cX11_beginHour 114 = .ok (.invokevirtual 290, 3) := by decide +kernel
theorem dX11_beginHour_117 : decode cX11_beginHour 117 = .ok (.iinc 2 1, 3) := by decide +kernel
theorem dX11_beginHour_120 : decode cX11_beginHour 120 = .ok (.goto (-55), 3) := by decide +kernel
theorem dX11_beginHour_123 : decode cX11_beginHour 123 = .ok (.iconst 0, 1) := by decide +kernel
theorem dX11_beginHour_124 : decode cX11_beginHour 124 = .ok (.istore_n 2, 1) := by decide +kernel
theorem dX11_beginHour_125 : decode cX11_beginHour 125 = .ok (.iload_n 2, 1) := by decide +kernel
theorem dX11_beginHour_126 : decode cX11_beginHour 126 = .ok (.aload_n 0, 1) := by decide +kernel
theorem dX11_beginHour_127 : decode cX11_beginHour 127 = .ok (.getfield 267, 3) := by decide +kernel
theorem dX11_beginHour_130 : decode cX11_beginHour 130 = .ok (.if_icmp .ge 29, 3) := by decide +kernel
theorem dX11_beginHour_133 : decode cX11_beginHour 133 = .ok (.iload_n 1, 1) := by decide +kernel
theorem dX11_beginHour_134 : decode cX11_beginHour 134 = .ok (.ifCond .ne 25, 3) := by decide +kernel
theorem dX11_beginHour_137 : decode cX11_beginHour 137 = .ok (.aload_n 0, 1) := by decide +kernel
theorem dX11_beginHour_138 : decode cX11_beginHour 138 = .ok (.aload_n 0, 1) := by decide +kernel
theorem dX11_beginHour_139 : decode cX11_beginHour 139 = .ok (.getfield 49, 3) := by decide +kernel
theorem dX11_beginHour_142 : decode cX11_beginHour 142 = .ok (.iload_n 2, 1) := by decide +kernel
theorem dX11_beginHour_143 : decode cX11_beginHour 143 = .ok (.iaload, 1) := by decide +kernel
theorem dX11_beginHour_144 : decode cX11_beginHour 144 = .ok (.aload_n 0, 1) := by decide +kernel
theorem dX11_beginHour_145 : decode cX11_beginHour 145 = .ok (.getfield 46, 3) := by decide +kernel
theorem dX11_beginHour_148 : decode cX11_beginHour 148 = .ok (.iload_n 2, 1) := by decide +kernel
theorem dX11_beginHour_149 : decode cX11_beginHour 149 = .ok (.iaload, 1) := by decide +kernel
theorem dX11_beginHour_150 : decode cX11_beginHour 150 = .ok (.invokevirtual 290, 3) := by decide +kernel
theorem dX11_beginHour_153 : decode cX11_beginHour 153 = .ok (.iinc 2 1, 3) := by decide +kernel
theorem dX11_beginHour_156 : decode cX11_beginHour 156 = .ok (.goto (-31), 3) := by decide +kernel
theorem dX11_beginHour_159 : decode cX11_beginHour 159 = .ok (.iconst 0, 1) := by decide +kernel
theorem dX11_beginHour_160 : decode cX11_beginHour 160 = .ok (.istore_n 2, 1) := by decide +kernel
theorem dX11_beginHour_161 : decode cX11_beginHour 161 = .ok (.iload_n 2, 1) := by decide +kernel
theorem dX11_beginHour_162 : decode cX11_beginHour 162 = .ok (.aload_n 0, 1) := by decide +kernel
theorem dX11_beginHour_163 : decode cX11_beginHour 163 = .ok (.getfield 9, 3) := by decide +kernel
theorem dX11_beginHour_166 : decode cX11_beginHour 166 = .ok (.bipush 6, 2) := by decide +kernel
theorem dX11_beginHour_168 : decode cX11_beginHour 168 = .ok (.iaload, 1) := by decide +kernel
theorem dX11_beginHour_169 : decode cX11_beginHour 169 = .ok (.if_icmp .ge 41, 3) := by decide +kernel
theorem dX11_beginHour_172 : decode cX11_beginHour 172 = .ok (.aload_n 0, 1) := by decide +kernel
theorem dX11_beginHour_173 : decode cX11_beginHour 173 = .ok (.getfield 9, 3) := by decide +kernel
theorem dX11_beginHour_176 : decode cX11_beginHour 176 = .ok (.bipush 61, 2) := by decide +kernel
theorem dX11_beginHour_178 : decode cX11_beginHour 178 = .ok (.iconst 2, 1) := by decide +kernel
theorem dX11_beginHour_179 : decode cX11_beginHour 179 = .ok (.iload_n 2, 1) := by decide +kernel
theorem dX11_beginHour_180 : decode cX11_beginHour 180 = .ok (.imul, 1) := by decide +kernel
theorem dX11_beginHour_181 : decode cX11_beginHour 181 = .ok (.iadd, 1) := by decide +kernel
theorem dX11_beginHour_182 : decode cX11_beginHour 182 = .ok (.iconst 1, 1) := by decide +kernel
theorem dX11_beginHour_183 : decode cX11_beginHour 183 = .ok (.iadd, 1) := by decide +kernel
theorem dX11_beginHour_184 : decode cX11_beginHour 184 = .ok (.iaload, 1) := by decide +kernel
theorem dX11_beginHour_185 : decode cX11_beginHour 185 = .ok (.iload_n 1, 1) := by decide +kernel
theorem dX11_beginHour_186 : decode cX11_beginHour 186 = .ok (.if_icmp .ne 18, 3) := by decide +kernel
theorem dX11_beginHour_189 : decode cX11_beginHour 189 = .ok (.aload_n 0, 1) := by decide +kernel
theorem dX11_beginHour_190 : decode cX11_beginHour 190 = .ok (.aload_n 0, 1) := by decide +kernel
theorem dX11_beginHour_191 : decode cX11_beginHour 191 = .ok (.getfield 9, 3) := by decide +kernel
theorem dX11_beginHour_194 : decode cX11_beginHour 194 = .ok (.bipush 61, 2) := by decide +kernel
theorem dX11_beginHour_196 : decode cX11_beginHour 196 = .ok (.iconst 2, 1) := by decide +kernel
theorem dX11_beginHour_197 : decode cX11_beginHour 197 = .ok (.iload_n 2, 1) := by decide +kernel
theorem dX11_beginHour_198 : decode cX11_beginHour 198 = .ok (.imul, 1) := by decide +kernel
theorem dX11_beginHour_199 : decode cX11_beginHour 199 = .ok (.iadd, 1) := by decide +kernel
theorem dX11_beginHour_200 : decode cX11_beginHour 200 = .ok (.iaload, 1) := by decide +kernel
theorem dX11_beginHour_201 : decode cX11_beginHour 201 = .ok (.invokevirtual 293, 3) := by decide +kernel
theorem dX11_beginHour_204 : decode cX11_beginHour 204 = .ok (.iinc 2 1, 3) := by decide +kernel
theorem dX11_beginHour_207 : decode cX11_beginHour 207 = .ok (.goto (-46), 3) := by decide +kernel
theorem dX11_beginHour_210 : decode cX11_beginHour 210 = .ok (.iconst 0, 1) := by decide +kernel
theorem dX11_beginHour_211 : decode cX11_beginHour 211 = .ok (.istore_n 2, 1) := by decide +kernel
theorem dX11_beginHour_212 : decode cX11_beginHour 212 = .ok (.iload_n 2, 1) := by decide +kernel
theorem dX11_beginHour_213 : decode cX11_beginHour 213 = .ok (.aload_n 0, 1) := by decide +kernel
theorem dX11_beginHour_214 : decode cX11_beginHour 214 = .ok (.getfield 9, 3) := by decide +kernel
theorem dX11_beginHour_217 : decode cX11_beginHour 217 = .ok (.bipush 7, 2) := by decide +kernel
theorem dX11_beginHour_219 : decode cX11_beginHour 219 = .ok (.iaload, 1) := by decide +kernel
theorem dX11_beginHour_220 : decode cX11_beginHour 220 = .ok (.if_icmp .ge 42, 3) := by decide +kernel
theorem dX11_beginHour_223 : decode cX11_beginHour 223 = .ok (.aload_n 0, 1) := by decide +kernel
theorem dX11_beginHour_224 : decode cX11_beginHour 224 = .ok (.getfield 9, 3) := by decide +kernel
theorem dX11_beginHour_227 : decode cX11_beginHour 227 = .ok (.bipush 69, 2) := by decide +kernel
theorem dX11_beginHour_229 : decode cX11_beginHour 229 = .ok (.iload_n 2, 1) := by decide +kernel
theorem dX11_beginHour_230 : decode cX11_beginHour 230 = .ok (.iadd, 1) := by decide +kernel
theorem dX11_beginHour_231 : decode cX11_beginHour 231 = .ok (.iaload, 1) := by decide +kernel
theorem dX11_beginHour_232 : decode cX11_beginHour 232 = .ok (.istore_n 3, 1) := by decide +kernel
theorem dX11_beginHour_233 : decode cX11_beginHour 233 = .ok (.iload_n 3, 1) := by decide +kernel
theorem dX11_beginHour_234 : decode cX11_beginHour 234 = .ok (.sipush 10000, 3) := by decide +kernel
theorem dX11_beginHour_237 : decode cX11_beginHour 237 = .ok (.if_icmp .ge 19, 3) := by decide +kernel
theorem dX11_beginHour_240 : decode cX11_beginHour 240 = .ok (.iload_n 3, 1) := by decide +kernel
theorem dX11_beginHour_241 : decode cX11_beginHour 241 = .ok (.bipush 100, 2) := by decide +kernel
theorem dX11_beginHour_243 : decode cX11_beginHour 243 = .ok (.irem, 1) := by decide +kernel
theorem dX11_beginHour_244 : decode cX11_beginHour 244 = .ok (.iload_n 1, 1) := by decide +kernel
theorem dX11_beginHour_245 : decode cX11_beginHour 245 = .ok (.if_icmp .ne 11, 3) := by decide +kernel
theorem dX11_beginHour_248 : decode cX11_beginHour 248 = .ok (.aload_n 0, 1) := by decide +kernel
theorem dX11_beginHour_249 : decode cX11_beginHour 249 = .ok (.iload_n 3, 1) := by decide +kernel
theorem dX11_beginHour_250 : decode cX11_beginHour 250 = .ok (.bipush 100, 2) := by decide +kernel
theorem dX11_beginHour_252 : decode cX11_beginHour 252 = .ok (.idiv, 1) := by decide +kernel
theorem dX11_beginHour_253 : decode cX11_beginHour 253 = .ok (.invokevirtual 293, 3) := by decide +kernel
theorem dX11_beginHour_256 : decode cX11_beginHour 256 = .ok (.iinc 2 1, 3) := by decide +kernel
theorem dX11_beginHour_259 : decode cX11_beginHour 259 = .ok (.goto (-47), 3) := by decide +kernel
theorem dX11_beginHour_262 : decode cX11_beginHour 262 = .ok (.return_, 1) := by decide +kernel
theorem dX11_pullOf_0 : decode cX11_pullOf 0 = .ok (.aload_n 0, 1) := by decide +kernel
theorem dX11_pullOf_1 : decode cX11_pullOf 1 = .ok (.iload_n 1, 1) := by decide +kernel
theorem dX11_pullOf_2 : decode cX11_pullOf 2 = .ok (.invokevirtual 252, 3) := by decide +kernel
theorem dX11_pullOf_5 : decode cX11_pullOf 5 = .ok (.iload_n 2, 1) := by decide +kernel
theorem dX11_pullOf_6 : decode cX11_pullOf 6 = .ok (.iand, 1) := by decide +kernel
theorem dX11_pullOf_7 : decode cX11_pullOf 7 = .ok (.invokestatic 296, 3) := by decide +kernel
theorem dX11_pullOf_10 : decode cX11_pullOf 10 = .ok (.aload_n 0, 1) := by decide +kernel
theorem dX11_pullOf_11 : decode cX11_pullOf 11 = .ok (.iload_n 1, 1) := by decide +kernel
theorem dX11_pullOf_12 : decode cX11_pullOf 12 = .ok (.invokevirtual 252, 3) := by decide +kernel
theorem dX11_pullOf_15 : decode cX11_pullOf 15 = .ok (.iload_n 3, 1) := by decide +kernel
theorem dX11_pullOf_16 : decode cX11_pullOf 16 = .ok (.iand, 1) := by decide +kernel
theorem dX11_pullOf_17 : decode cX11_pullOf 17 = .ok (.invokestatic 296, 3) := by decide +kernel
theorem dX11_pullOf_20 : decode cX11_pullOf 20 = .ok (.isub, 1) := by decide +kernel
theorem dX11_pullOf_21 : decode cX11_pullOf 21 = .ok (.istore 4, 2) := by decide +kernel
theorem dX11_pullOf_23 : decode cX11_pullOf 23 = .ok (.aload_n 0, 1) := by decide +kernel
theorem dX11_pullOf_24 : decode cX11_pullOf 24 = .ok (.iload_n 1, 1) := by decide +kernel
theorem dX11_pullOf_25 : decode cX11_pullOf 25 = .ok (.invokevirtual 255, 3) := by decide +kernel
theorem dX11_pullOf_28 : decode cX11_pullOf 28 = .ok (.iload_n 2, 1) := by decide +kernel
theorem dX11_pullOf_29 : decode cX11_pullOf 29 = .ok (.iand, 1) := by decide +kernel
theorem dX11_pullOf_30 : decode cX11_pullOf 30 = .ok (.invokestatic 296, 3) := by decide +kernel
theorem dX11_pullOf_33 : decode cX11_pullOf 33 = .ok (.aload_n 0, 1) := by decide +kernel
theorem dX11_pullOf_34 : decode cX11_pullOf 34 = .ok (.iload_n 1, 1) := by decide +kernel
theorem dX11_pullOf_35 : decode cX11_pullOf 35 = .ok (.invokevirtual 255, 3) := by decide +kernel
theorem dX11_pullOf_38 : decode cX11_pullOf 38 = .ok (.iload_n 3, 1) := by decide +kernel
theorem dX11_pullOf_39 : decode cX11_pullOf 39 = .ok (.iand, 1) := by decide +kernel
theorem dX11_pullOf_40 : decode cX11_pullOf 40 = .ok (.invokestatic 296, 3) := by decide +kernel
theorem dX11_pullOf_43 : decode cX11_pullOf 43 = .ok (.isub, 1) := by decide +kernel
theorem dX11_pullOf_44 : decode cX11_pullOf 44 = .ok (.istore 5, 2) := by decide +kernel
theorem dX11_pullOf_46 : decode cX11_pullOf 46 = .ok (.aload_n 0, 1) := by decide +kernel
theorem dX11_pullOf_47 : decode cX11_pullOf 47 = .ok (.getfield 261, 3) := by decide +kernel
theorem dX11_pullOf_50 : decode cX11_pullOf 50 = .ok (.iconst 3, 1) := by decide +kernel
theorem dX11_pullOf_51 : decode cX11_pullOf 51 = .ok (.if_icmp .ne 17, 3) := by decide +kernel
theorem dX11_pullOf_54 : decode cX11_pullOf 54 = .ok (.iload_n 2, 1) := by decide +kernel
theorem dX11_pullOf_55 : decode cX11_pullOf 55 = .ok (.iload_n 1, 1) := by decide +kernel
theorem dX11_pullOf_56 : decode cX11_pullOf 56 = .ok (.invokestatic 274, 3) := by decide +kernel
theorem dX11_pullOf_59 : decode cX11_pullOf 59 = .ok (.iload_n 3, 1) := by decide +kernel
theorem dX11_pullOf_60 : decode cX11_pullOf 60 = .ok (.iload_n 1, 1) := by decide +kernel
theorem dX11_pullOf_61 : decode cX11_pullOf 61 = .ok (.invokestatic 274, 3) := by decide +kernel
theorem dX11_pullOf_64 : decode cX11_pullOf 64 = .ok (.isub, 1) := by decide +kernel
theorem dX11_pullOf_65 : decode cX11_pullOf 65 = .ok (.goto 4, 3) := by decide +kernel
theorem dX11_pullOf_68 : decode cX11_pullOf 68 = .ok (.iconst 0, 1) := by decide +kernel
theorem dX11_pullOf_69 : decode cX11_pullOf 69 = .ok (.istore 6, 2) := by decide +kernel
theorem dX11_pullOf_71 : decode cX11_pullOf 71 = .ok (.aload_n 0, 1) := by decide +kernel
theorem dX11_pullOf_72 : decode cX11_pullOf 72 = .ok (.getfield 261, 3) := by decide +kernel
theorem dX11_pullOf_75 : decode cX11_pullOf 75 = .ok (.iconst 1, 1) := by decide +kernel
theorem dX11_pullOf_76 : decode cX11_pullOf 76 = .ok (.if_icmp .ne 10, 3) := by decide +kernel
theorem dX11_pullOf_79 : decode cX11_pullOf 79 = .ok (.iconst 2, 1) := by decide +kernel
theorem dX11_pullOf_80 : decode cX11_pullOf 80 = .ok (.iload 4, 2) := by decide +kernel
theorem dX11_pullOf_82 : decode cX11_pullOf 82 = .ok (.imul, 1) := by decide +kernel
theorem dX11_pullOf_83 : decode cX11_pullOf 83 = .ok (.goto 5, 3) := by decide +kernel
theorem dX11_pullOf_86 : decode cX11_pullOf 86 = .ok (.iload 4, 2) := by decide +kernel
theorem dX11_pullOf_88 : decode cX11_pullOf 88 = .ok (.iload 5, 2) := by decide +kernel
theorem dX11_pullOf_90 : decode cX11_pullOf 90 = .ok (.iadd, 1) := by decide +kernel
theorem dX11_pullOf_91 : decode cX11_pullOf 91 = .ok (.iload 6, 2) := by decide +kernel
theorem dX11_pullOf_93 : decode cX11_pullOf 93 = .ok (.iadd, 1) := by decide +kernel
theorem dX11_pullOf_94 : decode cX11_pullOf 94 = .ok (.ireturn, 1) := by decide +kernel
theorem dX11_passOn_0 : decode cX11_passOn 0 = .ok (.aload_n 0, 1) := by decide +kernel
theorem dX11_passOn_1 : decode cX11_passOn 1 = .ok (.getfield 284, 3) := by decide +kernel
theorem dX11_passOn_4 : decode cX11_passOn 4 = .ok (.istore_n 2, 1) := by decide +kernel
theorem dX11_passOn_5 : decode cX11_passOn 5 = .ok (.aload_n 0, 1) := by decide +kernel
theorem dX11_passOn_6 : decode cX11_passOn 6 = .ok (.getfield 287, 3) := by decide +kernel
theorem dX11_passOn_9 : decode cX11_passOn 9 = .ok (.istore_n 3, 1) := by decide +kernel
theorem dX11_passOn_10 : decode cX11_passOn 10 = .ok (.iconst 0, 1) := by decide +kernel
theorem dX11_passOn_11 : decode cX11_passOn 11 = .ok (.istore 4, 2) := by decide +kernel
theorem dX11_passOn_13 : decode cX11_passOn 13 = .ok (.iload 4, 2) := by decide +kernel
theorem dX11_passOn_15 : decode cX11_passOn 15 = .ok (.aload_n 0, 1) := by decide +kernel
theorem dX11_passOn_16 : decode cX11_passOn 16 = .ok (.invokevirtual 95, 3) := by decide +kernel
theorem dX11_passOn_19 : decode cX11_passOn 19 = .ok (.if_icmp .ge 165, 3) := by decide +kernel
theorem dX11_passOn_22 : decode cX11_passOn 22 = .ok (.aload_n 0, 1) := by decide +kernel
theorem dX11_passOn_23 : decode cX11_passOn 23 = .ok (.getfield 281, 3) := by decide +kernel
theorem dX11_passOn_26 : decode cX11_passOn 26 = .ok (.iload 4, 2) := by decide +kernel
theorem dX11_passOn_28 : decode cX11_passOn 28 = .ok (.invokestatic 274, 3) := by decide +kernel
theorem dX11_passOn_31 : decode cX11_passOn 31 = .ok (.ifCond .ne 49, 3) := by decide +kernel
theorem dX11_passOn_34 : decode cX11_passOn 34 = .ok (.aload_n 0, 1) := by decide +kernel
theorem dX11_passOn_35 : decode cX11_passOn 35 = .ok (.getfield 270, 3) := by decide +kernel
theorem dX11_passOn_38 : decode cX11_passOn 38 = .ok (.ifCond .ne 13, 3) := by decide +kernel
theorem dX11_passOn_41 : decode cX11_passOn 41 = .ok (.iload_n 1, 1) := by decide +kernel
theorem dX11_passOn_42 : decode cX11_passOn 42 = .ok (.aload_n 0, 1) := by decide +kernel
theorem dX11_passOn_43 : decode cX11_passOn 43 = .ok (.iload 4, 2) := by decide +kernel
theorem dX11_passOn_45 : decode cX11_passOn 45 = .ok (.invokevirtual 249, 3) := by decide +kernel
theorem dX11_passOn_48 : decode cX11_passOn 48 = .ok (.if_icmp .lt 32, 3) := by decide +kernel
theorem dX11_passOn_51 : decode cX11_passOn 51 = .ok (.aload_n 0, 1) := by decide +kernel
theorem dX11_passOn_52 : decode cX11_passOn 52 = .ok (.getfield 261, 3) := by decide +kernel
theorem dX11_passOn_55 : decode cX11_passOn 55 = .ok (.iconst 2, 1) := by decide +kernel
theorem dX11_passOn_56 : decode cX11_passOn 56 = .ok (.if_icmp .ne 20, 3) := by decide +kernel
theorem dX11_passOn_59 : decode cX11_passOn 59 = .ok (.aload_n 0, 1) := by decide +kernel
theorem dX11_passOn_60 : decode cX11_passOn 60 = .ok (.getfield 284, 3) := by decide +kernel
theorem dX11_passOn_63 : decode cX11_passOn 63 = .ok (.aload_n 0, 1) := by decide +kernel
theorem dX11_passOn_64 : decode cX11_passOn 64 = .ok (.getfield 287, 3) := by decide +kernel
theorem dX11_passOn_67 : decode cX11_passOn 67 = .ok (.ior, 1) := by decide +kernel
theorem dX11_passOn_68 : decode cX11_passOn 68 = .ok (.iload 4, 2) := by decide +kernel
theorem dX11_passOn_70 : decode cX11_passOn 70 = .ok (.invokestatic 274, 3) := by decide +kernel
theorem dX11_passOn_73 : decode cX11_passOn 73 = .ok (.ifCond .ne 7, 3) := by decide +kernel
theorem dX11_passOn_76 : decode cX11_passOn 76 = .ok (.iconst 1, 1) := by decide +kernel
theorem dX11_passOn_77 : decode cX11_passOn 77 = .ok (.goto 4, 3) := by decide +kernel
theorem dX11_passOn_80 : decode cX11_passOn 80 = .ok (.iconst 0, 1) := by decide +kernel
theorem dX11_passOn_81 : decode cX11_passOn 81 = .ok (.istore 5, 2) := by decide +kernel
theorem dX11_passOn_83 : decode cX11_passOn 83 = .ok (.aload_n 0, 1) := by decide +kernel
theorem dX11_passOn_84 : decode cX11_passOn 84 = .ok (.iload 4, 2) := by decide +kernel
theorem dX11_passOn_86 : decode cX11_passOn 86 = .ok (.aload_n 0, 1) := by decide +kernel
theorem dX11_passOn_87 : decode cX11_passOn 87 = .ok (.getfield 284, 3) := by decide +kernel
theorem dX11_passOn_90 : decode cX11_passOn 90 = .ok (.aload_n 0, 1) := by decide +kernel
theorem dX11_passOn_91 : decode cX11_passOn 91 = .ok (.getfield 287, 3) := by decide +kernel
theorem dX11_passOn_94 : decode cX11_passOn 94 = .ok (.invokevirtual 299, 3) := by decide +kernel
theorem dX11_passOn_97 : decode cX11_passOn 97 = .ok (.istore 6, 2) := by decide +kernel
theorem dX11_passOn_99 : decode cX11_passOn 99 = .ok (.iload 5, 2) := by decide +kernel
theorem dX11_passOn_101 : decode cX11_passOn 101 = .ok (.ifCond .eq 77, 3) := by decide +kernel
theorem dX11_passOn_104 : decode cX11_passOn 104 = .ok (.iload 6, 2) := by decide +kernel
theorem dX11_passOn_106 : decode cX11_passOn 106 = .ok (.aload_n 0, 1) := by decide +kernel
theorem dX11_passOn_107 : decode cX11_passOn 107 = .ok (.getfield 43, 3) := by decide +kernel
theorem dX11_passOn_110 : decode cX11_passOn 110 = .ok (.iload 4, 2) := by decide +kernel
theorem dX11_passOn_112 : decode cX11_passOn 112 = .ok (.iaload, 1) := by decide +kernel
theorem dX11_passOn_113 : decode cX11_passOn 113 = .ok (.if_icmp .ge 19, 3) := by decide +kernel
theorem dX11_passOn_116 : decode cX11_passOn 116 = .ok (.iload 6, 2) := by decide +kernel
theorem dX11_passOn_118 : decode cX11_passOn 118 = .ok (.ineg, 1) := by decide +kernel
theorem dX11_passOn_119 : decode cX11_passOn 119 = .ok (.aload_n 0, 1) := by decide +kernel
theorem dX11_passOn_120 : decode cX11_passOn 120 = .ok (.getfield 43, 3) := by decide +kernel
theorem dX11_passOn_123 : decode cX11_passOn 123 = .ok (.iload 4, 2) := by decide +kernel
theorem dX11_passOn_125 : decode cX11_passOn 125 = .ok (.iaload, 1) := by decide +kernel
theorem dX11_passOn_126 : decode cX11_passOn 126 = .ok (.if_icmp .ge 6, 3) := by decide +kernel
theorem dX11_passOn_129 : decode cX11_passOn 129 = .ok (.goto 49, 3) := by decide +kernel
theorem dX11_passOn_132 : decode cX11_passOn 132 = .ok (.iload 6, 2) := by decide +kernel
theorem dX11_passOn_134 : decode cX11_passOn 134 = .ok (.ifCond .le 12, 3) := by decide +kernel
theorem dX11_passOn_137 : decode cX11_passOn 137 = .ok (.iload_n 2, 1) := by decide +kernel
theorem dX11_passOn_138 : decode cX11_passOn 138 = .ok (.iconst 1, 1) := by decide +kernel
theorem dX11_passOn_139 : decode cX11_passOn 139 = .ok (.iload 4, 2) := by decide +kernel
theorem dX11_passOn_141 : decode cX11_passOn 141 = .ok (.ishl, 1) := by decide +kernel
theorem dX11_passOn_142 : decode cX11_passOn 142 = .ok (.ior, 1) := by decide +kernel
theorem dX11_passOn_143 : decode cX11_passOn 143 = .ok (.goto 11, 3) := by decide +kernel
theorem dX11_passOn_146 : decode cX11_passOn 146 = .ok (.iload_n 2, 1) := by decide +kernel
theorem dX11_passOn_147 : decode cX11_passOn 147 = .ok (.iconst 1, 1) := by decide +kernel
theorem dX11_passOn_148 : decode cX11_passOn 148 = .ok (.iload 4, 2) := by decide +kernel
theorem dX11_passOn_150 : decode cX11_passOn 150 = .ok (.ishl, 1) := by decide +kernel
theorem dX11_passOn_151 : decode cX11_passOn 151 = .ok (.iconst (-1), 1) := by decide +kernel
theorem dX11_passOn_152 : decode cX11_passOn 152 = .ok (.ixor, 1) := by decide +kernel
theorem dX11_passOn_153 : decode cX11_passOn 153 = .ok (.iand, 1) := by decide +kernel
theorem dX11_passOn_154 : decode cX11_passOn 154 = .ok (.istore_n 2, 1) := by decide +kernel
theorem dX11_passOn_155 : decode cX11_passOn 155 = .ok (.iload 6, 2) := by decide +kernel
theorem dX11_passOn_157 : decode cX11_passOn 157 = .ok (.ifCond .ge 12, 3) := by decide +kernel
theorem dX11_passOn_160 : decode cX11_passOn 160 = .ok (.iload_n 3, 1) := by decide +kernel
theorem dX11_passOn_161 : decode cX11_passOn 161 = .ok (.iconst 1, 1) := by decide +kernel
theorem dX11_passOn_162 : decode cX11_passOn 162 = .ok (.iload 4, 2) := by decide +kernel
theorem dX11_passOn_164 : decode cX11_passOn 164 = .ok (.ishl, 1) := by decide +kernel
theorem dX11_passOn_165 : decode cX11_passOn 165 = .ok (.ior, 1) := by decide +kernel
theorem dX11_passOn_166 : decode cX11_passOn 166 = .ok (.goto 11, 3) := by decide +kernel
theorem dX11_passOn_169 : decode cX11_passOn 169 = .ok (.iload_n 3, 1) := by decide +kernel
theorem dX11_passOn_170 : decode cX11_passOn 170 = .ok (.iconst 1, 1) := by decide +kernel
theorem dX11_passOn_171 : decode cX11_passOn 171 = .ok (.iload 4, 2) := by decide +kernel
theorem dX11_passOn_173 : decode cX11_passOn 173 = .ok (.ishl, 1) := by decide +kernel
theorem dX11_passOn_174 : decode cX11_passOn 174 = .ok (.iconst (-1), 1) := by decide +kernel
theorem dX11_passOn_175 : decode cX11_passOn 175 = .ok (.ixor, 1) := by decide +kernel
theorem dX11_passOn_176 : decode cX11_passOn 176 = .ok (.iand, 1) := by decide +kernel
theorem dX11_passOn_177 : decode cX11_passOn 177 = .ok (.istore_n 3, 1) := by decide +kernel
theorem dX11_passOn_178 : decode cX11_passOn 178 = .ok (.iinc 4 1, 3) := by decide +kernel
theorem dX11_passOn_181 : decode cX11_passOn 181 = .ok (.goto (-168), 3) := by decide +kernel
theorem dX11_passOn_184 : decode cX11_passOn 184 = .ok (.aload_n 0, 1) := by decide +kernel
theorem dX11_passOn_185 : decode cX11_passOn 185 = .ok (.iload_n 2, 1) := by decide +kernel
theorem dX11_passOn_186 : decode cX11_passOn 186 = .ok (.putfield 284, 3) := by decide +kernel
theorem dX11_passOn_189 : decode cX11_passOn 189 = .ok (.aload_n 0, 1) := by decide +kernel
theorem dX11_passOn_190 : decode cX11_passOn 190 = .ok (.iload_n 3, 1) := by decide +kernel
theorem dX11_passOn_191 : decode cX11_passOn 191 = .ok (.putfield 287, 3) := by decide +kernel
theorem dX11_passOn_194 : decode cX11_passOn 194 = .ok (.return_, 1) := by decide +kernel
theorem dX11_goAll_0 : decode cX11_goAll 0 = .ok (.aload_n 0, 1) := by decide +kernel
theorem dX11_goAll_1 : decode cX11_goAll 1 = .ok (.iconst 0, 1) := by decide +kernel
theorem dX11_goAll_2 : decode cX11_goAll 2 = .ok (.putfield 284, 3) := by decide +kernel
theorem dX11_goAll_5 : decode cX11_goAll 5 = .ok (.aload_n 0, 1) := by decide +kernel
theorem dX11_goAll_6 : decode cX11_goAll 6 = .ok (.iconst 0, 1) := by decide +kernel
theorem dX11_goAll_7 : decode cX11_goAll 7 = .ok (.putfield 287, 3) := by decide +kernel
theorem dX11_goAll_10 : decode cX11_goAll 10 = .ok (.aload_n 0, 1) := by decide +kernel
theorem dX11_goAll_11 : decode cX11_goAll 11 = .ok (.iconst 0, 1) := by decide +kernel
theorem dX11_goAll_12 : decode cX11_goAll 12 = .ok (.putfield 281, 3) := by decide +kernel
theorem dX11_goAll_15 : decode cX11_goAll 15 = .ok (.iconst 0, 1) := by decide +kernel
theorem dX11_goAll_16 : decode cX11_goAll 16 = .ok (.istore_n 1, 1) := by decide +kernel
theorem dX11_goAll_17 : decode cX11_goAll 17 = .ok (.iload_n 1, 1) := by decide +kernel
theorem dX11_goAll_18 : decode cX11_goAll 18 = .ok (.aload_n 0, 1) := by decide +kernel
theorem dX11_goAll_19 : decode cX11_goAll 19 = .ok (.invokevirtual 103, 3) := by decide +kernel
theorem dX11_goAll_22 : decode cX11_goAll 22 = .ok (.if_icmp .gt 60, 3) := by decide +kernel
theorem dX11_goAll_25 : decode cX11_goAll 25 = .ok (.aload_n 0, 1) := by decide +kernel
theorem dX11_goAll_26 : decode cX11_goAll 26 = .ok (.iload_n 1, 1) := by decide +kernel
theorem dX11_goAll_27 : decode cX11_goAll 27 = .ok (.invokevirtual 303, 3) := by decide +kernel
theorem dX11_goAll_30 : decode cX11_goAll 30 = .ok (.aload_n 0, 1) := by decide +kernel
theorem dX11_goAll_31 : decode cX11_goAll 31 = .ok (.getfield 52, 3) := by decide +kernel
theorem dX11_goAll_34 : decode cX11_goAll 34 = .ok (.iload_n 1, 1) := by decide +kernel
theorem dX11_goAll_35 : decode cX11_goAll 35 = .ok (.aload_n 0, 1) := by decide +kernel
theorem dX11_goAll_36 : decode cX11_goAll 36 = .ok (.getfield 284, 3) := by decide +kernel
theorem dX11_goAll_39 : decode cX11_goAll 39 = .ok (.iastore, 1) := by decide +kernel
theorem dX11_goAll_40 : decode cX11_goAll 40 = .ok (.aload_n 0, 1) := by decide +kernel
theorem dX11_goAll_41 : decode cX11_goAll 41 = .ok (.getfield 55, 3) := by decide +kernel
theorem dX11_goAll_44 : decode cX11_goAll 44 = .ok (.iload_n 1, 1) := by decide +kernel
theorem dX11_goAll_45 : decode cX11_goAll 45 = .ok (.aload_n 0, 1) := by decide +kernel
theorem dX11_goAll_46 : decode cX11_goAll 46 = .ok (.getfield 287, 3) := by decide +kernel
theorem dX11_goAll_49 : decode cX11_goAll 49 = .ok (.iastore, 1) := by decide +kernel
theorem dX11_goAll_50 : decode cX11_goAll 50 = .ok (.aload_n 0, 1) := by decide +kernel
theorem dX11_goAll_51 : decode cX11_goAll 51 = .ok (.getfield 58, 3) := by decide +kernel
theorem dX11_goAll_54 : decode cX11_goAll 54 = .ok (.iload_n 1, 1) := by decide +kernel
theorem dX11_goAll_55 : decode cX11_goAll 55 = .ok (.aload_n 0, 1) := by decide +kernel
theorem dX11_goAll_56 : decode cX11_goAll 56 = .ok (.getfield 281, 3) := by decide +kernel
theorem dX11_goAll_59 : decode cX11_goAll 59 = .ok (.iastore, 1) := by decide +kernel
theorem dX11_goAll_60 : decode cX11_goAll 60 = .ok (.aload_n 0, 1) := by decide +kernel
theorem dX11_goAll_61 : decode cX11_goAll 61 = .ok (.getfield 264, 3) := by decide +kernel
theorem dX11_goAll_64 : decode cX11_goAll 64 = .ok (.iload_n 1, 1) := by decide +kernel
theorem dX11_goAll_65 : decode cX11_goAll 65 = .ok (.invokestatic 274, 3) := by decide +kernel
theorem dX11_goAll_68 : decode cX11_goAll 68 = .ok (.ifCond .ne 8, 3) := by decide +kernel
theorem dX11_goAll_71 : decode cX11_goAll 71 = .ok (.aload_n 0, 1) := by decide +kernel
theorem dX11_goAll_72 : decode cX11_goAll 72 = .ok (.iload_n 1, 1) := by decide +kernel
theorem dX11_goAll_73 : decode cX11_goAll 73 = .ok (.invokevirtual 306, 3) := by decide +kernel
theorem dX11_goAll_76 : decode cX11_goAll 76 = .ok (.iinc 1 1, 3) := by decide +kernel
theorem dX11_goAll_79 : decode cX11_goAll 79 = .ok (.goto (-62), 3) := by decide +kernel
theorem dX11_goAll_82 : decode cX11_goAll 82 = .ok (.return_, 1) := by decide +kernel
theorem dX11_asksGarden_0 : decode cX11_asksGarden 0 = .ok (.aload_n 0, 1) := by decide +kernel
theorem dX11_asksGarden_1 : decode cX11_asksGarden 1 = .ok (.invokevirtual 309, 3) := by decide +kernel
theorem dX11_asksGarden_4 : decode cX11_asksGarden 4 = .ok (.aload_n 0, 1) := by decide +kernel
theorem dX11_asksGarden_5 : decode cX11_asksGarden 5 = .ok (.invokevirtual 312, 3) := by decide +kernel
theorem dX11_asksGarden_8 : decode cX11_asksGarden 8 = .ok (.aload_n 0, 1) := by decide +kernel
theorem dX11_asksGarden_9 : decode cX11_asksGarden 9 = .ok (.invokevirtual 99, 3) := by decide +kernel
theorem dX11_asksGarden_12 : decode cX11_asksGarden 12 = .ok (.ireturn, 1) := by decide +kernel
theorem dX11_asksHour_0 : decode cX11_asksHour 0 = .ok (.aload_n 0, 1) := by decide +kernel
theorem dX11_asksHour_1 : decode cX11_asksHour 1 = .ok (.invokevirtual 315, 3) := by decide +kernel
theorem dX11_asksHour_4 : decode cX11_asksHour 4 = .ok (.pop, 1) := by decide +kernel
theorem dX11_asksHour_5 : decode cX11_asksHour 5 = .ok (.aload_n 0, 1) := by decide +kernel
theorem dX11_asksHour_6 : decode cX11_asksHour 6 = .ok (.iload_n 1, 1) := by decide +kernel
theorem dX11_asksHour_7 : decode cX11_asksHour 7 = .ok (.i2l, 1) := by decide +kernel
theorem dX11_asksHour_8 : decode cX11_asksHour 8 = .ok (.invokevirtual 318, 3) := by decide +kernel
theorem dX11_asksHour_11 : decode cX11_asksHour 11 = .ok (.ireturn, 1) := by decide +kernel
theorem dX11_asksHead_0 : decode cX11_asksHead 0 = .ok (.aload_n 0, 1) := by decide +kernel
theorem dX11_asksHead_1 : decode cX11_asksHead 1 = .ok (.invokevirtual 315, 3) := by decide +kernel
theorem dX11_asksHead_4 : decode cX11_asksHead 4 = .ok (.pop, 1) := by decide +kernel
theorem dX11_asksHead_5 : decode cX11_asksHead 5 = .ok (.aload_n 0, 1) := by decide +kernel
theorem dX11_asksHead_6 : decode cX11_asksHead 6 = .ok (.iload_n 1, 1) := by decide +kernel
theorem dX11_asksHead_7 : decode cX11_asksHead 7 = .ok (.i2l, 1) := by decide +kernel
theorem dX11_asksHead_8 : decode cX11_asksHead 8 = .ok (.invokevirtual 237, 3) := by decide +kernel
theorem dX11_asksHead_11 : decode cX11_asksHead 11 = .ok (.ireturn, 1) := by decide +kernel
theorem dX11_viewOf_0 : decode cX11_viewOf 0 = .ok (.aload_n 0, 1) := by decide +kernel
theorem dX11_viewOf_1 : decode cX11_viewOf 1 = .ok (.getfield 52, 3) := by decide +kernel
theorem dX11_viewOf_4 : decode cX11_viewOf 4 = .ok (.iload_n 2, 1) := by decide +kernel
theorem dX11_viewOf_5 : decode cX11_viewOf 5 = .ok (.iaload, 1) := by decide +kernel
theorem dX11_viewOf_6 : decode cX11_viewOf 6 = .ok (.iload_n 1, 1) := by decide +kernel
theorem dX11_viewOf_7 : decode cX11_viewOf 7 = .ok (.invokestatic 274, 3) := by decide +kernel
theorem dX11_viewOf_10 : decode cX11_viewOf 10 = .ok (.iconst 2, 1) := by decide +kernel
theorem dX11_viewOf_11 : decode cX11_viewOf 11 = .ok (.aload_n 0, 1) := by decide +kernel
theorem dX11_viewOf_12 : decode cX11_viewOf 12 = .ok (.getfield 55, 3) := by decide +kernel
theorem dX11_viewOf_15 : decode cX11_viewOf 15 = .ok (.iload_n 2, 1) := by decide +kernel
theorem dX11_viewOf_16 : decode cX11_viewOf 16 = .ok (.iaload, 1) := by decide +kernel
theorem dX11_viewOf_17 : decode cX11_viewOf 17 = .ok (.iload_n 1, 1) := by decide +kernel
theorem dX11_viewOf_18 : decode cX11_viewOf 18 = .ok (.invokestatic 274, 3) := by decide +kernel
theorem dX11_viewOf_21 : decode cX11_viewOf 21 = .ok (.imul, 1) := by decide +kernel
theorem dX11_viewOf_22 : decode cX11_viewOf 22 = .ok (.iadd, 1) := by decide +kernel
theorem dX11_viewOf_23 : decode cX11_viewOf 23 = .ok (.ireturn, 1) := by decide +kernel
theorem dX11_stillThere_0 : decode cX11_stillThere 0 = .ok (.aload_n 0, 1) := by decide +kernel
theorem dX11_stillThere_1 : decode cX11_stillThere 1 = .ok (.invokevirtual 321, 3) := by decide +kernel
theorem dX11_stillThere_4 : decode cX11_stillThere 4 = .ok (.aload_n 0, 1) := by decide +kernel
theorem dX11_stillThere_5 : decode cX11_stillThere 5 = .ok (.getfield 58, 3) := by decide +kernel
theorem dX11_stillThere_8 : decode cX11_stillThere 8 = .ok (.iload_n 1, 1) := by decide +kernel
theorem dX11_stillThere_9 : decode cX11_stillThere 9 = .ok (.iaload, 1) := by decide +kernel
theorem dX11_stillThere_10 : decode cX11_stillThere 10 = .ok (.iconst (-1), 1) := by decide +kernel
theorem dX11_stillThere_11 : decode cX11_stillThere 11 = .ok (.ixor, 1) := by decide +kernel
theorem dX11_stillThere_12 : decode cX11_stillThere 12 = .ok (.iand, 1) := by decide +kernel
theorem dX11_stillThere_13 : decode cX11_stillThere 13 = .ok (.ireturn, 1) := by decide +kernel
theorem dX11_holdingOf_0 : decode cX11_holdingOf 0 = .ok (.iload_n 1, 1) := by decide +kernel
theorem dX11_holdingOf_1 : decode cX11_holdingOf 1 = .ok (.iconst 1, 1) := by decide +kernel
theorem dX11_holdingOf_2 : decode cX11_holdingOf 2 = .ok (.if_icmp .ne 12, 3) := by decide +kernel
theorem dX11_holdingOf_5 : decode cX11_holdingOf 5 = .ok (.aload_n 0, 1) := by decide +kernel
theorem dX11_holdingOf_6 : decode cX11_holdingOf 6 = .ok (.getfield 52, 3) := by decide +kernel
theorem dX11_holdingOf_9 : decode cX11_holdingOf 9 = .ok (.iload_n 2, 1) := by decide +kernel
theorem dX11_holdingOf_10 : decode cX11_holdingOf 10 = .ok (.iaload, 1) := by decide +kernel
theorem dX11_holdingOf_11 : decode cX11_holdingOf 11 = .ok (.goto 38, 3) := by decide +kernel
theorem dX11_holdingOf_14 : decode cX11_holdingOf 14 = .ok (.iload_n 1, 1) := by decide +kernel
theorem dX11_holdingOf_15 : decode cX11_holdingOf 15 = .ok (.iconst 2, 1) := by decide +kernel
theorem dX11_holdingOf_16 : decode cX11_holdingOf 16 = .ok (.if_icmp .ne 12, 3) := by decide +kernel
theorem dX11_holdingOf_19 : decode cX11_holdingOf 19 = .ok (.aload_n 0, 1) := by decide +kernel
theorem dX11_holdingOf_20 : decode cX11_holdingOf 20 = .ok (.getfield 55, 3) := by decide +kernel
theorem dX11_holdingOf_23 : decode cX11_holdingOf 23 = .ok (.iload_n 2, 1) := by decide +kernel
theorem dX11_holdingOf_24 : decode cX11_holdingOf 24 = .ok (.iaload, 1) := by decide +kernel
theorem dX11_holdingOf_25 : decode cX11_holdingOf 25 = .ok (.goto 24, 3) := by decide +kernel
theorem dX11_holdingOf_28 : decode cX11_holdingOf 28 = .ok (.aload_n 0, 1) := by decide +kernel
theorem dX11_holdingOf_29 : decode cX11_holdingOf 29 = .ok (.iload_n 2, 1) := by decide +kernel
theorem dX11_holdingOf_30 : decode cX11_holdingOf 30 = .ok (.invokevirtual 324, 3) := by decide +kernel
theorem dX11_holdingOf_33 : decode cX11_holdingOf 33 = .ok (.aload_n 0, 1) := by decide +kernel
theorem dX11_holdingOf_34 : decode cX11_holdingOf 34 = .ok (.getfield 52, 3) := by decide +kernel
theorem dX11_holdingOf_37 : decode cX11_holdingOf 37 = .ok (.iload_n 2, 1) := by decide +kernel
theorem dX11_holdingOf_38 : decode cX11_holdingOf 38 = .ok (.iaload, 1) := by decide +kernel
theorem dX11_holdingOf_39 : decode cX11_holdingOf 39 = .ok (.aload_n 0, 1) := by decide +kernel
theorem dX11_holdingOf_40 : decode cX11_holdingOf 40 = .ok (.getfield 55, 3) := by decide +kernel
theorem dX11_holdingOf_43 : decode cX11_holdingOf 43 = .ok (.iload_n 2, 1) := by decide +kernel
theorem dX11_holdingOf_44 : decode cX11_holdingOf 44 = .ok (.iaload, 1) := by decide +kernel
theorem dX11_holdingOf_45 : decode cX11_holdingOf 45 = .ok (.ior, 1) := by decide +kernel
theorem dX11_holdingOf_46 : decode cX11_holdingOf 46 = .ok (.iconst (-1), 1) := by decide +kernel
theorem dX11_holdingOf_47 : decode cX11_holdingOf 47 = .ok (.ixor, 1) := by decide +kernel
theorem dX11_holdingOf_48 : decode cX11_holdingOf 48 = .ok (.iand, 1) := by decide +kernel
theorem dX11_holdingOf_49 : decode cX11_holdingOf 49 = .ok (.ireturn, 1) := by decide +kernel
theorem dX11_lastOf_0 : decode cX11_lastOf 0 = .ok (.aload_n 0, 1) := by decide +kernel
theorem dX11_lastOf_1 : decode cX11_lastOf 1 = .ok (.iload_n 1, 1) := by decide +kernel
theorem dX11_lastOf_2 : decode cX11_lastOf 2 = .ok (.aload_n 0, 1) := by decide +kernel
theorem dX11_lastOf_3 : decode cX11_lastOf 3 = .ok (.invokevirtual 103, 3) := by decide +kernel
theorem dX11_lastOf_6 : decode cX11_lastOf 6 = .ok (.invokevirtual 327, 3) := by decide +kernel
theorem dX11_lastOf_9 : decode cX11_lastOf 9 = .ok (.ireturn, 1) := by decide +kernel
theorem dX11_turnedOf_0 : decode cX11_turnedOf 0 = .ok (.iload_n 1, 1) := by decide +kernel
theorem dX11_turnedOf_1 : decode cX11_turnedOf 1 = .ok (.ifCond .ne 17, 3) := by decide +kernel
theorem dX11_turnedOf_4 : decode cX11_turnedOf 4 = .ok (.aload_n 0, 1) := by decide +kernel
theorem dX11_turnedOf_5 : decode cX11_turnedOf 5 = .ok (.getfield 52, 3) := by decide +kernel
theorem dX11_turnedOf_8 : decode cX11_turnedOf 8 = .ok (.iconst 0, 1) := by decide +kernel
theorem dX11_turnedOf_9 : decode cX11_turnedOf 9 = .ok (.iaload, 1) := by decide +kernel
theorem dX11_turnedOf_10 : decode cX11_turnedOf 10 = .ok (.aload_n 0, 1) := by decide +kernel
theorem dX11_turnedOf_11 : decode cX11_turnedOf 11 = .ok (.getfield 55, 3) := by decide +kernel
theorem dX11_turnedOf_14 : decode cX11_turnedOf 14 = .ok (.iconst 0, 1) := by decide +kernel
theorem dX11_turnedOf_15 : decode cX11_turnedOf 15 = .ok (.iaload, 1) := by decide +kernel
theorem dX11_turnedOf_16 : decode cX11_turnedOf 16 = .ok (.ior, 1) := by decide +kernel
theorem dX11_turnedOf_17 : decode cX11_turnedOf 17 = .ok (.ireturn, 1) := by decide +kernel
theorem dX11_turnedOf_18 : decode cX11_turnedOf 18 = .ok (.aload_n 0, 1) := by decide +kernel
theorem dX11_turnedOf_19 : decode cX11_turnedOf 19 = .ok (.getfield 52, 3) := by decide +kernel
theorem dX11_turnedOf_22 : decode cX11_turnedOf 22 = .ok (.iload_n 1, 1) := by decide +kernel
theorem dX11_turnedOf_23 : decode cX11_turnedOf 23 = .ok (.iaload, 1) := by decide +kernel
theorem dX11_turnedOf_24 : decode cX11_turnedOf 24 = .ok (.aload_n 0, 1) := by decide +kernel
theorem dX11_turnedOf_25 : decode cX11_turnedOf 25 = .ok (.getfield 52, 3) := by decide +kernel
theorem dX11_turnedOf_28 : decode cX11_turnedOf 28 = .ok (.iload_n 1, 1) := by decide +kernel
theorem dX11_turnedOf_29 : decode cX11_turnedOf 29 = .ok (.iconst 1, 1) := by decide +kernel
theorem dX11_turnedOf_30 : decode cX11_turnedOf 30 = .ok (.isub, 1) := by decide +kernel
theorem dX11_turnedOf_31 : decode cX11_turnedOf 31 = .ok (.iaload, 1) := by decide +kernel
theorem dX11_turnedOf_32 : decode cX11_turnedOf 32 = .ok (.ixor, 1) := by decide +kernel
theorem dX11_turnedOf_33 : decode cX11_turnedOf 33 = .ok (.aload_n 0, 1) := by decide +kernel
theorem dX11_turnedOf_34 : decode cX11_turnedOf 34 = .ok (.getfield 55, 3) := by decide +kernel
theorem dX11_turnedOf_37 : decode cX11_turnedOf 37 = .ok (.iload_n 1, 1) := by decide +kernel
theorem dX11_turnedOf_38 : decode cX11_turnedOf 38 = .ok (.iaload, 1) := by decide +kernel
theorem dX11_turnedOf_39 : decode cX11_turnedOf 39 = .ok (.aload_n 0, 1) := by decide +kernel
theorem dX11_turnedOf_40 : decode cX11_turnedOf 40 = .ok (.getfield 55, 3) := by decide +kernel
theorem dX11_turnedOf_43 : decode cX11_turnedOf 43 = .ok (.iload_n 1, 1) := by decide +kernel
theorem dX11_turnedOf_44 : decode cX11_turnedOf 44 = .ok (.iconst 1, 1) := by decide +kernel
theorem dX11_turnedOf_45 : decode cX11_turnedOf 45 = .ok (.isub, 1) := by decide +kernel
theorem dX11_turnedOf_46 : decode cX11_turnedOf 46 = .ok (.iaload, 1) := by decide +kernel
theorem dX11_turnedOf_47 : decode cX11_turnedOf 47 = .ok (.ixor, 1) := by decide +kernel
theorem dX11_turnedOf_48 : decode cX11_turnedOf 48 = .ok (.ior, 1) := by decide +kernel
theorem dX11_turnedOf_49 : decode cX11_turnedOf 49 = .ok (.ireturn, 1) := by decide +kernel
theorem dX11_swaysOf_0 : decode cX11_swaysOf 0 = .ok (.iconst 0, 1) := by decide +kernel
theorem dX11_swaysOf_1 : decode cX11_swaysOf 1 = .ok (.istore_n 2, 1) := by decide +kernel
theorem dX11_swaysOf_2 : decode cX11_swaysOf 2 = .ok (.iconst 1, 1) := by decide +kernel
theorem dX11_swaysOf_3 : decode cX11_swaysOf 3 = .ok (.istore_n 3, 1) := by decide +kernel
theorem dX11_swaysOf_4 : decode cX11_swaysOf 4 = .ok (.iload_n 3, 1) := by decide +kernel
theorem dX11_swaysOf_5 : decode cX11_swaysOf 5 = .ok (.aload_n 0, 1) := by decide +kernel
theorem dX11_swaysOf_6 : decode cX11_swaysOf 6 = .ok (.invokevirtual 103, 3) := by decide +kernel
theorem dX11_swaysOf_9 : decode cX11_swaysOf 9 = .ok (.if_icmp .gt 21, 3) := by decide +kernel
theorem dX11_swaysOf_12 : decode cX11_swaysOf 12 = .ok (.iload_n 2, 1) := by decide +kernel
theorem dX11_swaysOf_13 : decode cX11_swaysOf 13 = .ok (.aload_n 0, 1) := by decide +kernel
theorem dX11_swaysOf_14 : decode cX11_swaysOf 14 = .ok (.iload_n 3, 1) := by decide +kernel
theorem dX11_swaysOf_15 : decode cX11_swaysOf 15 = .ok (.invokevirtual 339, 3) := by decide +kernel
theorem dX11_swaysOf_18 : decode cX11_swaysOf 18 = .ok (.iload_n 1, 1) := by decide +kernel
theorem dX11_swaysOf_19 : decode cX11_swaysOf 19 = .ok (.invokestatic 274, 3) := by decide +kernel
theorem dX11_swaysOf_22 : decode cX11_swaysOf 22 = .ok (.iadd, 1) := by decide +kernel
theorem dX11_swaysOf_23 : decode cX11_swaysOf 23 = .ok (.istore_n 2, 1) := by decide +kernel
theorem dX11_swaysOf_24 : decode cX11_swaysOf 24 = .ok (.iinc 3 1, 3) := by decide +kernel
theorem dX11_swaysOf_27 : decode cX11_swaysOf 27 = .ok (.goto (-23), 3) := by decide +kernel
theorem dX11_swaysOf_30 : decode cX11_swaysOf 30 = .ok (.iload_n 2, 1) := by decide +kernel
theorem dX11_swaysOf_31 : decode cX11_swaysOf 31 = .ok (.ireturn, 1) := by decide +kernel
set_option maxHeartbeats 4000000 in
set_option maxRecDepth 100000 in
theorem ctX11_in (l : Launch) (D : va_G) (k : Nat → ClassId) (z : Nat → Nat) (p0 : Int64) (p1 : Int64) (p2 : Int64)  : RO l yX11_in cX11_in 6 (some .boolean) 0 D k z [.long p0, .long p1, .long p2] [] (Qi (fun r : Int32 => (r = (bo (p1 ≤ p0 ∧ p0 ≤ p2))))) := by
  refine RO.of (by decide) (Nat.le_of_ble_eq_true rfl) ?_
  intro p e s m below meth c ls A B args Q S hr hlk hQ hK hP hDW hZ hAB hBA hA hS hl
  have hx := S.1
  have hb := S.2.1
  have hl : lv_has ls 6 [(0, .long p0), (2, .long p1), (4, .long p2)] := hl
  refine lv_lload_n hx hb dX11_in_0 rfl (lv_at hl 0 rfl) ?_
  refine lv_lload_n hx hb dX11_in_1 rfl (lv_at hl 1 rfl) ?_
  refine W.lcmp hx hb dX11_in_2 ?_
  refine lv_if_lt (tgt := 17) hx hb dX11_in_3 (by decide) (fun c_1 => ?_) (fun c_1 => ?_)
  · skip
    have c_1 : p0 < p1 := (lg_cmp_lt _ _).mp c_1
    refine lv_iconst (v := 0) hx hb dX11_in_17 (by decide) ?_
    exact x_retz S hr hlk hQ hS rfl () (bo_f (fun q => absurd q.1 (Int64.not_le.mpr c_1))).symm x_T dX11_in_18
  · skip
    have c_1 : ¬ p0 < p1 := fun q => c_1 ((lg_cmp_lt _ _).mpr q)
    refine lv_lload_n hx hb dX11_in_6 rfl (lv_at hl 0 rfl) ?_
    refine lv_lload hx hb dX11_in_7 (lv_at hl 2 rfl) ?_
    refine W.lcmp hx hb dX11_in_9 ?_
    refine lv_if_gt (tgt := 17) hx hb dX11_in_10 (by decide) (fun c_2 => ?_) (fun c_2 => ?_)
    · skip
      have c_2 : p2 < p0 := (lg_cmp_gt _ _).mp c_2
      refine lv_iconst (v := 0) hx hb dX11_in_17 (by decide) ?_
      exact x_retz S hr hlk hQ hS rfl () (bo_f (fun q => absurd q.2 (Int64.not_le.mpr c_2))).symm x_T dX11_in_18
    · skip
      have c_2 : ¬ p2 < p0 := fun q => c_2 ((lg_cmp_gt _ _).mpr q)
      refine lv_iconst (v := 1) hx hb dX11_in_13 (by decide) ?_
      refine lv_goto (tgt := 18) hx hb dX11_in_14 (by decide) ?_
      exact x_retz S hr hlk hQ hS rfl () (bo_t ⟨Int64.not_lt.mp c_1, Int64.not_lt.mp c_2⟩).symm x_T dX11_in_18

set_option maxHeartbeats 4000000 in
set_option maxRecDepth 100000 in
theorem ctX11_isView (l : Launch) (D : va_G) (k : Nat → ClassId) (z : Nat → Nat) (p0 : Int64)  : RO l yX11_isView cX11_isView 2 (some .boolean) 1 D k z [.long p0] [] (Qi (fun r : Int32 => (r = (bo (1 ≤ p0 ∧ p0 ≤ 2))))) := by
  refine RO.of (by decide) (Nat.le_of_ble_eq_true rfl) ?_
  intro p e s m below meth c ls A B args Q S hr hlk hQ hK hP hDW hZ hAB hBA hA hS hl
  have hx := S.1
  have hb := S.2.1
  have hl : lv_has ls 2 [(0, .long p0)] := hl
  refine lv_lload_n hx hb dX11_isView_0 rfl (lv_at hl 0 rfl) ?_
  refine lv_lconst (v := 1) hx hb dX11_isView_1 (by decide) ?_
  refine lv_ldc2 hx hb S.2.2.2.1 (S.2.2.2.2 _ lkX11_89) dX11_isView_2 ?_
  refine x_roSi (As := [.long p0, .long 1, .long 2]) S hK hP hDW hZ hAB hBA hS hA hl mwX11_in lkX11_91 (ctX11_in l D k z p0 1 2 ) [] rfl (by decide) rfl rfl ⟨Nat.le_of_ble_eq_true rfl, Nat.le_of_ble_eq_true rfl, Nat.le_of_ble_eq_true rfl⟩ dX11_isView_5 ⟨Nat.le_of_ble_eq_true rfl, Nat.le_of_ble_eq_true rfl⟩ (fun r_1 H locs hr_1 hP hS => ?_)
  obtain rfl := hr_1
  exact x_retz S hr hlk hQ hS bo_nar () rfl x_T dX11_isView_8

set_option maxHeartbeats 4000000 in
set_option maxRecDepth 100000 in
theorem ctX11_isAny (l : Launch) (D : va_G) (k : Nat → ClassId) (z : Nat → Nat) (p0 : Int64)  : RO l yX11_isAny cX11_isAny 2 (some .boolean) 1 D k z [.long p0] [] (Qi (fun r : Int32 => (r = (bo (0 ≤ p0 ∧ p0 ≤ 2))))) := by
  refine RO.of (by decide) (Nat.le_of_ble_eq_true rfl) ?_
  intro p e s m below meth c ls A B args Q S hr hlk hQ hK hP hDW hZ hAB hBA hA hS hl
  have hx := S.1
  have hb := S.2.1
  have hl : lv_has ls 2 [(0, .long p0)] := hl
  refine lv_lload_n hx hb dX11_isAny_0 rfl (lv_at hl 0 rfl) ?_
  refine lv_lconst (v := 0) hx hb dX11_isAny_1 (by decide) ?_
  refine lv_ldc2 hx hb S.2.2.2.1 (S.2.2.2.2 _ lkX11_89) dX11_isAny_2 ?_
  refine x_roSi (As := [.long p0, .long 0, .long 2]) S hK hP hDW hZ hAB hBA hS hA hl mwX11_in lkX11_91 (ctX11_in l D k z p0 0 2 ) [] rfl (by decide) rfl rfl ⟨Nat.le_of_ble_eq_true rfl, Nat.le_of_ble_eq_true rfl, Nat.le_of_ble_eq_true rfl⟩ dX11_isAny_5 ⟨Nat.le_of_ble_eq_true rfl, Nat.le_of_ble_eq_true rfl⟩ (fun r_1 H locs hr_1 hP hS => ?_)
  obtain rfl := hr_1
  exact x_retz S hr hlk hQ hS bo_nar () rfl x_T dX11_isAny_8

set_option maxHeartbeats 4000000 in
set_option maxRecDepth 100000 in
theorem ctX11_isSlot (l : Launch) (D : va_G) (k : Nat → ClassId) (z : Nat → Nat) (p0 : Int32)  : RO l yX11_isSlot cX11_isSlot 1 (some .boolean) 1 D k z [.int p0] [] (Qi (fun r : Int32 => (r = (bo (0 ≤ p0.toInt64 ∧ p0.toInt64 ≤ 3))))) := by
  refine RO.of (by decide) (Nat.le_of_ble_eq_true rfl) ?_
  intro p e s m below meth c ls A B args Q S hr hlk hQ hK hP hDW hZ hAB hBA hA hS hl
  have hx := S.1
  have hb := S.2.1
  have hl : lv_has ls 1 [(0, .int p0)] := hl
  refine lv_iload_n hx hb dX11_isSlot_0 rfl (lv_at hl 0 rfl) ?_
  refine lv_i2l (v := p0.toInt64) hx hb dX11_isSlot_1 rfl ?_
  refine lv_lconst (v := 0) hx hb dX11_isSlot_2 (by decide) ?_
  refine lv_ldc2 hx hb S.2.2.2.1 (S.2.2.2.2 _ lkX11_241) dX11_isSlot_3 ?_
  refine x_roSi (As := [.long p0.toInt64, .long 0, .long 3]) S hK hP hDW hZ hAB hBA hS hA hl mwX11_in lkX11_91 (ctX11_in l D k z p0.toInt64 0 3 ) [] rfl (by decide) rfl rfl ⟨Nat.le_of_ble_eq_true rfl, Nat.le_of_ble_eq_true rfl, Nat.le_of_ble_eq_true rfl⟩ dX11_isSlot_6 ⟨Nat.le_of_ble_eq_true rfl, Nat.le_of_ble_eq_true rfl⟩ (fun r_1 H locs hr_1 hP hS => ?_)
  obtain rfl := hr_1
  exact x_retz S hr hlk hQ hS bo_nar () rfl x_T dX11_isSlot_9

set_option maxHeartbeats 4000000 in
set_option maxRecDepth 100000 in
theorem ctX11_isSeed (l : Launch) (D : va_G) (k : Nat → ClassId) (z : Nat → Nat) (p0 : Int32)  : RO l yX11_isSeed cX11_isSeed 1 (some .boolean) 1 D k z [.int p0] [] (Qi (fun r : Int32 => (r = (bo (0 ≤ p0.toInt64 ∧ p0.toInt64 ≤ 2000000000))))) := by
  refine RO.of (by decide) (Nat.le_of_ble_eq_true rfl) ?_
  intro p e s m below meth c ls A B args Q S hr hlk hQ hK hP hDW hZ hAB hBA hA hS hl
  have hx := S.1
  have hb := S.2.1
  have hl : lv_has ls 1 [(0, .int p0)] := hl
  refine lv_iload_n hx hb dX11_isSeed_0 rfl (lv_at hl 0 rfl) ?_
  refine lv_i2l (v := p0.toInt64) hx hb dX11_isSeed_1 rfl ?_
  refine lv_lconst (v := 0) hx hb dX11_isSeed_2 (by decide) ?_
  refine lv_ldc2 hx hb S.2.2.2.1 (S.2.2.2.2 _ lkX11_496) dX11_isSeed_3 ?_
  refine x_roSi (As := [.long p0.toInt64, .long 0, .long 2000000000]) S hK hP hDW hZ hAB hBA hS hA hl mwX11_in lkX11_91 (ctX11_in l D k z p0.toInt64 0 2000000000 ) [] rfl (by decide) rfl rfl ⟨Nat.le_of_ble_eq_true rfl, Nat.le_of_ble_eq_true rfl, Nat.le_of_ble_eq_true rfl⟩ dX11_isSeed_6 ⟨Nat.le_of_ble_eq_true rfl, Nat.le_of_ble_eq_true rfl⟩ (fun r_1 H locs hr_1 hP hS => ?_)
  obtain rfl := hr_1
  exact x_retz S hr hlk hQ hS bo_nar () rfl x_T dX11_isSeed_9

set_option maxHeartbeats 4000000 in
set_option maxRecDepth 100000 in
theorem ctX11_bit_n (l : Launch) (D : va_G) (k : Nat → ClassId) (z : Nat → Nat) (p0 : Nat) (p1 : Nat) (hp0 : p0 ≤ 255) (hp1 : p1 ≤ 15) : RO l yX11_bit cX11_bit 2 (some .int) 0 D k z [.int (nI p0), .int (nI p1)] [] (Qi (fun r : Int32 => (r = (nI (p0 / 2 ^ p1 % 2))))) := by
  refine RO.of (by decide) (Nat.le_of_ble_eq_true rfl) ?_
  intro p e s m below meth c ls A B args Q S hr hlk hQ hK hP hDW hZ hAB hBA hA hS hl
  have hx := S.1
  have hb := S.2.1
  have hl : lv_has ls 2 [(0, .int (nI p0)), (1, .int (nI p1))] := hl
  refine lv_iload_n hx hb dX11_bit_0 rfl (lv_at hl 0 rfl) ?_
  refine lv_iload_n hx hb dX11_bit_1 rfl (lv_at hl 1 rfl) ?_
  refine lv_ishr hx hb dX11_bit_2 ?_
  refine lv_topi (fun v_1 ev_1 => ?_)
  refine lv_iconst (v := 1) hx hb dX11_bit_3 (by decide) ?_
  refine lv_iand hx hb dX11_bit_4 ?_
  refine lv_topi (fun v_2 ev_2 => ?_)
  exact x_reti S hr hlk hQ hS () (by rw [ev_2, ev_1]; exact bit_N (by omega) (by omega)) x_T dX11_bit_5

set_option maxHeartbeats 4000000 in
set_option maxRecDepth 100000 in
theorem ctX11_bit (l : Launch) (D : va_G) (k : Nat → ClassId) (z : Nat → Nat) (p0 : Int32) (p1 : Int32)  : RO l yX11_bit cX11_bit 2 (some .int) 0 D k z [.int p0, .int p1] [] (Qi (fun r : Int32 => True)) := by
  refine RO.of (by decide) (Nat.le_of_ble_eq_true rfl) ?_
  intro p e s m below meth c ls A B args Q S hr hlk hQ hK hP hDW hZ hAB hBA hA hS hl
  have hx := S.1
  have hb := S.2.1
  have hl : lv_has ls 2 [(0, .int p0), (1, .int p1)] := hl
  refine lv_iload_n hx hb dX11_bit_0 rfl (lv_at hl 0 rfl) ?_
  refine lv_iload_n hx hb dX11_bit_1 rfl (lv_at hl 1 rfl) ?_
  refine lv_ishr hx hb dX11_bit_2 ?_
  refine lv_topi (fun v_1 ev_1 => ?_)
  refine lv_iconst (v := 1) hx hb dX11_bit_3 (by decide) ?_
  refine lv_iand hx hb dX11_bit_4 ?_
  refine lv_topi (fun v_2 ev_2 => ?_)
  exact x_reti S hr hlk hQ hS () trivial x_T dX11_bit_5

set_option maxHeartbeats 4000000 in
set_option maxRecDepth 100000 in
theorem ctX11_bits (l : Launch) (D : va_G) (k : Nat → ClassId) (z : Nat → Nat) (p0 : Int32)  : RO l yX11_bits cX11_bits 3 (some .int) 0 D k z [.int p0] [] (Qi (fun r : Int32 => (r = (nI (pcn p0 16))) ∧ (pcn p0 16 ≤ 16))) := by
  refine RO.of (by decide) (Nat.le_of_ble_eq_true rfl) ?_
  intro p e s m below meth c ls A B args Q S hr hlk hQ hK hP hDW hZ hAB hBA hA hS hl
  have hx := S.1
  have hb := S.2.1
  have hl : lv_has ls 3 [(0, .int p0)] := hl
  refine lv_iconst (v := 0) hx hb dX11_bits_0 (by decide) ?_
  refine lv_istore_n (lv' := [(1, .int 0), (0, .int p0)]) hx hb dX11_bits_1 rfl hl (by decide) rfl (fun ls hl => ?_)
  refine lv_iconst (v := 0) hx hb dX11_bits_2 (by decide) ?_
  refine lv_istore_n (lv' := [(2, .int 0), (1, .int 0), (0, .int p0)]) hx hb dX11_bits_3 rfl hl (by decide) rfl (fun ls hl => ?_)
  have lp_14 : ∀ (nn j_12 : Nat) (x_13 : Int32) (H : Heap) (locs : List Loc) (ls : Array Slot), j_12 ≤ 16 → 16 - j_12 < nn → (x_13 = nI (pcn p0 j_12)) → va_P D vwCl [] H → va_S A s.heap H locs → lv_has ls 3 [(2, .int (nI j_12)), (1, .int x_13), (0, .int p0)] → W p l e (Rm 0 0 0) s m args below meth c H locs 0 0 Q (F0 m 4 ls []) := by
    intro nn
    induction nn with
    | zero => intro j_12 x_13 H locs ls hjj_12 hnj_12 hpc; exact absurd hnj_12 (by omega)
    | succ nn ihj_12 =>
      intro j_12 x_13 H locs ls hjj_12 hnj_12 hpc hP hS hl
      refine lv_iload_n hx hb dX11_bits_4 rfl (lv_at hl 0 rfl) ?_
      refine lv_bipush (v := 16) hx hb dX11_bits_5 (by decide) ?_
      refine lv_icmp_ge (tgt := 24) hx hb dX11_bits_7 (by decide) (fun c_15 => ?_) (fun c_15 => ?_)
      · skip
        have c_15 : 16 ≤ j_12 := (ni_le (by decide) rfl (by omega) (by omega)).mp c_15
        refine lv_iload_n hx hb dX11_bits_24 rfl (lv_at hl 1 rfl) ?_
        exact x_reti S hr hlk hQ hS () ⟨(bits_end hpc (by omega) (by omega)), (pcn_le _ _)⟩ x_T dX11_bits_25
      · skip
        have c_15 : ¬ 16 ≤ j_12 := fun q => c_15 ((ni_le (by decide) rfl (by omega) (by omega)).mpr q)
        refine lv_iload_n hx hb dX11_bits_10 rfl (lv_at hl 1 rfl) ?_
        refine lv_iload_n hx hb dX11_bits_11 rfl (lv_at hl 2 rfl) ?_
        refine lv_iload_n hx hb dX11_bits_12 rfl (lv_at hl 0 rfl) ?_
        refine lv_ishr hx hb dX11_bits_13 ?_
        refine lv_topi (fun v_16 ev_16 => ?_)
        refine lv_iconst (v := 1) hx hb dX11_bits_14 (by decide) ?_
        refine lv_iand hx hb dX11_bits_15 ?_
        refine lv_topi (fun v_17 ev_17 => ?_)
        refine lv_iadd hx hb dX11_bits_16 ?_
        refine lv_topi (fun v_18 ev_18 => ?_)
        refine lv_istore_n (lv' := [(1, .int v_18), (2, .int (nI j_12)), (0, .int p0)]) hx hb dX11_bits_17 rfl hl (by decide) rfl (fun ls hl => ?_)
        refine lv_iinc (v := (nI (j_12 + 1))) (lv' := [(2, .int (nI (j_12 + 1))), (1, .int v_18), (0, .int p0)]) hx hb dX11_bits_18 hl (k := 1) rfl (ni_inc _) (by decide) rfl (fun ls hl => ?_)
        refine lv_goto (tgt := 4) hx hb dX11_bits_21 (by decide) ?_
        exact ihj_12 (j_12 + 1) v_18 _ _ _ (by omega) (by omega) (pcn_step hpc ev_16 ev_17 ev_18 (by omega)) hP hS (lv_sub hl [0, 1, 2] rfl)
  exact lp_14 (16 + 1) 0 0 _ _ _ (by omega) (by omega) rfl hP hS (lv_sub hl [0, 1, 2] rfl)

set_option maxHeartbeats 4000000 in
set_option maxRecDepth 100000 in
theorem ctX11_oneOf (l : Launch) (D : va_G) (k : Nat → ClassId) (z : Nat → Nat) (p0 : Int32)  : RO l yX11_oneOf cX11_oneOf 1 (some .int) 0 D k z [.int p0] [] (Qi (fun r : Int32 => True)) := by
  refine RO.of (by decide) (Nat.le_of_ble_eq_true rfl) ?_
  intro p e s m below meth c ls A B args Q S hr hlk hQ hK hP hDW hZ hAB hBA hA hS hl
  have hx := S.1
  have hb := S.2.1
  have hl : lv_has ls 1 [(0, .int p0)] := hl
  refine lv_iload_n hx hb dX11_oneOf_0 rfl (lv_at hl 0 rfl) ?_
  refine lv_iconst (v := (-1)) hx hb dX11_oneOf_1 (by decide) ?_
  refine lv_icmp_ne (tgt := 9) hx hb dX11_oneOf_2 (by decide) (fun c_1 => ?_) (fun c_1 => ?_)
  · skip
    refine lv_iconst (v := 1) hx hb dX11_oneOf_9 (by decide) ?_
    refine lv_iload_n hx hb dX11_oneOf_10 rfl (lv_at hl 0 rfl) ?_
    refine lv_ishl hx hb dX11_oneOf_11 ?_
    refine lv_topi (fun v_2 ev_2 => ?_)
    exact x_reti S hr hlk hQ hS () trivial x_T dX11_oneOf_12
  · skip
    refine lv_iconst (v := 0) hx hb dX11_oneOf_5 (by decide) ?_
    refine lv_goto (tgt := 12) hx hb dX11_oneOf_6 (by decide) ?_
    exact x_reti S hr hlk hQ hS () trivial x_T dX11_oneOf_12

set_option maxHeartbeats 4000000 in
set_option maxRecDepth 100000 in
theorem ctX11_isOne (l : Launch) (D : va_G) (k : Nat → ClassId) (z : Nat → Nat) (p0 : Int32) (p1 : Int32)  : RO l yX11_isOne cX11_isOne 2 (some .boolean) 0 D k z [.int p0, .int p1] [] (Qi (fun r : Int32 => (r = 0 ∨ r = 1))) := by
  refine RO.of (by decide) (Nat.le_of_ble_eq_true rfl) ?_
  intro p e s m below meth c ls A B args Q S hr hlk hQ hK hP hDW hZ hAB hBA hA hS hl
  have hx := S.1
  have hb := S.2.1
  have hl : lv_has ls 2 [(0, .int p0), (1, .int p1)] := hl
  refine lv_iload_n hx hb dX11_isOne_0 rfl (lv_at hl 0 rfl) ?_
  refine lv_if_eq (tgt := 16) hx hb dX11_isOne_1 (by decide) (fun c_1 => ?_) (fun c_1 => ?_)
  · skip
    refine lv_iconst (v := 0) hx hb dX11_isOne_16 (by decide) ?_
    exact x_retz S hr hlk hQ hS rfl () (Or.inl rfl) x_T dX11_isOne_17
  · skip
    refine lv_iload_n hx hb dX11_isOne_4 rfl (lv_at hl 0 rfl) ?_
    refine lv_iload_n hx hb dX11_isOne_5 rfl (lv_at hl 1 rfl) ?_
    refine lv_iconst (v := (-1)) hx hb dX11_isOne_6 (by decide) ?_
    refine lv_ixor hx hb dX11_isOne_7 ?_
    refine lv_topi (fun v_2 ev_2 => ?_)
    refine lv_iand hx hb dX11_isOne_8 ?_
    refine lv_topi (fun v_3 ev_3 => ?_)
    refine lv_if_ne (tgt := 16) hx hb dX11_isOne_9 (by decide) (fun c_4 => ?_) (fun c_4 => ?_)
    · skip
      refine lv_iconst (v := 0) hx hb dX11_isOne_16 (by decide) ?_
      exact x_retz S hr hlk hQ hS rfl () (Or.inl rfl) x_T dX11_isOne_17
    · skip
      refine lv_iconst (v := 1) hx hb dX11_isOne_12 (by decide) ?_
      refine lv_goto (tgt := 17) hx hb dX11_isOne_13 (by decide) ?_
      exact x_retz S hr hlk hQ hS rfl () (Or.inr rfl) x_T dX11_isOne_17

set_option maxHeartbeats 4000000 in
set_option maxRecDepth 100000 in
theorem ctX11_clipped (l : Launch) (D : va_G) (k : Nat → ClassId) (z : Nat → Nat) (p0 : Int64) (p1 : Int32)  : RO l yX11_clipped cX11_clipped 4 (some .long) 0 D k z [.long p0, .int p1] [] (Ql (fun r : Int64 => True)) := by
  refine RO.of (by decide) (Nat.le_of_ble_eq_true rfl) ?_
  intro p e s m below meth c ls A B args Q S hr hlk hQ hK hP hDW hZ hAB hBA hA hS hl
  have hx := S.1
  have hb := S.2.1
  have hl : lv_has ls 4 [(0, .long p0), (2, .int p1)] := hl
  refine lv_bipush (v := 64) hx hb dX11_clipped_0 (by decide) ?_
  refine lv_bipush (v := 8) hx hb dX11_clipped_2 (by decide) ?_
  refine lv_iload_n hx hb dX11_clipped_4 rfl (lv_at hl 1 rfl) ?_
  refine lv_ishl hx hb dX11_clipped_5 ?_
  refine lv_topi (fun v_1 ev_1 => ?_)
  refine lv_isub hx hb dX11_clipped_6 ?_
  refine lv_topi (fun v_2 ev_2 => ?_)
  refine lv_istore_n (lv' := [(3, .int v_2), (0, .long p0), (2, .int p1)]) hx hb dX11_clipped_7 rfl hl (by decide) rfl (fun ls hl => ?_)
  refine lv_lload_n hx hb dX11_clipped_8 rfl (lv_at hl 1 rfl) ?_
  refine lv_iload_n hx hb dX11_clipped_9 rfl (lv_at hl 0 rfl) ?_
  refine lv_lshl hx hb dX11_clipped_10 rfl ?_
  refine lv_topl (fun v_3 ev_3 => ?_)
  refine lv_iload_n hx hb dX11_clipped_11 rfl (lv_at hl 0 rfl) ?_
  refine lv_lshr hx hb dX11_clipped_12 rfl ?_
  refine lv_topl (fun v_4 ev_4 => ?_)
  exact x_retl S hr hlk hQ hS () trivial x_T dX11_clipped_13

set_option maxHeartbeats 4000000 in
set_option maxRecDepth 100000 in
theorem ctX11_factorial_i (l : Launch) (D : va_G) (k : Nat → ClassId) (z : Nat → Nat) (p0 : Int32) (h63 : p0 ≤ 63) : RO l yX11_factorial cX11_factorial 4 (some .long) 0 D k z [.int p0] [] (Ql (fun r : Int64 => True)) := by
  refine RO.of (by decide) (Nat.le_of_ble_eq_true rfl) ?_
  intro p e s m below meth c ls A B args Q S hr hlk hQ hK hP hDW hZ hAB hBA hA hS hl
  have hx := S.1
  have hb := S.2.1
  have hl : lv_has ls 4 [(0, .int p0)] := hl
  by_cases hneg : p0 < 0
  · skip
    have hn2 : p0 < 2 := Int32.lt_trans hneg (by decide)
    refine lv_lconst (v := 1) hx hb dX11_factorial_0 (by decide) ?_
    refine lv_lstore_n (lv' := [(1, .long 1), (0, .int p0)]) hx hb dX11_factorial_1 rfl hl (by decide) rfl (fun ls hl => ?_)
    refine lv_iconst (v := 2) hx hb dX11_factorial_2 (by decide) ?_
    refine lv_istore_n (lv' := [(3, .int 2), (1, .long 1), (0, .int p0)]) hx hb dX11_factorial_3 rfl hl (by decide) rfl (fun ls hl => ?_)
    refine lv_iload_n hx hb dX11_factorial_4 rfl (lv_at hl 0 rfl) ?_
    refine lv_iload_n hx hb dX11_factorial_5 rfl (lv_at hl 2 rfl) ?_
    refine lv_icmp_gt (tgt := 20) hx hb dX11_factorial_6 (by decide) (fun c_1 => ?_) (fun c_1 => ?_)
    · skip
      refine lv_lload_n hx hb dX11_factorial_20 rfl (lv_at hl 1 rfl) ?_
      exact x_retl S hr hlk hQ hS () trivial x_T dX11_factorial_21
    · skip
      exact absurd hn2 c_1
  · skip
    obtain ⟨nn0, hnn0, enn0⟩ : ∃ nn0 : Nat, nn0 < 2147483648 ∧ p0 = nI nn0 := natp hneg
    have hl : lv_has ls 4 [(0, .int (nI nn0))] := by rw [enn0] at hl; exact hl
    have hj63 : nn0 ≤ 63 := (ni_le (x := nI nn0) (y := 63) (b := 63) rfl (by decide) (by omega) (by decide)).mp (enn0 ▸ h63)
    refine lv_lconst (v := 1) hx hb dX11_factorial_0 (by decide) ?_
    refine lv_lstore_n (lv' := [(1, .long 1), (0, .int (nI nn0))]) hx hb dX11_factorial_1 rfl hl (by decide) rfl (fun ls hl => ?_)
    refine lv_iconst (v := 2) hx hb dX11_factorial_2 (by decide) ?_
    refine lv_istore_n (lv' := [(3, .int 2), (1, .long 1), (0, .int (nI nn0))]) hx hb dX11_factorial_3 rfl hl (by decide) rfl (fun ls hl => ?_)
    have lp_11 : ∀ (nn j_9 : Nat) (x_10 : Int64) (H : Heap) (locs : List Loc) (ls : Array Slot), j_9 ≤ nn0 + 2 → nn0 + 2 - j_9 < nn → va_P D vwCl [] H → va_S A s.heap H locs → lv_has ls 4 [(3, .int (nI j_9)), (1, .long x_10), (0, .int (nI nn0))] → W p l e (Rm 0 0 0) s m args below meth c H locs 0 0 Q (F0 m 4 ls []) := by
      intro nn
      induction nn with
      | zero => intro j_9 x_10 H locs ls hjj_9 hnj_9; exact absurd hnj_9 (by omega)
      | succ nn ihj_9 =>
        intro j_9 x_10 H locs ls hjj_9 hnj_9 hP hS hl
        refine lv_iload_n hx hb dX11_factorial_4 rfl (lv_at hl 0 rfl) ?_
        refine lv_iload_n hx hb dX11_factorial_5 rfl (lv_at hl 2 rfl) ?_
        refine lv_icmp_gt (tgt := 20) hx hb dX11_factorial_6 (by decide) (fun c_12 => ?_) (fun c_12 => ?_)
        · skip
          have c_12 : nn0 < j_9 := (ni_lt rfl rfl (by omega) (by omega)).mp c_12
          refine lv_lload_n hx hb dX11_factorial_20 rfl (lv_at hl 1 rfl) ?_
          exact x_retl S hr hlk hQ hS () trivial x_T dX11_factorial_21
        · skip
          have c_12 : ¬ nn0 < j_9 := fun q => c_12 ((ni_lt rfl rfl (by omega) (by omega)).mpr q)
          refine lv_lload_n hx hb dX11_factorial_9 rfl (lv_at hl 1 rfl) ?_
          refine lv_iload_n hx hb dX11_factorial_10 rfl (lv_at hl 0 rfl) ?_
          refine lv_i2l (v := (nI j_9).toInt64) hx hb dX11_factorial_11 rfl ?_
          refine lv_lmul hx hb dX11_factorial_12 ?_
          refine lv_topl (fun v_13 ev_13 => ?_)
          refine lv_lstore_n (lv' := [(1, .long v_13), (3, .int (nI j_9)), (0, .int (nI nn0))]) hx hb dX11_factorial_13 rfl hl (by decide) rfl (fun ls hl => ?_)
          refine lv_iinc (v := (nI (j_9 + 1))) (lv' := [(3, .int (nI (j_9 + 1))), (1, .long v_13), (0, .int (nI nn0))]) hx hb dX11_factorial_14 hl (k := 1) rfl (ni_inc _) (by decide) rfl (fun ls hl => ?_)
          refine lv_goto (tgt := 4) hx hb dX11_factorial_17 (by decide) ?_
          exact ihj_9 (j_9 + 1) v_13 _ _ _ (by omega) (by omega) hP hS (lv_sub hl [0, 1, 2] rfl)
    exact lp_11 (nn0 + 2 + 1) 2 1 _ _ _ (by omega) (by omega) hP hS (lv_sub hl [0, 1, 2] rfl)

set_option maxHeartbeats 4000000 in
set_option maxRecDepth 100000 in
theorem ctX11_factorial_n (l : Launch) (D : va_G) (k : Nat → ClassId) (z : Nat → Nat) (p0 : Nat) (hp0 : p0 ≤ 16) : RO l yX11_factorial cX11_factorial 4 (some .long) 0 D k z [.int (nI p0)] [] (Ql (fun r : Int64 => (r = (lN (fct p0))))) := by
  refine RO.of (by decide) (Nat.le_of_ble_eq_true rfl) ?_
  intro p e s m below meth c ls A B args Q S hr hlk hQ hK hP hDW hZ hAB hBA hA hS hl
  have hx := S.1
  have hb := S.2.1
  have hl : lv_has ls 4 [(0, .int (nI p0))] := hl
  refine lv_lconst (v := 1) hx hb dX11_factorial_0 (by decide) ?_
  refine lv_lstore_n (lv' := [(1, .long 1), (0, .int (nI p0))]) hx hb dX11_factorial_1 rfl hl (by decide) rfl (fun ls hl => ?_)
  refine lv_iconst (v := 2) hx hb dX11_factorial_2 (by decide) ?_
  refine lv_istore_n (lv' := [(3, .int 2), (1, .long 1), (0, .int (nI p0))]) hx hb dX11_factorial_3 rfl hl (by decide) rfl (fun ls hl => ?_)
  have lp_10 : ∀ (nn j_8 : Nat) (x_9 : Int64) (H : Heap) (locs : List Loc) (ls : Array Slot), 2 ≤ j_8 → j_8 ≤ p0 + 2 → p0 + 2 - j_8 < nn → j_8 ≤ p0 + 1 ∨ j_8 = 2 → (x_9 = lN (fct (j_8 - 1))) → va_P D vwCl [] H → va_S A s.heap H locs → lv_has ls 4 [(3, .int (nI j_8)), (1, .long x_9), (0, .int (nI p0))] → W p l e (Rm 0 0 0) s m args below meth c H locs 0 0 Q (F0 m 4 ls []) := by
    intro nn
    induction nn with
    | zero => intro j_8 x_9 H locs ls hlj_8 hjj_8 hnj_8 hkkj_8 hfc; exact absurd hnj_8 (by omega)
    | succ nn ihj_8 =>
      intro j_8 x_9 H locs ls hlj_8 hjj_8 hnj_8 hkkj_8 hfc hP hS hl
      refine lv_iload_n hx hb dX11_factorial_4 rfl (lv_at hl 0 rfl) ?_
      refine lv_iload_n hx hb dX11_factorial_5 rfl (lv_at hl 2 rfl) ?_
      refine lv_icmp_gt (tgt := 20) hx hb dX11_factorial_6 (by decide) (fun c_11 => ?_) (fun c_11 => ?_)
      · skip
        have c_11 : p0 < j_8 := (ni_lt rfl rfl (by omega) (by omega)).mp c_11
        refine lv_lload_n hx hb dX11_factorial_20 rfl (lv_at hl 1 rfl) ?_
        exact x_retl S hr hlk hQ hS () (fct_end hfc (by omega)) x_T dX11_factorial_21
      · skip
        have c_11 : ¬ p0 < j_8 := fun q => c_11 ((ni_lt rfl rfl (by omega) (by omega)).mpr q)
        refine lv_lload_n hx hb dX11_factorial_9 rfl (lv_at hl 1 rfl) ?_
        refine lv_iload_n hx hb dX11_factorial_10 rfl (lv_at hl 0 rfl) ?_
        refine lv_i2l (v := (nI j_8).toInt64) hx hb dX11_factorial_11 rfl ?_
        refine lv_lmul hx hb dX11_factorial_12 ?_
        refine lv_topl (fun v_12 ev_12 => ?_)
        refine lv_lstore_n (lv' := [(1, .long v_12), (3, .int (nI j_8)), (0, .int (nI p0))]) hx hb dX11_factorial_13 rfl hl (by decide) rfl (fun ls hl => ?_)
        refine lv_iinc (v := (nI (j_8 + 1))) (lv' := [(3, .int (nI (j_8 + 1))), (1, .long v_12), (0, .int (nI p0))]) hx hb dX11_factorial_14 hl (k := 1) rfl (ni_inc _) (by decide) rfl (fun ls hl => ?_)
        refine lv_goto (tgt := 4) hx hb dX11_factorial_17 (by decide) ?_
        exact ihj_8 (j_8 + 1) v_12 _ _ _ (by omega) (by omega) (by omega) (by omega) (fct_step hfc (by omega) ev_12) hP hS (lv_sub hl [0, 1, 2] rfl)
  exact lp_10 (p0 + 2 + 1) 2 1 _ _ _ (by omega) (by omega) (by omega) (by omega) (by decide) hP hS (lv_sub hl [0, 1, 2] rfl)

set_option maxHeartbeats 4000000 in
set_option maxRecDepth 100000 in
theorem ctX11_divisor (l : Launch) (D : va_G) (k : Nat → ClassId) (z : Nat → Nat) (p0 : Int64) (p1 : Int64) (hne : ¬ p1 = 0) : RO l yX11_divisor cX11_divisor 10 (some .long) 1 D k z [.long p0, .long p1] [] (Ql (fun r : Int64 => (¬ r = 0))) := by
  refine RO.of (by decide) (Nat.le_of_ble_eq_true rfl) ?_
  intro p e s m below meth c ls A B args Q S hr hlk hQ hK hP hDW hZ hAB hBA hA hS hl
  have hx := S.1
  have hb := S.2.1
  have hl : lv_has ls 10 [(0, .long p0), (2, .long p1)] := hl
  refine lv_lload_n hx hb dX11_divisor_0 rfl (lv_at hl 0 rfl) ?_
  refine x_mabsl S hl lkX11_382 (Nat.le_of_ble_eq_true rfl) (Nat.le_of_ble_eq_true rfl) ⟨Nat.le_of_ble_eq_true rfl, Nat.le_of_ble_eq_true rfl⟩ dX11_divisor_1 (fun v_1 ev_1 => ?_)
  refine lv_lstore (lv' := [(4, .long v_1), (0, .long p0), (2, .long p1)]) hx hb dX11_divisor_4 hl (by decide) rfl (fun ls hl => ?_)
  refine lv_lload_n hx hb dX11_divisor_6 rfl (lv_at hl 2 rfl) ?_
  refine lv_lstore (lv' := [(6, .long p1), (4, .long v_1), (0, .long p0), (2, .long p1)]) hx hb dX11_divisor_7 hl (by decide) rfl (fun ls hl => ?_)
  have lp_13 : ∀ (nn : Nat) (x_11 : Int64) (x_12 : Int64) (H : Heap) (locs : List Loc) (ls : Array Slot), x_11.toInt.natAbs < nn → (¬ x_11 = 0 ∨ ¬ x_12 = 0) → va_P D vwCl [] H → va_S A s.heap H locs → lv_has ls 10 [(6, .long x_11), (4, .long x_12), (0, .long p0), (2, .long p1)] → W p l e (Rm 1 0 0) s m args below meth c H locs 0 0 Q (F0 m 9 ls []) := by
    intro nn
    induction nn with
    | zero => intro x_11 x_12 H locs ls hnj_10 hdv; exact absurd hnj_10 (by omega)
    | succ nn ihj_10 =>
      intro x_11 x_12 H locs ls hnj_10 hdv hP hS hl
      refine lv_lload hx hb dX11_divisor_9 (lv_at hl 0 rfl) ?_
      refine lv_lconst (v := 0) hx hb dX11_divisor_11 (by decide) ?_
      refine W.lcmp hx hb dX11_divisor_12 ?_
      refine lv_if_eq (tgt := 34) hx hb dX11_divisor_13 (by decide) (fun c_14 => ?_) (fun c_14 => ?_)
      · skip
        have c_14 : x_11 = 0 := (lg_cmp_eq _ _).mp c_14
        refine lv_lload hx hb dX11_divisor_34 (lv_at hl 1 rfl) ?_
        exact x_retl S hr hlk hQ hS () (hdv.resolve_left (fun q => q c_14)) x_T dX11_divisor_36
      · skip
        have c_14 : ¬ x_11 = 0 := fun q => c_14 ((lg_cmp_eq _ _).mpr q)
        refine lv_lload hx hb dX11_divisor_16 (lv_at hl 1 rfl) ?_
        refine lv_lload hx hb dX11_divisor_18 (lv_at hl 0 rfl) ?_
        refine lv_lrem hx hb dX11_divisor_20 c_14 ?_
        refine lv_topl (fun v_15 ev_15 => ?_)
        refine lv_lstore (lv' := [(8, .long v_15), (6, .long x_11), (4, .long x_12), (0, .long p0), (2, .long p1)]) hx hb dX11_divisor_21 hl (by decide) rfl (fun ls hl => ?_)
        refine lv_lload hx hb dX11_divisor_23 (lv_at hl 1 rfl) ?_
        refine lv_lstore (lv' := [(4, .long x_11), (8, .long v_15), (6, .long x_11), (0, .long p0), (2, .long p1)]) hx hb dX11_divisor_25 hl (by decide) rfl (fun ls hl => ?_)
        refine lv_lload hx hb dX11_divisor_27 (lv_at hl 1 rfl) ?_
        refine lv_lstore (lv' := [(6, .long v_15), (4, .long x_11), (8, .long v_15), (0, .long p0), (2, .long p1)]) hx hb dX11_divisor_29 hl (by decide) rfl (fun ls hl => ?_)
        refine lv_goto (tgt := 9) hx hb dX11_divisor_31 (by decide) ?_
        exact ihj_10  v_15 x_11 _ _ _ (Nat.lt_of_lt_of_le (rem_lt ev_15 c_14) (Nat.le_of_lt_succ hnj_10)) (Or.inr c_14) hP hS (lv_sub hl [0, 1, 3, 4] rfl)
  exact lp_13 (p1.toInt.natAbs + 1)  p1 v_1 _ _ _ (Nat.lt_succ_self _) (Or.inl hne) hP hS (lv_sub hl [0, 1, 2, 3] rfl)

set_option maxHeartbeats 4000000 in
set_option maxRecDepth 100000 in
theorem ctX11_part (l : Launch) (D : va_G) (k : Nat → ClassId) (z : Nat → Nat) (p0 : Int64) (p1 : Int64) (p2 : Int32) (hne : ¬ p1 = 0) : RO l yX11_part cX11_part 5 (some .long) 2 D k z [.long p0, .long p1, .int p2] [] (Ql (fun r : Int64 => True)) := by
  refine RO.of (by decide) (Nat.le_of_ble_eq_true rfl) ?_
  intro p e s m below meth c ls A B args Q S hr hlk hQ hK hP hDW hZ hAB hBA hA hS hl
  have hx := S.1
  have hb := S.2.1
  have hl : lv_has ls 5 [(0, .long p0), (2, .long p1), (4, .int p2)] := hl
  refine lv_iload hx hb dX11_part_0 (lv_at hl 2 rfl) ?_
  refine lv_if_ne (tgt := 9) hx hb dX11_part_2 (by decide) (fun c_1 => ?_) (fun c_1 => ?_)
  · skip
    refine lv_lload_n hx hb dX11_part_9 rfl (lv_at hl 1 rfl) ?_
    refine lv_lload_n hx hb dX11_part_10 rfl (lv_at hl 0 rfl) ?_
    refine lv_lload_n hx hb dX11_part_11 rfl (lv_at hl 1 rfl) ?_
    refine x_roSl (As := [.long p0, .long p1]) S hK hP hDW hZ hAB hBA hS hA hl mwX11_divisor lkX11_385 (ctX11_divisor l D k z p0 p1 (hne)) [] rfl (by decide) rfl rfl ⟨Nat.le_of_ble_eq_true rfl, Nat.le_of_ble_eq_true rfl, Nat.le_of_ble_eq_true rfl⟩ dX11_part_12 ⟨Nat.le_of_ble_eq_true rfl, Nat.le_of_ble_eq_true rfl⟩ (fun r_2 H locs hr_2 hP hS => ?_)
    have hp_4 := hr_2
    refine lv_ldiv hx hb dX11_part_15 hp_4 ?_
    refine lv_topl (fun v_5 ev_5 => ?_)
    exact x_retl S hr hlk hQ hS () trivial x_T dX11_part_16
  · skip
    refine lv_lload_n hx hb dX11_part_5 rfl (lv_at hl 0 rfl) ?_
    refine lv_goto (tgt := 10) hx hb dX11_part_6 (by decide) ?_
    refine lv_lload_n hx hb dX11_part_10 rfl (lv_at hl 0 rfl) ?_
    refine lv_lload_n hx hb dX11_part_11 rfl (lv_at hl 1 rfl) ?_
    refine x_roSl (As := [.long p0, .long p1]) S hK hP hDW hZ hAB hBA hS hA hl mwX11_divisor lkX11_385 (ctX11_divisor l D k z p0 p1 (hne)) [] rfl (by decide) rfl rfl ⟨Nat.le_of_ble_eq_true rfl, Nat.le_of_ble_eq_true rfl, Nat.le_of_ble_eq_true rfl⟩ dX11_part_12 ⟨Nat.le_of_ble_eq_true rfl, Nat.le_of_ble_eq_true rfl⟩ (fun r_6 H locs hr_6 hP hS => ?_)
    have hp_8 := hr_6
    refine lv_ldiv hx hb dX11_part_15 hp_8 ?_
    refine lv_topl (fun v_9 ev_9 => ?_)
    exact x_retl S hr hlk hQ hS () trivial x_T dX11_part_16

set_option maxHeartbeats 4000000 in
set_option maxRecDepth 100000 in
theorem ctX11_choose_n (l : Launch) (D : va_G) (k : Nat → ClassId) (z : Nat → Nat) (p0 : Nat) (p1 : Nat) (hp0 : p0 ≤ 48) (hp1 : p1 ≤ 16) (hle : p1 ≤ p0) : RO l yX11_choose cX11_choose 5 (some .long) 0 D k z [.int (nI p0), .int (nI p1)] [] (Ql (fun r : Int64 => (¬ r = 0))) := by
  refine RO.of (by decide) (Nat.le_of_ble_eq_true rfl) ?_
  intro p e s m below meth c ls A B args Q S hr hlk hQ hK hP hDW hZ hAB hBA hA hS hl
  have hx := S.1
  have hb := S.2.1
  have hl : lv_has ls 5 [(0, .int (nI p0)), (1, .int (nI p1))] := hl
  refine lv_iload_n hx hb dX11_choose_0 rfl (lv_at hl 1 rfl) ?_
  refine lv_if_lt (tgt := 9) hx hb dX11_choose_1 (by decide) (fun c_1 => ?_) (fun c_1 => ?_)
  · skip
    have c_1 : p1 < 0 := (ni_lt rfl (by decide) (by omega) (by omega)).mp c_1
    exfalso; omega
  · skip
    have c_1 : ¬ p1 < 0 := fun q => c_1 ((ni_lt rfl (by decide) (by omega) (by omega)).mpr q)
    refine lv_iload_n hx hb dX11_choose_4 rfl (lv_at hl 1 rfl) ?_
    refine lv_iload_n hx hb dX11_choose_5 rfl (lv_at hl 0 rfl) ?_
    refine lv_icmp_le (tgt := 11) hx hb dX11_choose_6 (by decide) (fun c_2 => ?_) (fun c_2 => ?_)
    · skip
      have c_2 : p1 ≤ p0 := (ni_le rfl rfl (by omega) (by omega)).mp c_2
      refine lv_lconst (v := 1) hx hb dX11_choose_11 (by decide) ?_
      refine lv_lstore_n (lv' := [(2, .long 1), (0, .int (nI p0)), (1, .int (nI p1))]) hx hb dX11_choose_12 rfl hl (by decide) rfl (fun ls hl => ?_)
      refine lv_iconst (v := 0) hx hb dX11_choose_13 (by decide) ?_
      refine lv_istore (lv' := [(4, .int 0), (2, .long 1), (0, .int (nI p0)), (1, .int (nI p1))]) hx hb dX11_choose_14 hl (by decide) rfl (fun ls hl => ?_)
      have lp_17 : ∀ (nn j_15 : Nat) (x_16 : Int64) (H : Heap) (locs : List Loc) (ls : Array Slot), j_15 ≤ p1 → p1 - j_15 < nn → (x_16 = lN (chs p0 j_15)) → va_P D vwCl [] H → va_S A s.heap H locs → lv_has ls 5 [(4, .int (nI j_15)), (2, .long x_16), (0, .int (nI p0)), (1, .int (nI p1))] → W p l e (Rm 0 0 0) s m args below meth c H locs 0 0 Q (F0 m 16 ls []) := by
        intro nn
        induction nn with
        | zero => intro j_15 x_16 H locs ls hjj_15 hnj_15 hch; exact absurd hnj_15 (by omega)
        | succ nn ihj_15 =>
          intro j_15 x_16 H locs ls hjj_15 hnj_15 hch hP hS hl
          refine lv_iload hx hb dX11_choose_16 (lv_at hl 0 rfl) ?_
          refine lv_iload_n hx hb dX11_choose_18 rfl (lv_at hl 3 rfl) ?_
          refine lv_icmp_ge (tgt := 42) hx hb dX11_choose_19 (by decide) (fun c_18 => ?_) (fun c_18 => ?_)
          · skip
            have c_18 : p1 ≤ j_15 := (ni_le rfl rfl (by omega) (by omega)).mp c_18
            refine lv_lload_n hx hb dX11_choose_42 rfl (lv_at hl 1 rfl) ?_
            exact x_retl S hr hlk hQ hS () (chs_ne hch (by omega) (by omega) (by omega)) x_T dX11_choose_43
          · skip
            have c_18 : ¬ p1 ≤ j_15 := fun q => c_18 ((ni_le rfl rfl (by omega) (by omega)).mpr q)
            refine lv_lload_n hx hb dX11_choose_22 rfl (lv_at hl 1 rfl) ?_
            refine lv_iload_n hx hb dX11_choose_23 rfl (lv_at hl 2 rfl) ?_
            refine lv_iload hx hb dX11_choose_24 (lv_at hl 0 rfl) ?_
            refine lv_isub hx hb dX11_choose_26 ?_
            refine lv_topi (fun v_19 ev_19 => ?_)
            refine lv_i2l (v := v_19.toInt64) hx hb dX11_choose_27 rfl ?_
            refine lv_lmul hx hb dX11_choose_28 ?_
            refine lv_topl (fun v_20 ev_20 => ?_)
            refine lv_iload hx hb dX11_choose_29 (lv_at hl 0 rfl) ?_
            refine lv_iconst (v := 1) hx hb dX11_choose_31 (by decide) ?_
            refine lv_iadd hx hb dX11_choose_32 ?_
            refine x_is (nI (j_15 + 1)) (ni_add rfl (by decide)) ?_
            refine lv_i2l (v := (nI (j_15 + 1)).toInt64) hx hb dX11_choose_33 rfl ?_
            refine lv_ldiv hx hb dX11_choose_34 (ne0l (by omega) (by omega)) ?_
            refine lv_topl (fun v_21 ev_21 => ?_)
            refine lv_lstore_n (lv' := [(2, .long v_21), (4, .int (nI j_15)), (0, .int (nI p0)), (1, .int (nI p1))]) hx hb dX11_choose_35 rfl hl (by decide) rfl (fun ls hl => ?_)
            refine lv_iinc (v := (nI (j_15 + 1))) (lv' := [(4, .int (nI (j_15 + 1))), (2, .long v_21), (0, .int (nI p0)), (1, .int (nI p1))]) hx hb dX11_choose_36 hl (k := 1) rfl (ni_inc _) (by decide) rfl (fun ls hl => ?_)
            refine lv_goto (tgt := 16) hx hb dX11_choose_39 (by decide) ?_
            exact ihj_15 (j_15 + 1) v_21 _ _ _ (by omega) (by omega) (chs_step hch ev_19 ev_20 ev_21 (by omega) (by omega) (by omega)) hP hS (lv_sub hl [0, 1, 2, 3] rfl)
      exact lp_17 (p1 + 1) 0 1 _ _ _ (by omega) (by omega) (chs_i _) hP hS (lv_sub hl [0, 1, 2, 3] rfl)
    · skip
      have c_2 : ¬ p1 ≤ p0 := fun q => c_2 ((ni_le rfl rfl (by omega) (by omega)).mpr q)
      exfalso; omega

set_option maxHeartbeats 4000000 in
set_option maxRecDepth 100000 in
theorem ctX11_choose (l : Launch) (D : va_G) (k : Nat → ClassId) (z : Nat → Nat) (p0 : Int32) (p1 : Int32)  : RO l yX11_choose cX11_choose 5 (some .long) 0 D k z [.int p0, .int p1] [] (Ql (fun r : Int64 => True)) := by
  refine RO.of (by decide) (Nat.le_of_ble_eq_true rfl) ?_
  intro p e s m below meth c ls A B args Q S hr hlk hQ hK hP hDW hZ hAB hBA hA hS hl
  have hx := S.1
  have hb := S.2.1
  have hl : lv_has ls 5 [(0, .int p0), (1, .int p1)] := hl
  refine lv_iload_n hx hb dX11_choose_0 rfl (lv_at hl 1 rfl) ?_
  refine lv_if_lt (tgt := 9) hx hb dX11_choose_1 (by decide) (fun c_1 => ?_) (fun c_1 => ?_)
  · skip
    refine lv_lconst (v := 0) hx hb dX11_choose_9 (by decide) ?_
    exact x_retl S hr hlk hQ hS () trivial x_T dX11_choose_10
  · skip
    obtain ⟨kk, hkk, ekk⟩ : ∃ kk : Nat, kk < 2147483648 ∧ p1 = nI kk := natp c_1
    have hl : lv_has ls 5 [(0, .int p0), (1, .int (nI kk))] := by rw [ekk] at hl; exact hl
    refine lv_iload_n hx hb dX11_choose_4 rfl (lv_at hl 1 rfl) ?_
    refine lv_iload_n hx hb dX11_choose_5 rfl (lv_at hl 0 rfl) ?_
    refine lv_icmp_le (tgt := 11) hx hb dX11_choose_6 (by decide) (fun c_2 => ?_) (fun c_2 => ?_)
    · skip
      refine lv_lconst (v := 1) hx hb dX11_choose_11 (by decide) ?_
      refine lv_lstore_n (lv' := [(2, .long 1), (0, .int p0), (1, .int (nI kk))]) hx hb dX11_choose_12 rfl hl (by decide) rfl (fun ls hl => ?_)
      refine lv_iconst (v := 0) hx hb dX11_choose_13 (by decide) ?_
      refine lv_istore (lv' := [(4, .int 0), (2, .long 1), (0, .int p0), (1, .int (nI kk))]) hx hb dX11_choose_14 hl (by decide) rfl (fun ls hl => ?_)
      have lp_17 : ∀ (nn j_15 : Nat) (x_16 : Int64) (H : Heap) (locs : List Loc) (ls : Array Slot), j_15 ≤ kk → kk - j_15 < nn → va_P D vwCl [] H → va_S A s.heap H locs → lv_has ls 5 [(4, .int (nI j_15)), (2, .long x_16), (0, .int p0), (1, .int (nI kk))] → W p l e (Rm 0 0 0) s m args below meth c H locs 0 0 Q (F0 m 16 ls []) := by
        intro nn
        induction nn with
        | zero => intro j_15 x_16 H locs ls hjj_15 hnj_15; exact absurd hnj_15 (by omega)
        | succ nn ihj_15 =>
          intro j_15 x_16 H locs ls hjj_15 hnj_15 hP hS hl
          refine lv_iload hx hb dX11_choose_16 (lv_at hl 0 rfl) ?_
          refine lv_iload_n hx hb dX11_choose_18 rfl (lv_at hl 3 rfl) ?_
          refine lv_icmp_ge (tgt := 42) hx hb dX11_choose_19 (by decide) (fun c_18 => ?_) (fun c_18 => ?_)
          · skip
            have c_18 : kk ≤ j_15 := (ni_le rfl rfl (by omega) (by omega)).mp c_18
            refine lv_lload_n hx hb dX11_choose_42 rfl (lv_at hl 1 rfl) ?_
            exact x_retl S hr hlk hQ hS () trivial x_T dX11_choose_43
          · skip
            have c_18 : ¬ kk ≤ j_15 := fun q => c_18 ((ni_le rfl rfl (by omega) (by omega)).mpr q)
            refine lv_lload_n hx hb dX11_choose_22 rfl (lv_at hl 1 rfl) ?_
            refine lv_iload_n hx hb dX11_choose_23 rfl (lv_at hl 2 rfl) ?_
            refine lv_iload hx hb dX11_choose_24 (lv_at hl 0 rfl) ?_
            refine lv_isub hx hb dX11_choose_26 ?_
            refine lv_topi (fun v_19 ev_19 => ?_)
            refine lv_i2l (v := v_19.toInt64) hx hb dX11_choose_27 rfl ?_
            refine lv_lmul hx hb dX11_choose_28 ?_
            refine lv_topl (fun v_20 ev_20 => ?_)
            refine lv_iload hx hb dX11_choose_29 (lv_at hl 0 rfl) ?_
            refine lv_iconst (v := 1) hx hb dX11_choose_31 (by decide) ?_
            refine lv_iadd hx hb dX11_choose_32 ?_
            refine x_is (nI (j_15 + 1)) (ni_add rfl (by decide)) ?_
            refine lv_i2l (v := (nI (j_15 + 1)).toInt64) hx hb dX11_choose_33 rfl ?_
            refine lv_ldiv hx hb dX11_choose_34 (ne0l (by omega) (by omega)) ?_
            refine lv_topl (fun v_21 ev_21 => ?_)
            refine lv_lstore_n (lv' := [(2, .long v_21), (4, .int (nI j_15)), (0, .int p0), (1, .int (nI kk))]) hx hb dX11_choose_35 rfl hl (by decide) rfl (fun ls hl => ?_)
            refine lv_iinc (v := (nI (j_15 + 1))) (lv' := [(4, .int (nI (j_15 + 1))), (2, .long v_21), (0, .int p0), (1, .int (nI kk))]) hx hb dX11_choose_36 hl (k := 1) rfl (ni_inc _) (by decide) rfl (fun ls hl => ?_)
            refine lv_goto (tgt := 16) hx hb dX11_choose_39 (by decide) ?_
            exact ihj_15 (j_15 + 1) v_21 _ _ _ (by omega) (by omega) hP hS (lv_sub hl [0, 1, 2, 3] rfl)
      exact lp_17 (kk + 1) 0 1 _ _ _ (by omega) (by omega) hP hS (lv_sub hl [0, 1, 2, 3] rfl)
    · skip
      refine lv_lconst (v := 0) hx hb dX11_choose_9 (by decide) ?_
      exact x_retl S hr hlk hQ hS () trivial x_T dX11_choose_10

set_option maxHeartbeats 4000000 in
set_option maxRecDepth 100000 in
theorem ctX11_isGarden (l : Launch) (D : va_G) (k : Nat → ClassId) (z : Nat → Nat) (n : Nat → Nat) (mthrown : Int32) (mtaped : Nat) (msize : Nat) (mat : Nat) (mfrom : Nat) (mtoken : Int32) (mvalue : Int32) (mfaultKind : Int32) (mfaultPlace : Int32) (mmoreMany : Nat) (mlawNow : Int32) (mwetSet : Int32) (moverAll : Int32) (mones : Int32) (mtwos : Int32) (mgone : Int32) (mroundNow : Int32) (msampleFor : Int64) (msampleAll : Int64) (maskWorst : Int32) (moftenAll : Int64) (moftenView : Int64) (moftenOnes : Int64) (fworld : Nat → Int32) (hmtaped : mtaped ≤ 600) (hmsize : msize ≤ 600) (hmat : mat ≤ 600) (hmfrom : mfrom ≤ 600) (hmmoreMany : mmoreMany ≤ 14) (hkworld : okW fworld) : RO l yX11_isGarden cX11_isGarden 1 (some .boolean) 0 D k z [.ref (n 0)] [((n 0), .inr (11, [.int mthrown, .ref (n 1), .ref (n 2), .ref (n 3), .ref (n 4), .int (nI mtaped), .ref (n 5), .int (nI msize), .int (nI mat), .int (nI mfrom), .int mtoken, .int mvalue, .int mfaultKind, .int mfaultPlace, .ref (n 6), .ref (n 7), .ref (n 8), .ref (n 9), .ref (n 10), .ref (n 11), .ref (n 12), .int (nI mmoreMany), .int mlawNow, .int mwetSet, .int moverAll, .ref (n 13), .ref (n 14), .ref (n 15), .int mones, .int mtwos, .int mgone, .ref (n 16), .ref (n 17), .int mroundNow, .ref (n 18), .long msampleFor, .long msampleAll, .ref (n 19), .int maskWorst, .long moftenAll, .long moftenView, .long moftenOnes, .ref (n 20), .ref (n 21), .ref (n 22), .ref (n 23)])), ((n 1), .inl (k 0, 99, .inl fworld))] (Qi (fun r : Int32 => (r = 0 ∨ r = 1))) := by
  refine RO.of (by decide) (Nat.le_of_ble_eq_true rfl) ?_
  intro p e s m below meth c ls A B args Q S hr hlk hQ hK hP hDW hZ hAB hBA hA hS hl
  have hx := S.1
  have hb := S.2.1
  have hl : lv_has ls 1 [(0, .ref (n 0))] := hl
  have hbfworld := okW_bd hkworld
  refine lv_aload_n hx hb dX11_isGarden_0 rfl (lv_at hl 0 rfl) ?_
  refine x_get S hK hP 0 rfl cfX11 1 lkX11_9 (by decide) rfl dX11_isGarden_1 ?_
  refine lv_bipush (v := 8) hx hb dX11_isGarden_4 (by decide) ?_
  refine x_iald S hK hP 1 rfl (vp_lit (by decide)) dX11_isGarden_6 ?_
  refine lv_topi (fun v_1 ev_1 => ?_)
  refine lv_if_le (tgt := 14) hx hb dX11_isGarden_7 (by decide) (fun c_2 => ?_) (fun c_2 => ?_)
  · skip
    refine lv_iconst (v := 0) hx hb dX11_isGarden_14 (by decide) ?_
    exact x_retz S hr hlk hQ hS rfl () (Or.inl rfl) x_T dX11_isGarden_15
  · skip
    refine lv_iconst (v := 1) hx hb dX11_isGarden_10 (by decide) ?_
    refine lv_goto (tgt := 15) hx hb dX11_isGarden_11 (by decide) ?_
    exact x_retz S hr hlk hQ hS rfl () (Or.inr rfl) x_T dX11_isGarden_15

set_option maxHeartbeats 4000000 in
set_option maxRecDepth 100000 in
theorem ctX11_hours (l : Launch) (D : va_G) (k : Nat → ClassId) (z : Nat → Nat) (n : Nat → Nat) (mthrown : Int32) (mtaped : Nat) (msize : Nat) (mat : Nat) (mfrom : Nat) (mtoken : Int32) (mvalue : Int32) (mfaultKind : Int32) (mfaultPlace : Int32) (mmoreMany : Nat) (mlawNow : Int32) (mwetSet : Int32) (moverAll : Int32) (mones : Int32) (mtwos : Int32) (mgone : Int32) (mroundNow : Int32) (msampleFor : Int64) (msampleAll : Int64) (maskWorst : Int32) (moftenAll : Int64) (moftenView : Int64) (moftenOnes : Int64) (fworld : Nat → Int32) (hmtaped : mtaped ≤ 600) (hmsize : msize ≤ 600) (hmat : mat ≤ 600) (hmfrom : mfrom ≤ 600) (hmmoreMany : mmoreMany ≤ 14) (hkworld : okW fworld) : RO l yX11_hours cX11_hours 1 (some .int) 0 D k z [.ref (n 0)] [((n 0), .inr (11, [.int mthrown, .ref (n 1), .ref (n 2), .ref (n 3), .ref (n 4), .int (nI mtaped), .ref (n 5), .int (nI msize), .int (nI mat), .int (nI mfrom), .int mtoken, .int mvalue, .int mfaultKind, .int mfaultPlace, .ref (n 6), .ref (n 7), .ref (n 8), .ref (n 9), .ref (n 10), .ref (n 11), .ref (n 12), .int (nI mmoreMany), .int mlawNow, .int mwetSet, .int moverAll, .ref (n 13), .ref (n 14), .ref (n 15), .int mones, .int mtwos, .int mgone, .ref (n 16), .ref (n 17), .int mroundNow, .ref (n 18), .long msampleFor, .long msampleAll, .ref (n 19), .int maskWorst, .long moftenAll, .long moftenView, .long moftenOnes, .ref (n 20), .ref (n 21), .ref (n 22), .ref (n 23)])), ((n 1), .inl (k 0, 99, .inl fworld))] (Qi (fun r : Int32 => (r = (nI (wn fworld 0))))) := by
  refine RO.of (by decide) (Nat.le_of_ble_eq_true rfl) ?_
  intro p e s m below meth c ls A B args Q S hr hlk hQ hK hP hDW hZ hAB hBA hA hS hl
  have hx := S.1
  have hb := S.2.1
  have hl : lv_has ls 1 [(0, .ref (n 0))] := hl
  have hbfworld := okW_bd hkworld
  refine lv_aload_n hx hb dX11_hours_0 rfl (lv_at hl 0 rfl) ?_
  refine x_get S hK hP 0 rfl cfX11 1 lkX11_9 (by decide) rfl dX11_hours_1 ?_
  refine lv_iconst (v := 0) hx hb dX11_hours_4 (by decide) ?_
  refine x_iald S hK hP 1 rfl (vp_lit (by decide)) dX11_hours_5 ?_
  refine x_is (nI (wn fworld 0)) ((cl_at (f := fworld) (a := 0) (by decide) (by omega)).trans (okW_at hkworld (i := 0) (by omega))) ?_
  exact x_reti S hr hlk hQ hS () rfl x_T dX11_hours_6

set_option maxHeartbeats 4000000 in
set_option maxRecDepth 100000 in
theorem ctX11_headMany (l : Launch) (D : va_G) (k : Nat → ClassId) (z : Nat → Nat) (n : Nat → Nat) (mthrown : Int32) (mtaped : Nat) (msize : Nat) (mat : Nat) (mfrom : Nat) (mtoken : Int32) (mvalue : Int32) (mfaultKind : Int32) (mfaultPlace : Int32) (mmoreMany : Nat) (mlawNow : Int32) (mwetSet : Int32) (moverAll : Int32) (mones : Int32) (mtwos : Int32) (mgone : Int32) (mroundNow : Int32) (msampleFor : Int64) (msampleAll : Int64) (maskWorst : Int32) (moftenAll : Int64) (moftenView : Int64) (moftenOnes : Int64) (fworld : Nat → Int32) (hmtaped : mtaped ≤ 600) (hmsize : msize ≤ 600) (hmat : mat ≤ 600) (hmfrom : mfrom ≤ 600) (hmmoreMany : mmoreMany ≤ 14) (hkworld : okW fworld) : RO l yX11_headMany cX11_headMany 1 (some .int) 0 D k z [.ref (n 0)] [((n 0), .inr (11, [.int mthrown, .ref (n 1), .ref (n 2), .ref (n 3), .ref (n 4), .int (nI mtaped), .ref (n 5), .int (nI msize), .int (nI mat), .int (nI mfrom), .int mtoken, .int mvalue, .int mfaultKind, .int mfaultPlace, .ref (n 6), .ref (n 7), .ref (n 8), .ref (n 9), .ref (n 10), .ref (n 11), .ref (n 12), .int (nI mmoreMany), .int mlawNow, .int mwetSet, .int moverAll, .ref (n 13), .ref (n 14), .ref (n 15), .int mones, .int mtwos, .int mgone, .ref (n 16), .ref (n 17), .int mroundNow, .ref (n 18), .long msampleFor, .long msampleAll, .ref (n 19), .int maskWorst, .long moftenAll, .long moftenView, .long moftenOnes, .ref (n 20), .ref (n 21), .ref (n 22), .ref (n 23)])), ((n 1), .inl (k 0, 99, .inl fworld))] (Qi (fun r : Int32 => (r = (nI (wn fworld 4))))) := by
  refine RO.of (by decide) (Nat.le_of_ble_eq_true rfl) ?_
  intro p e s m below meth c ls A B args Q S hr hlk hQ hK hP hDW hZ hAB hBA hA hS hl
  have hx := S.1
  have hb := S.2.1
  have hl : lv_has ls 1 [(0, .ref (n 0))] := hl
  have hbfworld := okW_bd hkworld
  refine lv_aload_n hx hb dX11_headMany_0 rfl (lv_at hl 0 rfl) ?_
  refine x_get S hK hP 0 rfl cfX11 1 lkX11_9 (by decide) rfl dX11_headMany_1 ?_
  refine lv_iconst (v := 4) hx hb dX11_headMany_4 (by decide) ?_
  refine x_iald S hK hP 1 rfl (vp_lit (by decide)) dX11_headMany_5 ?_
  refine x_is (nI (wn fworld 4)) ((cl_at (f := fworld) (a := 4) (by decide) (by omega)).trans (okW_at hkworld (i := 4) (by omega))) ?_
  exact x_reti S hr hlk hQ hS () rfl x_T dX11_headMany_6

set_option maxHeartbeats 4000000 in
set_option maxRecDepth 100000 in
theorem ctX11_allHeads (l : Launch) (D : va_G) (k : Nat → ClassId) (z : Nat → Nat) (n : Nat → Nat) (mthrown : Int32) (mtaped : Nat) (msize : Nat) (mat : Nat) (mfrom : Nat) (mtoken : Int32) (mvalue : Int32) (mfaultKind : Int32) (mfaultPlace : Int32) (mmoreMany : Nat) (mlawNow : Int32) (mwetSet : Int32) (moverAll : Int32) (mones : Int32) (mtwos : Int32) (mgone : Int32) (mroundNow : Int32) (msampleFor : Int64) (msampleAll : Int64) (maskWorst : Int32) (moftenAll : Int64) (moftenView : Int64) (moftenOnes : Int64) (fworld : Nat → Int32) (hmtaped : mtaped ≤ 600) (hmsize : msize ≤ 600) (hmat : mat ≤ 600) (hmfrom : mfrom ≤ 600) (hmmoreMany : mmoreMany ≤ 14) (hkworld : okW fworld) : RO l yX11_allHeads cX11_allHeads 1 (some .int) 1 D k z [.ref (n 0)] [((n 0), .inr (11, [.int mthrown, .ref (n 1), .ref (n 2), .ref (n 3), .ref (n 4), .int (nI mtaped), .ref (n 5), .int (nI msize), .int (nI mat), .int (nI mfrom), .int mtoken, .int mvalue, .int mfaultKind, .int mfaultPlace, .ref (n 6), .ref (n 7), .ref (n 8), .ref (n 9), .ref (n 10), .ref (n 11), .ref (n 12), .int (nI mmoreMany), .int mlawNow, .int mwetSet, .int moverAll, .ref (n 13), .ref (n 14), .ref (n 15), .int mones, .int mtwos, .int mgone, .ref (n 16), .ref (n 17), .int mroundNow, .ref (n 18), .long msampleFor, .long msampleAll, .ref (n 19), .int maskWorst, .long moftenAll, .long moftenView, .long moftenOnes, .ref (n 20), .ref (n 21), .ref (n 22), .ref (n 23)])), ((n 1), .inl (k 0, 99, .inl fworld))] (Qi (fun r : Int32 => (r = (nI (2 ^ wn fworld 4 - 1))) ∧ (2 ^ wn fworld 4 ≤ 4096))) := by
  refine RO.of (by decide) (Nat.le_of_ble_eq_true rfl) ?_
  intro p e s m below meth c ls A B args Q S hr hlk hQ hK hP hDW hZ hAB hBA hA hS hl
  have hx := S.1
  have hb := S.2.1
  have hl : lv_has ls 1 [(0, .ref (n 0))] := hl
  have hbfworld := okW_bd hkworld
  refine lv_iconst (v := 1) hx hb dX11_allHeads_0 (by decide) ?_
  refine lv_aload_n hx hb dX11_allHeads_1 rfl (lv_at hl 0 rfl) ?_
  refine x_roVi (As := []) S hK hP hDW hZ hAB hBA hS hA hl mwX11_headMany lkX11_95 (ctX11_headMany l D k z n mthrown mtaped msize mat mfrom mtoken mvalue mfaultKind mfaultPlace mmoreMany mlawNow mwetSet moverAll mones mtwos mgone mroundNow msampleFor msampleAll maskWorst moftenAll moftenView moftenOnes fworld (by omega) (by omega) (by omega) (by omega) (by omega) (hkworld)) [0, 1] rfl (by decide) rfl rfl rfl rfl rfl ⟨Nat.le_of_ble_eq_true rfl, Nat.le_of_ble_eq_true rfl, Nat.le_of_ble_eq_true rfl⟩ dX11_allHeads_2 ⟨Nat.le_of_ble_eq_true rfl, Nat.le_of_ble_eq_true rfl⟩ (fun r_1 H locs hr_1 hP hS => ?_)
  obtain rfl := hr_1
  refine lv_ishl hx hb dX11_allHeads_5 ?_
  refine lv_topi (fun v_3 ev_3 => ?_)
  refine lv_iconst (v := 1) hx hb dX11_allHeads_6 (by decide) ?_
  refine lv_isub hx hb dX11_allHeads_7 ?_
  refine lv_topi (fun v_4 ev_4 => ?_)
  exact x_reti S hr hlk hQ hS () ⟨(by rw [ev_4, ev_3]; exact ev12 _ (by omega)), (pow12 _ (by omega))⟩ x_T dX11_allHeads_8

set_option maxHeartbeats 4000000 in
set_option maxRecDepth 100000 in
theorem ctX11_isHead_i (l : Launch) (D : va_G) (k : Nat → ClassId) (z : Nat → Nat) (n : Nat → Nat) (mthrown : Int32) (mtaped : Nat) (msize : Nat) (mat : Nat) (mfrom : Nat) (mtoken : Int32) (mvalue : Int32) (mfaultKind : Int32) (mfaultPlace : Int32) (mmoreMany : Nat) (mlawNow : Int32) (mwetSet : Int32) (moverAll : Int32) (mones : Int32) (mtwos : Int32) (mgone : Int32) (mroundNow : Int32) (msampleFor : Int64) (msampleAll : Int64) (maskWorst : Int32) (moftenAll : Int64) (moftenView : Int64) (moftenOnes : Int64) (fworld : Nat → Int32) (p0 : Int32) (hmtaped : mtaped ≤ 600) (hmsize : msize ≤ 600) (hmat : mat ≤ 600) (hmfrom : mfrom ≤ 600) (hmmoreMany : mmoreMany ≤ 14) (hkworld : okW fworld) : RO l yX11_isHead cX11_isHead 3 (some .boolean) 1 D k z [.ref (n 0), .long p0.toInt64] [((n 0), .inr (11, [.int mthrown, .ref (n 1), .ref (n 2), .ref (n 3), .ref (n 4), .int (nI mtaped), .ref (n 5), .int (nI msize), .int (nI mat), .int (nI mfrom), .int mtoken, .int mvalue, .int mfaultKind, .int mfaultPlace, .ref (n 6), .ref (n 7), .ref (n 8), .ref (n 9), .ref (n 10), .ref (n 11), .ref (n 12), .int (nI mmoreMany), .int mlawNow, .int mwetSet, .int moverAll, .ref (n 13), .ref (n 14), .ref (n 15), .int mones, .int mtwos, .int mgone, .ref (n 16), .ref (n 17), .int mroundNow, .ref (n 18), .long msampleFor, .long msampleAll, .ref (n 19), .int maskWorst, .long moftenAll, .long moftenView, .long moftenOnes, .ref (n 20), .ref (n 21), .ref (n 22), .ref (n 23)])), ((n 1), .inl (k 0, 99, .inl fworld))] (Qi (fun r : Int32 => (r = 0 ∨ (∃ j : Nat, p0 = nI j ∧ j < wn fworld 4)) ∧ (r = 0 ∨ r = 1))) := by
  refine RO.of (by decide) (Nat.le_of_ble_eq_true rfl) ?_
  intro p e s m below meth c ls A B args Q S hr hlk hQ hK hP hDW hZ hAB hBA hA hS hl
  have hx := S.1
  have hb := S.2.1
  have hl : lv_has ls 3 [(0, .ref (n 0)), (1, .long p0.toInt64)] := hl
  have hbfworld := okW_bd hkworld
  refine lv_lload_n hx hb dX11_isHead_0 rfl (lv_at hl 1 rfl) ?_
  refine lv_lconst (v := 0) hx hb dX11_isHead_1 (by decide) ?_
  refine lv_aload_n hx hb dX11_isHead_2 rfl (lv_at hl 0 rfl) ?_
  refine x_roVi (As := []) S hK hP hDW hZ hAB hBA hS hA hl mwX11_headMany lkX11_95 (ctX11_headMany l D k z n mthrown mtaped msize mat mfrom mtoken mvalue mfaultKind mfaultPlace mmoreMany mlawNow mwetSet moverAll mones mtwos mgone mroundNow msampleFor msampleAll maskWorst moftenAll moftenView moftenOnes fworld (by omega) (by omega) (by omega) (by omega) (by omega) (hkworld)) [0, 1] rfl (by decide) rfl rfl rfl rfl rfl ⟨Nat.le_of_ble_eq_true rfl, Nat.le_of_ble_eq_true rfl, Nat.le_of_ble_eq_true rfl⟩ dX11_isHead_3 ⟨Nat.le_of_ble_eq_true rfl, Nat.le_of_ble_eq_true rfl⟩ (fun r_1 H locs hr_1 hP hS => ?_)
  obtain rfl := hr_1
  refine lv_iconst (v := 1) hx hb dX11_isHead_6 (by decide) ?_
  refine lv_isub hx hb dX11_isHead_7 ?_
  refine lv_topi (fun v_3 ev_3 => ?_)
  refine lv_i2l (v := v_3.toInt64) hx hb dX11_isHead_8 rfl ?_
  refine x_roSi (As := [.long p0.toInt64, .long 0, .long v_3.toInt64]) S hK hP hDW hZ hAB hBA hS hA hl mwX11_in lkX11_91 (ctX11_in l D k z p0.toInt64 0 v_3.toInt64 ) [] rfl (by decide) rfl rfl ⟨Nat.le_of_ble_eq_true rfl, Nat.le_of_ble_eq_true rfl, Nat.le_of_ble_eq_true rfl⟩ dX11_isHead_9 ⟨Nat.le_of_ble_eq_true rfl, Nat.le_of_ble_eq_true rfl⟩ (fun r_4 H locs hr_4 hP hS => ?_)
  obtain rfl := hr_4
  exact x_retz S hr hlk hQ hS bo_nar () ⟨(bo_sub ev_3 (by omega)), bo_zz⟩ x_T dX11_isHead_12

set_option maxHeartbeats 4000000 in
set_option maxRecDepth 100000 in
theorem ctX11_isHead_l (l : Launch) (D : va_G) (k : Nat → ClassId) (z : Nat → Nat) (n : Nat → Nat) (mthrown : Int32) (mtaped : Nat) (msize : Nat) (mat : Nat) (mfrom : Nat) (mtoken : Int32) (mvalue : Int32) (mfaultKind : Int32) (mfaultPlace : Int32) (mmoreMany : Nat) (mlawNow : Int32) (mwetSet : Int32) (moverAll : Int32) (mones : Int32) (mtwos : Int32) (mgone : Int32) (mroundNow : Int32) (msampleFor : Int64) (msampleAll : Int64) (maskWorst : Int32) (moftenAll : Int64) (moftenView : Int64) (moftenOnes : Int64) (fworld : Nat → Int32) (p0 : Int64) (hmtaped : mtaped ≤ 600) (hmsize : msize ≤ 600) (hmat : mat ≤ 600) (hmfrom : mfrom ≤ 600) (hmmoreMany : mmoreMany ≤ 14) (hkworld : okW fworld) : RO l yX11_isHead cX11_isHead 3 (some .boolean) 1 D k z [.ref (n 0), .long p0] [((n 0), .inr (11, [.int mthrown, .ref (n 1), .ref (n 2), .ref (n 3), .ref (n 4), .int (nI mtaped), .ref (n 5), .int (nI msize), .int (nI mat), .int (nI mfrom), .int mtoken, .int mvalue, .int mfaultKind, .int mfaultPlace, .ref (n 6), .ref (n 7), .ref (n 8), .ref (n 9), .ref (n 10), .ref (n 11), .ref (n 12), .int (nI mmoreMany), .int mlawNow, .int mwetSet, .int moverAll, .ref (n 13), .ref (n 14), .ref (n 15), .int mones, .int mtwos, .int mgone, .ref (n 16), .ref (n 17), .int mroundNow, .ref (n 18), .long msampleFor, .long msampleAll, .ref (n 19), .int maskWorst, .long moftenAll, .long moftenView, .long moftenOnes, .ref (n 20), .ref (n 21), .ref (n 22), .ref (n 23)])), ((n 1), .inl (k 0, 99, .inl fworld))] (Qi (fun r : Int32 => (r = 0 ∨ r = 1))) := by
  refine RO.of (by decide) (Nat.le_of_ble_eq_true rfl) ?_
  intro p e s m below meth c ls A B args Q S hr hlk hQ hK hP hDW hZ hAB hBA hA hS hl
  have hx := S.1
  have hb := S.2.1
  have hl : lv_has ls 3 [(0, .ref (n 0)), (1, .long p0)] := hl
  have hbfworld := okW_bd hkworld
  refine lv_lload_n hx hb dX11_isHead_0 rfl (lv_at hl 1 rfl) ?_
  refine lv_lconst (v := 0) hx hb dX11_isHead_1 (by decide) ?_
  refine lv_aload_n hx hb dX11_isHead_2 rfl (lv_at hl 0 rfl) ?_
  refine x_roVi (As := []) S hK hP hDW hZ hAB hBA hS hA hl mwX11_headMany lkX11_95 (ctX11_headMany l D k z n mthrown mtaped msize mat mfrom mtoken mvalue mfaultKind mfaultPlace mmoreMany mlawNow mwetSet moverAll mones mtwos mgone mroundNow msampleFor msampleAll maskWorst moftenAll moftenView moftenOnes fworld (by omega) (by omega) (by omega) (by omega) (by omega) (hkworld)) [0, 1] rfl (by decide) rfl rfl rfl rfl rfl ⟨Nat.le_of_ble_eq_true rfl, Nat.le_of_ble_eq_true rfl, Nat.le_of_ble_eq_true rfl⟩ dX11_isHead_3 ⟨Nat.le_of_ble_eq_true rfl, Nat.le_of_ble_eq_true rfl⟩ (fun r_1 H locs hr_1 hP hS => ?_)
  obtain rfl := hr_1
  refine lv_iconst (v := 1) hx hb dX11_isHead_6 (by decide) ?_
  refine lv_isub hx hb dX11_isHead_7 ?_
  refine lv_topi (fun v_3 ev_3 => ?_)
  refine lv_i2l (v := v_3.toInt64) hx hb dX11_isHead_8 rfl ?_
  refine x_roSi (As := [.long p0, .long 0, .long v_3.toInt64]) S hK hP hDW hZ hAB hBA hS hA hl mwX11_in lkX11_91 (ctX11_in l D k z p0 0 v_3.toInt64 ) [] rfl (by decide) rfl rfl ⟨Nat.le_of_ble_eq_true rfl, Nat.le_of_ble_eq_true rfl, Nat.le_of_ble_eq_true rfl⟩ dX11_isHead_9 ⟨Nat.le_of_ble_eq_true rfl, Nat.le_of_ble_eq_true rfl⟩ (fun r_4 H locs hr_4 hP hS => ?_)
  obtain rfl := hr_4
  exact x_retz S hr hlk hQ hS bo_nar () bo_zz x_T dX11_isHead_12

set_option maxHeartbeats 4000000 in
set_option maxRecDepth 100000 in
theorem ctX11_isRow (l : Launch) (D : va_G) (k : Nat → ClassId) (z : Nat → Nat) (n : Nat → Nat) (mthrown : Int32) (mtaped : Nat) (msize : Nat) (mat : Nat) (mfrom : Nat) (mtoken : Int32) (mvalue : Int32) (mfaultKind : Int32) (mfaultPlace : Int32) (mmoreMany : Nat) (mlawNow : Int32) (mwetSet : Int32) (moverAll : Int32) (mones : Int32) (mtwos : Int32) (mgone : Int32) (mroundNow : Int32) (msampleFor : Int64) (msampleAll : Int64) (maskWorst : Int32) (moftenAll : Int64) (moftenView : Int64) (moftenOnes : Int64) (fworld : Nat → Int32) (p0 : Int32) (hmtaped : mtaped ≤ 600) (hmsize : msize ≤ 600) (hmat : mat ≤ 600) (hmfrom : mfrom ≤ 600) (hmmoreMany : mmoreMany ≤ 14) (hkworld : okW fworld) : RO l yX11_isRow cX11_isRow 2 (some .boolean) 1 D k z [.ref (n 0), .int p0] [((n 0), .inr (11, [.int mthrown, .ref (n 1), .ref (n 2), .ref (n 3), .ref (n 4), .int (nI mtaped), .ref (n 5), .int (nI msize), .int (nI mat), .int (nI mfrom), .int mtoken, .int mvalue, .int mfaultKind, .int mfaultPlace, .ref (n 6), .ref (n 7), .ref (n 8), .ref (n 9), .ref (n 10), .ref (n 11), .ref (n 12), .int (nI mmoreMany), .int mlawNow, .int mwetSet, .int moverAll, .ref (n 13), .ref (n 14), .ref (n 15), .int mones, .int mtwos, .int mgone, .ref (n 16), .ref (n 17), .int mroundNow, .ref (n 18), .long msampleFor, .long msampleAll, .ref (n 19), .int maskWorst, .long moftenAll, .long moftenView, .long moftenOnes, .ref (n 20), .ref (n 21), .ref (n 22), .ref (n 23)])), ((n 1), .inl (k 0, 99, .inl fworld))] (Qi (fun r : Int32 => (r = 0 ∨ (∃ j : Nat, p0 = nI j ∧ j < wn fworld 3)) ∧ (r = 0 ∨ r = 1))) := by
  refine RO.of (by decide) (Nat.le_of_ble_eq_true rfl) ?_
  intro p e s m below meth c ls A B args Q S hr hlk hQ hK hP hDW hZ hAB hBA hA hS hl
  have hx := S.1
  have hb := S.2.1
  have hl : lv_has ls 2 [(0, .ref (n 0)), (1, .int p0)] := hl
  have hbfworld := okW_bd hkworld
  refine lv_iload_n hx hb dX11_isRow_0 rfl (lv_at hl 1 rfl) ?_
  refine lv_i2l (v := p0.toInt64) hx hb dX11_isRow_1 rfl ?_
  refine lv_lconst (v := 0) hx hb dX11_isRow_2 (by decide) ?_
  refine lv_aload_n hx hb dX11_isRow_3 rfl (lv_at hl 0 rfl) ?_
  refine x_get S hK hP 0 rfl cfX11 1 lkX11_9 (by decide) rfl dX11_isRow_4 ?_
  refine lv_iconst (v := 3) hx hb dX11_isRow_7 (by decide) ?_
  refine x_iald S hK hP 1 rfl (vp_lit (by decide)) dX11_isRow_8 ?_
  refine x_is (nI (wn fworld 3)) ((cl_at (f := fworld) (a := 3) (by decide) (by omega)).trans (okW_at hkworld (i := 3) (by omega))) ?_
  refine lv_iconst (v := 1) hx hb dX11_isRow_9 (by decide) ?_
  refine lv_isub hx hb dX11_isRow_10 ?_
  refine lv_topi (fun v_1 ev_1 => ?_)
  refine lv_i2l (v := v_1.toInt64) hx hb dX11_isRow_11 rfl ?_
  refine x_roSi (As := [.long p0.toInt64, .long 0, .long v_1.toInt64]) S hK hP hDW hZ hAB hBA hS hA hl mwX11_in lkX11_91 (ctX11_in l D k z p0.toInt64 0 v_1.toInt64 ) [] rfl (by decide) rfl rfl ⟨Nat.le_of_ble_eq_true rfl, Nat.le_of_ble_eq_true rfl, Nat.le_of_ble_eq_true rfl⟩ dX11_isRow_12 ⟨Nat.le_of_ble_eq_true rfl, Nat.le_of_ble_eq_true rfl⟩ (fun r_2 H locs hr_2 hP hS => ?_)
  obtain rfl := hr_2
  exact x_retz S hr hlk hQ hS bo_nar () ⟨(bo_sub ev_1 (by omega)), bo_zz⟩ x_T dX11_isRow_15

set_option maxHeartbeats 4000000 in
set_option maxRecDepth 100000 in
theorem ctX11_isHour_i (l : Launch) (D : va_G) (k : Nat → ClassId) (z : Nat → Nat) (n : Nat → Nat) (mthrown : Int32) (mtaped : Nat) (msize : Nat) (mat : Nat) (mfrom : Nat) (mtoken : Int32) (mvalue : Int32) (mfaultKind : Int32) (mfaultPlace : Int32) (mmoreMany : Nat) (mlawNow : Int32) (mwetSet : Int32) (moverAll : Int32) (mones : Int32) (mtwos : Int32) (mgone : Int32) (mroundNow : Int32) (msampleFor : Int64) (msampleAll : Int64) (maskWorst : Int32) (moftenAll : Int64) (moftenView : Int64) (moftenOnes : Int64) (fworld : Nat → Int32) (p0 : Int32) (hmtaped : mtaped ≤ 600) (hmsize : msize ≤ 600) (hmat : mat ≤ 600) (hmfrom : mfrom ≤ 600) (hmmoreMany : mmoreMany ≤ 14) (hkworld : okW fworld) : RO l yX11_isHour cX11_isHour 3 (some .boolean) 1 D k z [.ref (n 0), .long p0.toInt64] [((n 0), .inr (11, [.int mthrown, .ref (n 1), .ref (n 2), .ref (n 3), .ref (n 4), .int (nI mtaped), .ref (n 5), .int (nI msize), .int (nI mat), .int (nI mfrom), .int mtoken, .int mvalue, .int mfaultKind, .int mfaultPlace, .ref (n 6), .ref (n 7), .ref (n 8), .ref (n 9), .ref (n 10), .ref (n 11), .ref (n 12), .int (nI mmoreMany), .int mlawNow, .int mwetSet, .int moverAll, .ref (n 13), .ref (n 14), .ref (n 15), .int mones, .int mtwos, .int mgone, .ref (n 16), .ref (n 17), .int mroundNow, .ref (n 18), .long msampleFor, .long msampleAll, .ref (n 19), .int maskWorst, .long moftenAll, .long moftenView, .long moftenOnes, .ref (n 20), .ref (n 21), .ref (n 22), .ref (n 23)])), ((n 1), .inl (k 0, 99, .inl fworld))] (Qi (fun r : Int32 => (r = 0 ∨ (∃ j : Nat, p0 = nI j ∧ j ≤ wn fworld 0)) ∧ (r = 0 ∨ r = 1))) := by
  refine RO.of (by decide) (Nat.le_of_ble_eq_true rfl) ?_
  intro p e s m below meth c ls A B args Q S hr hlk hQ hK hP hDW hZ hAB hBA hA hS hl
  have hx := S.1
  have hb := S.2.1
  have hl : lv_has ls 3 [(0, .ref (n 0)), (1, .long p0.toInt64)] := hl
  have hbfworld := okW_bd hkworld
  refine lv_aload_n hx hb dX11_isHour_0 rfl (lv_at hl 0 rfl) ?_
  refine x_roVi (As := []) S hK hP hDW hZ hAB hBA hS hA hl mwX11_isGarden lkX11_99 (ctX11_isGarden l D k z n mthrown mtaped msize mat mfrom mtoken mvalue mfaultKind mfaultPlace mmoreMany mlawNow mwetSet moverAll mones mtwos mgone mroundNow msampleFor msampleAll maskWorst moftenAll moftenView moftenOnes fworld (by omega) (by omega) (by omega) (by omega) (by omega) (hkworld)) [0, 1] rfl (by decide) rfl rfl rfl rfl rfl ⟨Nat.le_of_ble_eq_true rfl, Nat.le_of_ble_eq_true rfl, Nat.le_of_ble_eq_true rfl⟩ dX11_isHour_1 ⟨Nat.le_of_ble_eq_true rfl, Nat.le_of_ble_eq_true rfl⟩ (fun r_1 H locs hr_1 hP hS => ?_)
  have hz_3 := hr_1
  refine lv_if_eq (tgt := 24) hx hb dX11_isHour_4 (by decide) (fun c_4 => ?_) (fun c_4 => ?_)
  · skip
    refine lv_iconst (v := 0) hx hb dX11_isHour_24 (by decide) ?_
    exact x_retz S hr hlk hQ hS rfl () ⟨(Or.inl rfl), (Or.inl rfl)⟩ x_T dX11_isHour_25
  · skip
    refine lv_lload_n hx hb dX11_isHour_7 rfl (lv_at hl 1 rfl) ?_
    refine lv_lconst (v := 0) hx hb dX11_isHour_8 (by decide) ?_
    refine lv_aload_n hx hb dX11_isHour_9 rfl (lv_at hl 0 rfl) ?_
    refine x_roVi (As := []) S hK hP hDW hZ hAB hBA hS hA hl mwX11_hours lkX11_103 (ctX11_hours l D k z n mthrown mtaped msize mat mfrom mtoken mvalue mfaultKind mfaultPlace mmoreMany mlawNow mwetSet moverAll mones mtwos mgone mroundNow msampleFor msampleAll maskWorst moftenAll moftenView moftenOnes fworld (by omega) (by omega) (by omega) (by omega) (by omega) (hkworld)) [0, 1] rfl (by decide) rfl rfl rfl rfl rfl ⟨Nat.le_of_ble_eq_true rfl, Nat.le_of_ble_eq_true rfl, Nat.le_of_ble_eq_true rfl⟩ dX11_isHour_10 ⟨Nat.le_of_ble_eq_true rfl, Nat.le_of_ble_eq_true rfl⟩ (fun r_5 H locs hr_5 hP hS => ?_)
    obtain rfl := hr_5
    refine lv_i2l (v := (nI (wn fworld 0)).toInt64) hx hb dX11_isHour_13 rfl ?_
    refine x_roSi (As := [.long p0.toInt64, .long 0, .long (nI (wn fworld 0)).toInt64]) S hK hP hDW hZ hAB hBA hS hA hl mwX11_in lkX11_91 (ctX11_in l D k z p0.toInt64 0 (nI (wn fworld 0)).toInt64 ) [] rfl (by decide) rfl rfl ⟨Nat.le_of_ble_eq_true rfl, Nat.le_of_ble_eq_true rfl, Nat.le_of_ble_eq_true rfl⟩ dX11_isHour_14 ⟨Nat.le_of_ble_eq_true rfl, Nat.le_of_ble_eq_true rfl⟩ (fun r_7 H locs hr_7 hP hS => ?_)
    obtain rfl := hr_7
    refine lv_if_eq (tgt := 24) hx hb dX11_isHour_17 (by decide) (fun c_9 => ?_) (fun c_9 => ?_)
    · skip
      have c_9 : ¬ (0 ≤ p0.toInt64 ∧ p0.toInt64 ≤ (nI (wn fworld 0)).toInt64) := bo_0.mp c_9
      refine lv_iconst (v := 0) hx hb dX11_isHour_24 (by decide) ?_
      exact x_retz S hr hlk hQ hS rfl () ⟨(Or.inl rfl), (Or.inl rfl)⟩ x_T dX11_isHour_25
    · skip
      have c_9 : 0 ≤ p0.toInt64 ∧ p0.toInt64 ≤ (nI (wn fworld 0)).toInt64 := bo_1.mp c_9
      refine lv_iconst (v := 1) hx hb dX11_isHour_20 (by decide) ?_
      refine lv_goto (tgt := 25) hx hb dX11_isHour_21 (by decide) ?_
      exact x_retz S hr hlk hQ hS rfl () ⟨(Or.inr (nat64i c_9 (by omega))), (Or.inr rfl)⟩ x_T dX11_isHour_25

set_option maxHeartbeats 4000000 in
set_option maxRecDepth 100000 in
theorem ctX11_isHour_l (l : Launch) (D : va_G) (k : Nat → ClassId) (z : Nat → Nat) (n : Nat → Nat) (mthrown : Int32) (mtaped : Nat) (msize : Nat) (mat : Nat) (mfrom : Nat) (mtoken : Int32) (mvalue : Int32) (mfaultKind : Int32) (mfaultPlace : Int32) (mmoreMany : Nat) (mlawNow : Int32) (mwetSet : Int32) (moverAll : Int32) (mones : Int32) (mtwos : Int32) (mgone : Int32) (mroundNow : Int32) (msampleFor : Int64) (msampleAll : Int64) (maskWorst : Int32) (moftenAll : Int64) (moftenView : Int64) (moftenOnes : Int64) (fworld : Nat → Int32) (p0 : Int64) (hmtaped : mtaped ≤ 600) (hmsize : msize ≤ 600) (hmat : mat ≤ 600) (hmfrom : mfrom ≤ 600) (hmmoreMany : mmoreMany ≤ 14) (hkworld : okW fworld) : RO l yX11_isHour cX11_isHour 3 (some .boolean) 1 D k z [.ref (n 0), .long p0] [((n 0), .inr (11, [.int mthrown, .ref (n 1), .ref (n 2), .ref (n 3), .ref (n 4), .int (nI mtaped), .ref (n 5), .int (nI msize), .int (nI mat), .int (nI mfrom), .int mtoken, .int mvalue, .int mfaultKind, .int mfaultPlace, .ref (n 6), .ref (n 7), .ref (n 8), .ref (n 9), .ref (n 10), .ref (n 11), .ref (n 12), .int (nI mmoreMany), .int mlawNow, .int mwetSet, .int moverAll, .ref (n 13), .ref (n 14), .ref (n 15), .int mones, .int mtwos, .int mgone, .ref (n 16), .ref (n 17), .int mroundNow, .ref (n 18), .long msampleFor, .long msampleAll, .ref (n 19), .int maskWorst, .long moftenAll, .long moftenView, .long moftenOnes, .ref (n 20), .ref (n 21), .ref (n 22), .ref (n 23)])), ((n 1), .inl (k 0, 99, .inl fworld))] (Qi (fun r : Int32 => (r = 0 ∨ (¬ p0 < 0 ∧ p0 ≤ (nI (wn fworld 0)).toInt64)) ∧ (r = 0 ∨ r = 1))) := by
  refine RO.of (by decide) (Nat.le_of_ble_eq_true rfl) ?_
  intro p e s m below meth c ls A B args Q S hr hlk hQ hK hP hDW hZ hAB hBA hA hS hl
  have hx := S.1
  have hb := S.2.1
  have hl : lv_has ls 3 [(0, .ref (n 0)), (1, .long p0)] := hl
  have hbfworld := okW_bd hkworld
  refine lv_aload_n hx hb dX11_isHour_0 rfl (lv_at hl 0 rfl) ?_
  refine x_roVi (As := []) S hK hP hDW hZ hAB hBA hS hA hl mwX11_isGarden lkX11_99 (ctX11_isGarden l D k z n mthrown mtaped msize mat mfrom mtoken mvalue mfaultKind mfaultPlace mmoreMany mlawNow mwetSet moverAll mones mtwos mgone mroundNow msampleFor msampleAll maskWorst moftenAll moftenView moftenOnes fworld (by omega) (by omega) (by omega) (by omega) (by omega) (hkworld)) [0, 1] rfl (by decide) rfl rfl rfl rfl rfl ⟨Nat.le_of_ble_eq_true rfl, Nat.le_of_ble_eq_true rfl, Nat.le_of_ble_eq_true rfl⟩ dX11_isHour_1 ⟨Nat.le_of_ble_eq_true rfl, Nat.le_of_ble_eq_true rfl⟩ (fun r_1 H locs hr_1 hP hS => ?_)
  have hz_3 := hr_1
  refine lv_if_eq (tgt := 24) hx hb dX11_isHour_4 (by decide) (fun c_4 => ?_) (fun c_4 => ?_)
  · skip
    refine lv_iconst (v := 0) hx hb dX11_isHour_24 (by decide) ?_
    exact x_retz S hr hlk hQ hS rfl () ⟨(Or.inl rfl), (Or.inl rfl)⟩ x_T dX11_isHour_25
  · skip
    refine lv_lload_n hx hb dX11_isHour_7 rfl (lv_at hl 1 rfl) ?_
    refine lv_lconst (v := 0) hx hb dX11_isHour_8 (by decide) ?_
    refine lv_aload_n hx hb dX11_isHour_9 rfl (lv_at hl 0 rfl) ?_
    refine x_roVi (As := []) S hK hP hDW hZ hAB hBA hS hA hl mwX11_hours lkX11_103 (ctX11_hours l D k z n mthrown mtaped msize mat mfrom mtoken mvalue mfaultKind mfaultPlace mmoreMany mlawNow mwetSet moverAll mones mtwos mgone mroundNow msampleFor msampleAll maskWorst moftenAll moftenView moftenOnes fworld (by omega) (by omega) (by omega) (by omega) (by omega) (hkworld)) [0, 1] rfl (by decide) rfl rfl rfl rfl rfl ⟨Nat.le_of_ble_eq_true rfl, Nat.le_of_ble_eq_true rfl, Nat.le_of_ble_eq_true rfl⟩ dX11_isHour_10 ⟨Nat.le_of_ble_eq_true rfl, Nat.le_of_ble_eq_true rfl⟩ (fun r_5 H locs hr_5 hP hS => ?_)
    obtain rfl := hr_5
    refine lv_i2l (v := (nI (wn fworld 0)).toInt64) hx hb dX11_isHour_13 rfl ?_
    refine x_roSi (As := [.long p0, .long 0, .long (nI (wn fworld 0)).toInt64]) S hK hP hDW hZ hAB hBA hS hA hl mwX11_in lkX11_91 (ctX11_in l D k z p0 0 (nI (wn fworld 0)).toInt64 ) [] rfl (by decide) rfl rfl ⟨Nat.le_of_ble_eq_true rfl, Nat.le_of_ble_eq_true rfl, Nat.le_of_ble_eq_true rfl⟩ dX11_isHour_14 ⟨Nat.le_of_ble_eq_true rfl, Nat.le_of_ble_eq_true rfl⟩ (fun r_7 H locs hr_7 hP hS => ?_)
    obtain rfl := hr_7
    refine lv_if_eq (tgt := 24) hx hb dX11_isHour_17 (by decide) (fun c_9 => ?_) (fun c_9 => ?_)
    · skip
      have c_9 : ¬ (0 ≤ p0 ∧ p0 ≤ (nI (wn fworld 0)).toInt64) := bo_0.mp c_9
      refine lv_iconst (v := 0) hx hb dX11_isHour_24 (by decide) ?_
      exact x_retz S hr hlk hQ hS rfl () ⟨(Or.inl rfl), (Or.inl rfl)⟩ x_T dX11_isHour_25
    · skip
      have c_9 : 0 ≤ p0 ∧ p0 ≤ (nI (wn fworld 0)).toInt64 := bo_1.mp c_9
      refine lv_iconst (v := 1) hx hb dX11_isHour_20 (by decide) ?_
      refine lv_goto (tgt := 25) hx hb dX11_isHour_21 (by decide) ?_
      exact x_retz S hr hlk hQ hS rfl () ⟨(Or.inr ⟨Int64.not_lt.mpr c_9.1, c_9.2⟩), (Or.inr rfl)⟩ x_T dX11_isHour_25

set_option maxHeartbeats 4000000 in
set_option maxRecDepth 100000 in
theorem ctX11_hardOf (l : Launch) (D : va_G) (k : Nat → ClassId) (z : Nat → Nat) (n : Nat → Nat) (mthrown : Int32) (mtaped : Nat) (msize : Nat) (mat : Nat) (mfrom : Nat) (mtoken : Int32) (mvalue : Int32) (mfaultKind : Int32) (mfaultPlace : Int32) (mmoreMany : Nat) (mlawNow : Int32) (mwetSet : Int32) (moverAll : Int32) (mones : Int32) (mtwos : Int32) (mgone : Int32) (mroundNow : Int32) (msampleFor : Int64) (msampleAll : Int64) (maskWorst : Int32) (moftenAll : Int64) (moftenView : Int64) (moftenOnes : Int64) (fworld : Nat → Int32) (p0 : Nat) (hmtaped : mtaped ≤ 600) (hmsize : msize ≤ 600) (hmat : mat ≤ 600) (hmfrom : mfrom ≤ 600) (hmmoreMany : mmoreMany ≤ 14) (hkworld : okW fworld) (hp0 : p0 ≤ 11) : RO l yX11_hardOf cX11_hardOf 2 (some .int) 0 D k z [.ref (n 0), .int (nI p0)] [((n 0), .inr (11, [.int mthrown, .ref (n 1), .ref (n 2), .ref (n 3), .ref (n 4), .int (nI mtaped), .ref (n 5), .int (nI msize), .int (nI mat), .int (nI mfrom), .int mtoken, .int mvalue, .int mfaultKind, .int mfaultPlace, .ref (n 6), .ref (n 7), .ref (n 8), .ref (n 9), .ref (n 10), .ref (n 11), .ref (n 12), .int (nI mmoreMany), .int mlawNow, .int mwetSet, .int moverAll, .ref (n 13), .ref (n 14), .ref (n 15), .int mones, .int mtwos, .int mgone, .ref (n 16), .ref (n 17), .int mroundNow, .ref (n 18), .long msampleFor, .long msampleAll, .ref (n 19), .int maskWorst, .long moftenAll, .long moftenView, .long moftenOnes, .ref (n 20), .ref (n 21), .ref (n 22), .ref (n 23)])), ((n 1), .inl (k 0, 99, .inl fworld))] (Qi (fun r : Int32 => True)) := by
  refine RO.of (by decide) (Nat.le_of_ble_eq_true rfl) ?_
  intro p e s m below meth c ls A B args Q S hr hlk hQ hK hP hDW hZ hAB hBA hA hS hl
  have hx := S.1
  have hb := S.2.1
  have hl : lv_has ls 2 [(0, .ref (n 0)), (1, .int (nI p0))] := hl
  have hbfworld := okW_bd hkworld
  refine lv_aload_n hx hb dX11_hardOf_0 rfl (lv_at hl 0 rfl) ?_
  refine x_get S hK hP 0 rfl cfX11 1 lkX11_9 (by decide) rfl dX11_hardOf_1 ?_
  refine lv_bipush (v := 13) hx hb dX11_hardOf_4 (by decide) ?_
  refine lv_iconst (v := 2) hx hb dX11_hardOf_6 (by decide) ?_
  refine lv_iload_n hx hb dX11_hardOf_7 rfl (lv_at hl 1 rfl) ?_
  refine lv_imul hx hb dX11_hardOf_8 ?_
  refine x_is (nI (2 * p0)) (ni_mul (by decide) rfl) ?_
  refine lv_iadd hx hb dX11_hardOf_9 ?_
  refine x_is (nI (13 + 2 * p0)) (ni_add (by decide) rfl) ?_
  refine x_iald S hK hP 1 rfl (vp_in_nI (by omega) (by decide)) dX11_hardOf_10 ?_
  refine lv_topi (fun v_1 ev_1 => ?_)
  exact x_reti S hr hlk hQ hS () trivial x_T dX11_hardOf_11

set_option maxHeartbeats 4000000 in
set_option maxRecDepth 100000 in
theorem ctX11_holdsOf (l : Launch) (D : va_G) (k : Nat → ClassId) (z : Nat → Nat) (n : Nat → Nat) (mthrown : Int32) (mtaped : Nat) (msize : Nat) (mat : Nat) (mfrom : Nat) (mtoken : Int32) (mvalue : Int32) (mfaultKind : Int32) (mfaultPlace : Int32) (mmoreMany : Nat) (mlawNow : Int32) (mwetSet : Int32) (moverAll : Int32) (mones : Int32) (mtwos : Int32) (mgone : Int32) (mroundNow : Int32) (msampleFor : Int64) (msampleAll : Int64) (maskWorst : Int32) (moftenAll : Int64) (moftenView : Int64) (moftenOnes : Int64) (fworld : Nat → Int32) (p0 : Nat) (hmtaped : mtaped ≤ 600) (hmsize : msize ≤ 600) (hmat : mat ≤ 600) (hmfrom : mfrom ≤ 600) (hmmoreMany : mmoreMany ≤ 14) (hkworld : okW fworld) (hp0 : p0 ≤ 11) : RO l yX11_holdsOf cX11_holdsOf 2 (some .int) 0 D k z [.ref (n 0), .int (nI p0)] [((n 0), .inr (11, [.int mthrown, .ref (n 1), .ref (n 2), .ref (n 3), .ref (n 4), .int (nI mtaped), .ref (n 5), .int (nI msize), .int (nI mat), .int (nI mfrom), .int mtoken, .int mvalue, .int mfaultKind, .int mfaultPlace, .ref (n 6), .ref (n 7), .ref (n 8), .ref (n 9), .ref (n 10), .ref (n 11), .ref (n 12), .int (nI mmoreMany), .int mlawNow, .int mwetSet, .int moverAll, .ref (n 13), .ref (n 14), .ref (n 15), .int mones, .int mtwos, .int mgone, .ref (n 16), .ref (n 17), .int mroundNow, .ref (n 18), .long msampleFor, .long msampleAll, .ref (n 19), .int maskWorst, .long moftenAll, .long moftenView, .long moftenOnes, .ref (n 20), .ref (n 21), .ref (n 22), .ref (n 23)])), ((n 1), .inl (k 0, 99, .inl fworld))] (Qi (fun r : Int32 => True)) := by
  refine RO.of (by decide) (Nat.le_of_ble_eq_true rfl) ?_
  intro p e s m below meth c ls A B args Q S hr hlk hQ hK hP hDW hZ hAB hBA hA hS hl
  have hx := S.1
  have hb := S.2.1
  have hl : lv_has ls 2 [(0, .ref (n 0)), (1, .int (nI p0))] := hl
  have hbfworld := okW_bd hkworld
  refine lv_aload_n hx hb dX11_holdsOf_0 rfl (lv_at hl 0 rfl) ?_
  refine x_get S hK hP 0 rfl cfX11 1 lkX11_9 (by decide) rfl dX11_holdsOf_1 ?_
  refine lv_bipush (v := 13) hx hb dX11_holdsOf_4 (by decide) ?_
  refine lv_iconst (v := 2) hx hb dX11_holdsOf_6 (by decide) ?_
  refine lv_iload_n hx hb dX11_holdsOf_7 rfl (lv_at hl 1 rfl) ?_
  refine lv_imul hx hb dX11_holdsOf_8 ?_
  refine x_is (nI (2 * p0)) (ni_mul (by decide) rfl) ?_
  refine lv_iadd hx hb dX11_holdsOf_9 ?_
  refine x_is (nI (13 + 2 * p0)) (ni_add (by decide) rfl) ?_
  refine lv_iconst (v := 1) hx hb dX11_holdsOf_10 (by decide) ?_
  refine lv_iadd hx hb dX11_holdsOf_11 ?_
  refine x_is (nI (13 + 2 * p0 + 1)) (ni_add rfl (by decide)) ?_
  refine x_iald S hK hP 1 rfl (vp_in_nI (by omega) (by decide)) dX11_holdsOf_12 ?_
  refine lv_topi (fun v_1 ev_1 => ?_)
  exact x_reti S hr hlk hQ hS () trivial x_T dX11_holdsOf_13

set_option maxHeartbeats 4000000 in
set_option maxRecDepth 100000 in
theorem ctX11_layRows (l : Launch) (D : va_G) (k : Nat → ClassId) (z : Nat → Nat) (n : Nat → Nat) (mthrown : Int32) (mtaped : Nat) (msize : Nat) (mat : Nat) (mfrom : Nat) (mtoken : Int32) (mvalue : Int32) (mfaultKind : Int32) (mfaultPlace : Int32) (mmoreMany : Nat) (mlawNow : Int32) (mwetSet : Int32) (moverAll : Int32) (mones : Int32) (mtwos : Int32) (mgone : Int32) (mroundNow : Int32) (msampleFor : Int64) (msampleAll : Int64) (maskWorst : Int32) (moftenAll : Int64) (moftenView : Int64) (moftenOnes : Int64) (fworld : Nat → Int32) (frowOf : Nat → Int32) (fplaceOf : Nat → Int32) (ffirstOf : Nat → Int32) (hmtaped : mtaped ≤ 600) (hmsize : msize ≤ 600) (hmat : mat ≤ 600) (hmfrom : mfrom ≤ 600) (hmmoreMany : mmoreMany ≤ 14) (hkworld : okW fworld) : MU l yX11_layRows cX11_layRows 4 none 0 D k z [.ref (n 0)] [((n 0), .inr (11, [.int mthrown, .ref (n 1), .ref (n 2), .ref (n 3), .ref (n 4), .int (nI mtaped), .ref (n 5), .int (nI msize), .int (nI mat), .int (nI mfrom), .int mtoken, .int mvalue, .int mfaultKind, .int mfaultPlace, .ref (n 6), .ref (n 7), .ref (n 8), .ref (n 9), .ref (n 10), .ref (n 11), .ref (n 12), .int (nI mmoreMany), .int mlawNow, .int mwetSet, .int moverAll, .ref (n 13), .ref (n 14), .ref (n 15), .int mones, .int mtwos, .int mgone, .ref (n 16), .ref (n 17), .int mroundNow, .ref (n 18), .long msampleFor, .long msampleAll, .ref (n 19), .int maskWorst, .long moftenAll, .long moftenView, .long moftenOnes, .ref (n 20), .ref (n 21), .ref (n 22), .ref (n 23)])), ((n 1), .inl (k 0, 99, .inl fworld)), ((n 7), .inl (k 0, 12, .inl frowOf)), ((n 8), .inl (k 0, 12, .inl fplaceOf)), ((n 9), .inl (k 0, 4, .inl ffirstOf))] 0 0 (Uv D (fun _ : (Nat → Int32) × (Nat → Nat) × (Nat → Nat → Int32) × (Nat → Nat → Int64) × (Nat → Int64) => True) (fun u : (Nat → Int32) × (Nat → Nat) × (Nat → Nat → Int32) × (Nat → Nat → Int64) × (Nat → Int64) => [((n 0), .inr (11, [.int mthrown, .ref (n 1), .ref (n 2), .ref (n 3), .ref (n 4), .int (nI mtaped), .ref (n 5), .int (nI msize), .int (nI mat), .int (nI mfrom), .int mtoken, .int mvalue, .int mfaultKind, .int mfaultPlace, .ref (n 6), .ref (n 7), .ref (n 8), .ref (n 9), .ref (n 10), .ref (n 11), .ref (n 12), .int (nI mmoreMany), .int mlawNow, .int mwetSet, .int moverAll, .ref (n 13), .ref (n 14), .ref (n 15), .int mones, .int mtwos, .int mgone, .ref (n 16), .ref (n 17), .int mroundNow, .ref (n 18), .long msampleFor, .long msampleAll, .ref (n 19), .int maskWorst, .long moftenAll, .long moftenView, .long moftenOnes, .ref (n 20), .ref (n 21), .ref (n 22), .ref (n 23)])), ((n 1), .inl (k 0, 99, .inl fworld)), ((n 7), .inl (k 0, 12, .inl (u.2.2.1 0))), ((n 8), .inl (k 0, 12, .inl (u.2.2.1 1))), ((n 9), .inl (k 0, 4, .inl (u.2.2.1 2)))])) := by
  refine MU.of (by decide) (Nat.le_of_ble_eq_true rfl) ?_
  intro p e s m below meth c ls A args Q S hr hlk hnm hQ hK hP hD hZ hA hS hl
  have hx := S.1
  have hb := S.2.1
  have hl : lv_has ls 4 [(0, .ref (n 0))] := hl
  have hbfworld := okW_bd hkworld
  refine lv_iconst (v := 0) hx hb dX11_layRows_0 (by decide) ?_
  refine lv_istore_n (lv' := [(1, .int 0), (0, .ref (n 0))]) hx hb dX11_layRows_1 rfl hl (by decide) rfl (fun ls hl => ?_)
  refine lv_iconst (v := 0) hx hb dX11_layRows_2 (by decide) ?_
  refine lv_istore_n (lv' := [(2, .int 0), (1, .int 0), (0, .ref (n 0))]) hx hb dX11_layRows_3 rfl hl (by decide) rfl (fun ls hl => ?_)
  refine lv_iload_n hx hb dX11_layRows_4 rfl (lv_at hl 0 rfl) ?_
  refine lv_aload_n hx hb dX11_layRows_5 rfl (lv_at hl 2 rfl) ?_
  refine x_get S hK hP 0 rfl cfX11 1 lkX11_9 (by decide) rfl dX11_layRows_6 ?_
  refine lv_iconst (v := 3) hx hb dX11_layRows_9 (by decide) ?_
  refine x_iald S hK hP 1 rfl (vp_lit (by decide)) dX11_layRows_10 ?_
  refine x_is (nI (wn fworld 3)) ((cl_at (f := fworld) (a := 3) (by decide) (by omega)).trans (okW_at hkworld (i := 3) (by omega))) ?_
  refine lv_icmp_ge (tgt := 65) hx hb dX11_layRows_11 (by decide) (fun c_1 => ?_) (fun c_1 => ?_)
  · skip
    have c_1 : wn fworld 3 ≤ 0 := (ni_le rfl (by decide) (by omega) (by omega)).mp c_1
    exact x_retv S hr hlk hQ hS ((fun i => ([] : List (Int32)).getD i 0), (fun i => ([] : List (Nat)).getD i 0), (fun i => ([frowOf, fplaceOf, ffirstOf] : List (Nat → Int32)).getD i (fun _ => 0)), (fun i => ([] : List (Nat → Int64)).getD i (fun _ => 0)), (fun i => ([] : List (Int64)).getD i 0)) trivial (x_B hP hD) dX11_layRows_65
  · skip
    have c_1 : ¬ wn fworld 3 ≤ 0 := fun q => c_1 ((ni_le rfl (by decide) (by omega) (by omega)).mpr q)
    refine lv_aload_n hx hb dX11_layRows_14 rfl (lv_at hl 2 rfl) ?_
    refine x_get S hK hP 0 rfl cfX11 17 lkX11_40 (by decide) rfl dX11_layRows_15 ?_
    refine lv_iload_n hx hb dX11_layRows_18 rfl (lv_at hl 0 rfl) ?_
    refine lv_iload_n hx hb dX11_layRows_19 rfl (lv_at hl 1 rfl) ?_
    refine x_iast (ws' := fun f_2 => [((n 0), .inr (11, [.int mthrown, .ref (n 1), .ref (n 2), .ref (n 3), .ref (n 4), .int (nI mtaped), .ref (n 5), .int (nI msize), .int (nI mat), .int (nI mfrom), .int mtoken, .int mvalue, .int mfaultKind, .int mfaultPlace, .ref (n 6), .ref (n 7), .ref (n 8), .ref (n 9), .ref (n 10), .ref (n 11), .ref (n 12), .int (nI mmoreMany), .int mlawNow, .int mwetSet, .int moverAll, .ref (n 13), .ref (n 14), .ref (n 15), .int mones, .int mtwos, .int mgone, .ref (n 16), .ref (n 17), .int mroundNow, .ref (n 18), .long msampleFor, .long msampleAll, .ref (n 19), .int maskWorst, .long moftenAll, .long moftenView, .long moftenOnes, .ref (n 20), .ref (n 21), .ref (n 22), .ref (n 23)])), ((n 1), .inl (k 0, 99, .inl fworld)), ((n 7), .inl (k 0, 12, .inl frowOf)), ((n 8), .inl (k 0, 12, .inl fplaceOf)), ((n 9), .inl (k 0, 4, .inl f_2))]) S hK hP hD hS 4 rfl (vp_lit (by decide)) (fun _ => rfl) dX11_layRows_20 (fun f_2 H locs ef_2 hP hD hS => ?_)
    refine lv_iconst (v := 0) hx hb dX11_layRows_21 (by decide) ?_
    refine lv_istore_n (lv' := [(3, .int 0), (2, .int 0), (1, .int 0), (0, .ref (n 0))]) hx hb dX11_layRows_22 rfl hl (by decide) rfl (fun ls hl => ?_)
    have lp_19 : ∀ (nn j_15 : Nat) (m_16 : Nat) (g_17 : Nat → Int32) (g_18 : Nat → Int32) (H : Heap) (locs : List Loc) (ls : Array Slot), j_15 ≤ wn fworld 9 → wn fworld 9 - j_15 < nn → m_16 ≤ 12 → m_16 = 0 + j_15 → va_P D vwCl [((n 0), .inr (11, [.int mthrown, .ref (n 1), .ref (n 2), .ref (n 3), .ref (n 4), .int (nI mtaped), .ref (n 5), .int (nI msize), .int (nI mat), .int (nI mfrom), .int mtoken, .int mvalue, .int mfaultKind, .int mfaultPlace, .ref (n 6), .ref (n 7), .ref (n 8), .ref (n 9), .ref (n 10), .ref (n 11), .ref (n 12), .int (nI mmoreMany), .int mlawNow, .int mwetSet, .int moverAll, .ref (n 13), .ref (n 14), .ref (n 15), .int mones, .int mtwos, .int mgone, .ref (n 16), .ref (n 17), .int mroundNow, .ref (n 18), .long msampleFor, .long msampleAll, .ref (n 19), .int maskWorst, .long moftenAll, .long moftenView, .long moftenOnes, .ref (n 20), .ref (n 21), .ref (n 22), .ref (n 23)])), ((n 1), .inl (k 0, 99, .inl fworld)), ((n 7), .inl (k 0, 12, .inl g_17)), ((n 8), .inl (k 0, 12, .inl g_18)), ((n 9), .inl (k 0, 4, .inl f_2))] H → va_D A [((n 0), .inr (11, [.int mthrown, .ref (n 1), .ref (n 2), .ref (n 3), .ref (n 4), .int (nI mtaped), .ref (n 5), .int (nI msize), .int (nI mat), .int (nI mfrom), .int mtoken, .int mvalue, .int mfaultKind, .int mfaultPlace, .ref (n 6), .ref (n 7), .ref (n 8), .ref (n 9), .ref (n 10), .ref (n 11), .ref (n 12), .int (nI mmoreMany), .int mlawNow, .int mwetSet, .int moverAll, .ref (n 13), .ref (n 14), .ref (n 15), .int mones, .int mtwos, .int mgone, .ref (n 16), .ref (n 17), .int mroundNow, .ref (n 18), .long msampleFor, .long msampleAll, .ref (n 19), .int maskWorst, .long moftenAll, .long moftenView, .long moftenOnes, .ref (n 20), .ref (n 21), .ref (n 22), .ref (n 23)])), ((n 1), .inl (k 0, 99, .inl fworld)), ((n 7), .inl (k 0, 12, .inl g_17)), ((n 8), .inl (k 0, 12, .inl g_18)), ((n 9), .inl (k 0, 4, .inl f_2))] → va_S A s.heap H locs → lv_has ls 4 [(3, .int (nI j_15)), (2, .int 0), (1, .int (nI m_16)), (0, .ref (n 0))] → W p l e (Rm 0 0 0) s m args below meth c H locs 0 0 Q (F0 m 23 ls []) := by
      intro nn
      induction nn with
      | zero => intro j_15 m_16 g_17 g_18 H locs ls hjj_15 hnj_15 hbm_16 hhj_15; exact absurd hnj_15 (by omega)
      | succ nn ihj_15 =>
        intro j_15 m_16 g_17 g_18 H locs ls hjj_15 hnj_15 hbm_16 hhj_15 hP hD hS hl
        refine lv_iload_n hx hb dX11_layRows_23 rfl (lv_at hl 0 rfl) ?_
        refine lv_aload_n hx hb dX11_layRows_24 rfl (lv_at hl 3 rfl) ?_
        refine x_get S hK hP 0 rfl cfX11 1 lkX11_9 (by decide) rfl dX11_layRows_25 ?_
        refine lv_bipush (v := 9) hx hb dX11_layRows_28 (by decide) ?_
        refine lv_iload_n hx hb dX11_layRows_30 rfl (lv_at hl 1 rfl) ?_
        refine lv_iadd hx hb dX11_layRows_31 ?_
        refine x_is 9 (by decide) ?_
        refine x_iald S hK hP 1 rfl (vp_lit (by decide)) dX11_layRows_32 ?_
        refine x_is (nI (wn fworld 9)) ((cl_at (f := fworld) (a := 9) (by decide) (by omega)).trans (okW_at hkworld (i := 9) (by omega))) ?_
        refine lv_icmp_ge (tgt := 59) hx hb dX11_layRows_33 (by decide) (fun c_20 => ?_) (fun c_20 => ?_)
        · skip
          have c_20 : wn fworld 9 ≤ j_15 := (ni_le rfl rfl (by omega) (by omega)).mp c_20
          refine lv_iinc (v := 1) (lv' := [(2, .int 1), (3, .int (nI j_15)), (1, .int (nI m_16)), (0, .ref (n 0))]) hx hb dX11_layRows_59 hl (k := 1) rfl (by decide) (by decide) rfl (fun ls hl => ?_)
          refine lv_goto (tgt := 4) hx hb dX11_layRows_62 (by decide) ?_
          refine lv_iload_n hx hb dX11_layRows_4 rfl (lv_at hl 0 rfl) ?_
          refine lv_aload_n hx hb dX11_layRows_5 rfl (lv_at hl 3 rfl) ?_
          refine x_get S hK hP 0 rfl cfX11 1 lkX11_9 (by decide) rfl dX11_layRows_6 ?_
          refine lv_iconst (v := 3) hx hb dX11_layRows_9 (by decide) ?_
          refine x_iald S hK hP 1 rfl (vp_lit (by decide)) dX11_layRows_10 ?_
          refine x_is (nI (wn fworld 3)) ((cl_at (f := fworld) (a := 3) (by decide) (by omega)).trans (okW_at hkworld (i := 3) (by omega))) ?_
          refine lv_icmp_ge (tgt := 65) hx hb dX11_layRows_11 (by decide) (fun c_21 => ?_) (fun c_21 => ?_)
          · skip
            have c_21 : wn fworld 3 ≤ 1 := (ni_le rfl (by decide) (by omega) (by omega)).mp c_21
            exact x_retv S hr hlk hQ hS ((fun i => ([] : List (Int32)).getD i 0), (fun i => ([] : List (Nat)).getD i 0), (fun i => ([g_17, g_18, f_2] : List (Nat → Int32)).getD i (fun _ => 0)), (fun i => ([] : List (Nat → Int64)).getD i (fun _ => 0)), (fun i => ([] : List (Int64)).getD i 0)) trivial (x_B hP hD) dX11_layRows_65
          · skip
            have c_21 : ¬ wn fworld 3 ≤ 1 := fun q => c_21 ((ni_le rfl (by decide) (by omega) (by omega)).mpr q)
            refine lv_aload_n hx hb dX11_layRows_14 rfl (lv_at hl 3 rfl) ?_
            refine x_get S hK hP 0 rfl cfX11 17 lkX11_40 (by decide) rfl dX11_layRows_15 ?_
            refine lv_iload_n hx hb dX11_layRows_18 rfl (lv_at hl 0 rfl) ?_
            refine lv_iload_n hx hb dX11_layRows_19 rfl (lv_at hl 2 rfl) ?_
            refine x_iast (ws' := fun f_22 => [((n 0), .inr (11, [.int mthrown, .ref (n 1), .ref (n 2), .ref (n 3), .ref (n 4), .int (nI mtaped), .ref (n 5), .int (nI msize), .int (nI mat), .int (nI mfrom), .int mtoken, .int mvalue, .int mfaultKind, .int mfaultPlace, .ref (n 6), .ref (n 7), .ref (n 8), .ref (n 9), .ref (n 10), .ref (n 11), .ref (n 12), .int (nI mmoreMany), .int mlawNow, .int mwetSet, .int moverAll, .ref (n 13), .ref (n 14), .ref (n 15), .int mones, .int mtwos, .int mgone, .ref (n 16), .ref (n 17), .int mroundNow, .ref (n 18), .long msampleFor, .long msampleAll, .ref (n 19), .int maskWorst, .long moftenAll, .long moftenView, .long moftenOnes, .ref (n 20), .ref (n 21), .ref (n 22), .ref (n 23)])), ((n 1), .inl (k 0, 99, .inl fworld)), ((n 7), .inl (k 0, 12, .inl g_17)), ((n 8), .inl (k 0, 12, .inl g_18)), ((n 9), .inl (k 0, 4, .inl f_22))]) S hK hP hD hS 4 rfl (vp_lit (by decide)) (fun _ => rfl) dX11_layRows_20 (fun f_22 H locs ef_22 hP hD hS => ?_)
            refine lv_iconst (v := 0) hx hb dX11_layRows_21 (by decide) ?_
            refine lv_istore_n (lv' := [(3, .int 0), (2, .int 1), (1, .int (nI m_16)), (0, .ref (n 0))]) hx hb dX11_layRows_22 rfl hl (by decide) rfl (fun ls hl => ?_)
            have lp_38 : ∀ (nn j_34 : Nat) (m_35 : Nat) (g_36 : Nat → Int32) (g_37 : Nat → Int32) (H : Heap) (locs : List Loc) (ls : Array Slot), j_34 ≤ wn fworld 10 → wn fworld 10 - j_34 < nn → m_35 ≤ 12 → m_35 = wn fworld 9 + j_34 → va_P D vwCl [((n 0), .inr (11, [.int mthrown, .ref (n 1), .ref (n 2), .ref (n 3), .ref (n 4), .int (nI mtaped), .ref (n 5), .int (nI msize), .int (nI mat), .int (nI mfrom), .int mtoken, .int mvalue, .int mfaultKind, .int mfaultPlace, .ref (n 6), .ref (n 7), .ref (n 8), .ref (n 9), .ref (n 10), .ref (n 11), .ref (n 12), .int (nI mmoreMany), .int mlawNow, .int mwetSet, .int moverAll, .ref (n 13), .ref (n 14), .ref (n 15), .int mones, .int mtwos, .int mgone, .ref (n 16), .ref (n 17), .int mroundNow, .ref (n 18), .long msampleFor, .long msampleAll, .ref (n 19), .int maskWorst, .long moftenAll, .long moftenView, .long moftenOnes, .ref (n 20), .ref (n 21), .ref (n 22), .ref (n 23)])), ((n 1), .inl (k 0, 99, .inl fworld)), ((n 7), .inl (k 0, 12, .inl g_36)), ((n 8), .inl (k 0, 12, .inl g_37)), ((n 9), .inl (k 0, 4, .inl f_22))] H → va_D A [((n 0), .inr (11, [.int mthrown, .ref (n 1), .ref (n 2), .ref (n 3), .ref (n 4), .int (nI mtaped), .ref (n 5), .int (nI msize), .int (nI mat), .int (nI mfrom), .int mtoken, .int mvalue, .int mfaultKind, .int mfaultPlace, .ref (n 6), .ref (n 7), .ref (n 8), .ref (n 9), .ref (n 10), .ref (n 11), .ref (n 12), .int (nI mmoreMany), .int mlawNow, .int mwetSet, .int moverAll, .ref (n 13), .ref (n 14), .ref (n 15), .int mones, .int mtwos, .int mgone, .ref (n 16), .ref (n 17), .int mroundNow, .ref (n 18), .long msampleFor, .long msampleAll, .ref (n 19), .int maskWorst, .long moftenAll, .long moftenView, .long moftenOnes, .ref (n 20), .ref (n 21), .ref (n 22), .ref (n 23)])), ((n 1), .inl (k 0, 99, .inl fworld)), ((n 7), .inl (k 0, 12, .inl g_36)), ((n 8), .inl (k 0, 12, .inl g_37)), ((n 9), .inl (k 0, 4, .inl f_22))] → va_S A s.heap H locs → lv_has ls 4 [(3, .int (nI j_34)), (2, .int 1), (1, .int (nI m_35)), (0, .ref (n 0))] → W p l e (Rm 0 0 0) s m args below meth c H locs 0 0 Q (F0 m 23 ls []) := by
              intro nn
              induction nn with
              | zero => intro j_34 m_35 g_36 g_37 H locs ls hjj_34 hnj_34 hbm_35 hhj_34; exact absurd hnj_34 (by omega)
              | succ nn ihj_34 =>
                intro j_34 m_35 g_36 g_37 H locs ls hjj_34 hnj_34 hbm_35 hhj_34 hP hD hS hl
                refine lv_iload_n hx hb dX11_layRows_23 rfl (lv_at hl 0 rfl) ?_
                refine lv_aload_n hx hb dX11_layRows_24 rfl (lv_at hl 3 rfl) ?_
                refine x_get S hK hP 0 rfl cfX11 1 lkX11_9 (by decide) rfl dX11_layRows_25 ?_
                refine lv_bipush (v := 9) hx hb dX11_layRows_28 (by decide) ?_
                refine lv_iload_n hx hb dX11_layRows_30 rfl (lv_at hl 1 rfl) ?_
                refine lv_iadd hx hb dX11_layRows_31 ?_
                refine x_is 10 (by decide) ?_
                refine x_iald S hK hP 1 rfl (vp_lit (by decide)) dX11_layRows_32 ?_
                refine x_is (nI (wn fworld 10)) ((cl_at (f := fworld) (a := 10) (by decide) (by omega)).trans (okW_at hkworld (i := 10) (by omega))) ?_
                refine lv_icmp_ge (tgt := 59) hx hb dX11_layRows_33 (by decide) (fun c_39 => ?_) (fun c_39 => ?_)
                · skip
                  have c_39 : wn fworld 10 ≤ j_34 := (ni_le rfl rfl (by omega) (by omega)).mp c_39
                  refine lv_iinc (v := 2) (lv' := [(2, .int 2), (3, .int (nI j_34)), (1, .int (nI m_35)), (0, .ref (n 0))]) hx hb dX11_layRows_59 hl (k := 1) rfl (by decide) (by decide) rfl (fun ls hl => ?_)
                  refine lv_goto (tgt := 4) hx hb dX11_layRows_62 (by decide) ?_
                  refine lv_iload_n hx hb dX11_layRows_4 rfl (lv_at hl 0 rfl) ?_
                  refine lv_aload_n hx hb dX11_layRows_5 rfl (lv_at hl 3 rfl) ?_
                  refine x_get S hK hP 0 rfl cfX11 1 lkX11_9 (by decide) rfl dX11_layRows_6 ?_
                  refine lv_iconst (v := 3) hx hb dX11_layRows_9 (by decide) ?_
                  refine x_iald S hK hP 1 rfl (vp_lit (by decide)) dX11_layRows_10 ?_
                  refine x_is (nI (wn fworld 3)) ((cl_at (f := fworld) (a := 3) (by decide) (by omega)).trans (okW_at hkworld (i := 3) (by omega))) ?_
                  refine lv_icmp_ge (tgt := 65) hx hb dX11_layRows_11 (by decide) (fun c_40 => ?_) (fun c_40 => ?_)
                  · skip
                    have c_40 : wn fworld 3 ≤ 2 := (ni_le rfl (by decide) (by omega) (by omega)).mp c_40
                    exact x_retv S hr hlk hQ hS ((fun i => ([] : List (Int32)).getD i 0), (fun i => ([] : List (Nat)).getD i 0), (fun i => ([g_36, g_37, f_22] : List (Nat → Int32)).getD i (fun _ => 0)), (fun i => ([] : List (Nat → Int64)).getD i (fun _ => 0)), (fun i => ([] : List (Int64)).getD i 0)) trivial (x_B hP hD) dX11_layRows_65
                  · skip
                    have c_40 : ¬ wn fworld 3 ≤ 2 := fun q => c_40 ((ni_le rfl (by decide) (by omega) (by omega)).mpr q)
                    refine lv_aload_n hx hb dX11_layRows_14 rfl (lv_at hl 3 rfl) ?_
                    refine x_get S hK hP 0 rfl cfX11 17 lkX11_40 (by decide) rfl dX11_layRows_15 ?_
                    refine lv_iload_n hx hb dX11_layRows_18 rfl (lv_at hl 0 rfl) ?_
                    refine lv_iload_n hx hb dX11_layRows_19 rfl (lv_at hl 2 rfl) ?_
                    refine x_iast (ws' := fun f_41 => [((n 0), .inr (11, [.int mthrown, .ref (n 1), .ref (n 2), .ref (n 3), .ref (n 4), .int (nI mtaped), .ref (n 5), .int (nI msize), .int (nI mat), .int (nI mfrom), .int mtoken, .int mvalue, .int mfaultKind, .int mfaultPlace, .ref (n 6), .ref (n 7), .ref (n 8), .ref (n 9), .ref (n 10), .ref (n 11), .ref (n 12), .int (nI mmoreMany), .int mlawNow, .int mwetSet, .int moverAll, .ref (n 13), .ref (n 14), .ref (n 15), .int mones, .int mtwos, .int mgone, .ref (n 16), .ref (n 17), .int mroundNow, .ref (n 18), .long msampleFor, .long msampleAll, .ref (n 19), .int maskWorst, .long moftenAll, .long moftenView, .long moftenOnes, .ref (n 20), .ref (n 21), .ref (n 22), .ref (n 23)])), ((n 1), .inl (k 0, 99, .inl fworld)), ((n 7), .inl (k 0, 12, .inl g_36)), ((n 8), .inl (k 0, 12, .inl g_37)), ((n 9), .inl (k 0, 4, .inl f_41))]) S hK hP hD hS 4 rfl (vp_lit (by decide)) (fun _ => rfl) dX11_layRows_20 (fun f_41 H locs ef_41 hP hD hS => ?_)
                    refine lv_iconst (v := 0) hx hb dX11_layRows_21 (by decide) ?_
                    refine lv_istore_n (lv' := [(3, .int 0), (2, .int 2), (1, .int (nI m_35)), (0, .ref (n 0))]) hx hb dX11_layRows_22 rfl hl (by decide) rfl (fun ls hl => ?_)
                    have lp_57 : ∀ (nn j_53 : Nat) (m_54 : Nat) (g_55 : Nat → Int32) (g_56 : Nat → Int32) (H : Heap) (locs : List Loc) (ls : Array Slot), j_53 ≤ wn fworld 11 → wn fworld 11 - j_53 < nn → m_54 ≤ 12 → m_54 = wn fworld 9 + wn fworld 10 + j_53 → va_P D vwCl [((n 0), .inr (11, [.int mthrown, .ref (n 1), .ref (n 2), .ref (n 3), .ref (n 4), .int (nI mtaped), .ref (n 5), .int (nI msize), .int (nI mat), .int (nI mfrom), .int mtoken, .int mvalue, .int mfaultKind, .int mfaultPlace, .ref (n 6), .ref (n 7), .ref (n 8), .ref (n 9), .ref (n 10), .ref (n 11), .ref (n 12), .int (nI mmoreMany), .int mlawNow, .int mwetSet, .int moverAll, .ref (n 13), .ref (n 14), .ref (n 15), .int mones, .int mtwos, .int mgone, .ref (n 16), .ref (n 17), .int mroundNow, .ref (n 18), .long msampleFor, .long msampleAll, .ref (n 19), .int maskWorst, .long moftenAll, .long moftenView, .long moftenOnes, .ref (n 20), .ref (n 21), .ref (n 22), .ref (n 23)])), ((n 1), .inl (k 0, 99, .inl fworld)), ((n 7), .inl (k 0, 12, .inl g_55)), ((n 8), .inl (k 0, 12, .inl g_56)), ((n 9), .inl (k 0, 4, .inl f_41))] H → va_D A [((n 0), .inr (11, [.int mthrown, .ref (n 1), .ref (n 2), .ref (n 3), .ref (n 4), .int (nI mtaped), .ref (n 5), .int (nI msize), .int (nI mat), .int (nI mfrom), .int mtoken, .int mvalue, .int mfaultKind, .int mfaultPlace, .ref (n 6), .ref (n 7), .ref (n 8), .ref (n 9), .ref (n 10), .ref (n 11), .ref (n 12), .int (nI mmoreMany), .int mlawNow, .int mwetSet, .int moverAll, .ref (n 13), .ref (n 14), .ref (n 15), .int mones, .int mtwos, .int mgone, .ref (n 16), .ref (n 17), .int mroundNow, .ref (n 18), .long msampleFor, .long msampleAll, .ref (n 19), .int maskWorst, .long moftenAll, .long moftenView, .long moftenOnes, .ref (n 20), .ref (n 21), .ref (n 22), .ref (n 23)])), ((n 1), .inl (k 0, 99, .inl fworld)), ((n 7), .inl (k 0, 12, .inl g_55)), ((n 8), .inl (k 0, 12, .inl g_56)), ((n 9), .inl (k 0, 4, .inl f_41))] → va_S A s.heap H locs → lv_has ls 4 [(3, .int (nI j_53)), (2, .int 2), (1, .int (nI m_54)), (0, .ref (n 0))] → W p l e (Rm 0 0 0) s m args below meth c H locs 0 0 Q (F0 m 23 ls []) := by
                      intro nn
                      induction nn with
                      | zero => intro j_53 m_54 g_55 g_56 H locs ls hjj_53 hnj_53 hbm_54 hhj_53; exact absurd hnj_53 (by omega)
                      | succ nn ihj_53 =>
                        intro j_53 m_54 g_55 g_56 H locs ls hjj_53 hnj_53 hbm_54 hhj_53 hP hD hS hl
                        refine lv_iload_n hx hb dX11_layRows_23 rfl (lv_at hl 0 rfl) ?_
                        refine lv_aload_n hx hb dX11_layRows_24 rfl (lv_at hl 3 rfl) ?_
                        refine x_get S hK hP 0 rfl cfX11 1 lkX11_9 (by decide) rfl dX11_layRows_25 ?_
                        refine lv_bipush (v := 9) hx hb dX11_layRows_28 (by decide) ?_
                        refine lv_iload_n hx hb dX11_layRows_30 rfl (lv_at hl 1 rfl) ?_
                        refine lv_iadd hx hb dX11_layRows_31 ?_
                        refine x_is 11 (by decide) ?_
                        refine x_iald S hK hP 1 rfl (vp_lit (by decide)) dX11_layRows_32 ?_
                        refine x_is (nI (wn fworld 11)) ((cl_at (f := fworld) (a := 11) (by decide) (by omega)).trans (okW_at hkworld (i := 11) (by omega))) ?_
                        refine lv_icmp_ge (tgt := 59) hx hb dX11_layRows_33 (by decide) (fun c_58 => ?_) (fun c_58 => ?_)
                        · skip
                          have c_58 : wn fworld 11 ≤ j_53 := (ni_le rfl rfl (by omega) (by omega)).mp c_58
                          refine lv_iinc (v := 3) (lv' := [(2, .int 3), (3, .int (nI j_53)), (1, .int (nI m_54)), (0, .ref (n 0))]) hx hb dX11_layRows_59 hl (k := 1) rfl (by decide) (by decide) rfl (fun ls hl => ?_)
                          refine lv_goto (tgt := 4) hx hb dX11_layRows_62 (by decide) ?_
                          refine lv_iload_n hx hb dX11_layRows_4 rfl (lv_at hl 0 rfl) ?_
                          refine lv_aload_n hx hb dX11_layRows_5 rfl (lv_at hl 3 rfl) ?_
                          refine x_get S hK hP 0 rfl cfX11 1 lkX11_9 (by decide) rfl dX11_layRows_6 ?_
                          refine lv_iconst (v := 3) hx hb dX11_layRows_9 (by decide) ?_
                          refine x_iald S hK hP 1 rfl (vp_lit (by decide)) dX11_layRows_10 ?_
                          refine x_is (nI (wn fworld 3)) ((cl_at (f := fworld) (a := 3) (by decide) (by omega)).trans (okW_at hkworld (i := 3) (by omega))) ?_
                          refine lv_icmp_ge (tgt := 65) hx hb dX11_layRows_11 (by decide) (fun c_59 => ?_) (fun c_59 => ?_)
                          · skip
                            have c_59 : wn fworld 3 ≤ 3 := (ni_le rfl (by decide) (by omega) (by omega)).mp c_59
                            exact x_retv S hr hlk hQ hS ((fun i => ([] : List (Int32)).getD i 0), (fun i => ([] : List (Nat)).getD i 0), (fun i => ([g_55, g_56, f_41] : List (Nat → Int32)).getD i (fun _ => 0)), (fun i => ([] : List (Nat → Int64)).getD i (fun _ => 0)), (fun i => ([] : List (Int64)).getD i 0)) trivial (x_B hP hD) dX11_layRows_65
                          · skip
                            have c_59 : ¬ wn fworld 3 ≤ 3 := fun q => c_59 ((ni_le rfl (by decide) (by omega) (by omega)).mpr q)
                            refine lv_aload_n hx hb dX11_layRows_14 rfl (lv_at hl 3 rfl) ?_
                            refine x_get S hK hP 0 rfl cfX11 17 lkX11_40 (by decide) rfl dX11_layRows_15 ?_
                            refine lv_iload_n hx hb dX11_layRows_18 rfl (lv_at hl 0 rfl) ?_
                            refine lv_iload_n hx hb dX11_layRows_19 rfl (lv_at hl 2 rfl) ?_
                            refine x_iast (ws' := fun f_60 => [((n 0), .inr (11, [.int mthrown, .ref (n 1), .ref (n 2), .ref (n 3), .ref (n 4), .int (nI mtaped), .ref (n 5), .int (nI msize), .int (nI mat), .int (nI mfrom), .int mtoken, .int mvalue, .int mfaultKind, .int mfaultPlace, .ref (n 6), .ref (n 7), .ref (n 8), .ref (n 9), .ref (n 10), .ref (n 11), .ref (n 12), .int (nI mmoreMany), .int mlawNow, .int mwetSet, .int moverAll, .ref (n 13), .ref (n 14), .ref (n 15), .int mones, .int mtwos, .int mgone, .ref (n 16), .ref (n 17), .int mroundNow, .ref (n 18), .long msampleFor, .long msampleAll, .ref (n 19), .int maskWorst, .long moftenAll, .long moftenView, .long moftenOnes, .ref (n 20), .ref (n 21), .ref (n 22), .ref (n 23)])), ((n 1), .inl (k 0, 99, .inl fworld)), ((n 7), .inl (k 0, 12, .inl g_55)), ((n 8), .inl (k 0, 12, .inl g_56)), ((n 9), .inl (k 0, 4, .inl f_60))]) S hK hP hD hS 4 rfl (vp_lit (by decide)) (fun _ => rfl) dX11_layRows_20 (fun f_60 H locs ef_60 hP hD hS => ?_)
                            refine lv_iconst (v := 0) hx hb dX11_layRows_21 (by decide) ?_
                            refine lv_istore_n (lv' := [(3, .int 0), (2, .int 3), (1, .int (nI m_54)), (0, .ref (n 0))]) hx hb dX11_layRows_22 rfl hl (by decide) rfl (fun ls hl => ?_)
                            have lp_76 : ∀ (nn j_72 : Nat) (m_73 : Nat) (g_74 : Nat → Int32) (g_75 : Nat → Int32) (H : Heap) (locs : List Loc) (ls : Array Slot), j_72 ≤ wn fworld 12 → wn fworld 12 - j_72 < nn → m_73 ≤ 12 → m_73 = wn fworld 9 + wn fworld 10 + wn fworld 11 + j_72 → va_P D vwCl [((n 0), .inr (11, [.int mthrown, .ref (n 1), .ref (n 2), .ref (n 3), .ref (n 4), .int (nI mtaped), .ref (n 5), .int (nI msize), .int (nI mat), .int (nI mfrom), .int mtoken, .int mvalue, .int mfaultKind, .int mfaultPlace, .ref (n 6), .ref (n 7), .ref (n 8), .ref (n 9), .ref (n 10), .ref (n 11), .ref (n 12), .int (nI mmoreMany), .int mlawNow, .int mwetSet, .int moverAll, .ref (n 13), .ref (n 14), .ref (n 15), .int mones, .int mtwos, .int mgone, .ref (n 16), .ref (n 17), .int mroundNow, .ref (n 18), .long msampleFor, .long msampleAll, .ref (n 19), .int maskWorst, .long moftenAll, .long moftenView, .long moftenOnes, .ref (n 20), .ref (n 21), .ref (n 22), .ref (n 23)])), ((n 1), .inl (k 0, 99, .inl fworld)), ((n 7), .inl (k 0, 12, .inl g_74)), ((n 8), .inl (k 0, 12, .inl g_75)), ((n 9), .inl (k 0, 4, .inl f_60))] H → va_D A [((n 0), .inr (11, [.int mthrown, .ref (n 1), .ref (n 2), .ref (n 3), .ref (n 4), .int (nI mtaped), .ref (n 5), .int (nI msize), .int (nI mat), .int (nI mfrom), .int mtoken, .int mvalue, .int mfaultKind, .int mfaultPlace, .ref (n 6), .ref (n 7), .ref (n 8), .ref (n 9), .ref (n 10), .ref (n 11), .ref (n 12), .int (nI mmoreMany), .int mlawNow, .int mwetSet, .int moverAll, .ref (n 13), .ref (n 14), .ref (n 15), .int mones, .int mtwos, .int mgone, .ref (n 16), .ref (n 17), .int mroundNow, .ref (n 18), .long msampleFor, .long msampleAll, .ref (n 19), .int maskWorst, .long moftenAll, .long moftenView, .long moftenOnes, .ref (n 20), .ref (n 21), .ref (n 22), .ref (n 23)])), ((n 1), .inl (k 0, 99, .inl fworld)), ((n 7), .inl (k 0, 12, .inl g_74)), ((n 8), .inl (k 0, 12, .inl g_75)), ((n 9), .inl (k 0, 4, .inl f_60))] → va_S A s.heap H locs → lv_has ls 4 [(3, .int (nI j_72)), (2, .int 3), (1, .int (nI m_73)), (0, .ref (n 0))] → W p l e (Rm 0 0 0) s m args below meth c H locs 0 0 Q (F0 m 23 ls []) := by
                              intro nn
                              induction nn with
                              | zero => intro j_72 m_73 g_74 g_75 H locs ls hjj_72 hnj_72 hbm_73 hhj_72; exact absurd hnj_72 (by omega)
                              | succ nn ihj_72 =>
                                intro j_72 m_73 g_74 g_75 H locs ls hjj_72 hnj_72 hbm_73 hhj_72 hP hD hS hl
                                refine lv_iload_n hx hb dX11_layRows_23 rfl (lv_at hl 0 rfl) ?_
                                refine lv_aload_n hx hb dX11_layRows_24 rfl (lv_at hl 3 rfl) ?_
                                refine x_get S hK hP 0 rfl cfX11 1 lkX11_9 (by decide) rfl dX11_layRows_25 ?_
                                refine lv_bipush (v := 9) hx hb dX11_layRows_28 (by decide) ?_
                                refine lv_iload_n hx hb dX11_layRows_30 rfl (lv_at hl 1 rfl) ?_
                                refine lv_iadd hx hb dX11_layRows_31 ?_
                                refine x_is 12 (by decide) ?_
                                refine x_iald S hK hP 1 rfl (vp_lit (by decide)) dX11_layRows_32 ?_
                                refine x_is (nI (wn fworld 12)) ((cl_at (f := fworld) (a := 12) (by decide) (by omega)).trans (okW_at hkworld (i := 12) (by omega))) ?_
                                refine lv_icmp_ge (tgt := 59) hx hb dX11_layRows_33 (by decide) (fun c_77 => ?_) (fun c_77 => ?_)
                                · skip
                                  have c_77 : wn fworld 12 ≤ j_72 := (ni_le rfl rfl (by omega) (by omega)).mp c_77
                                  refine lv_iinc (v := 4) (lv' := [(2, .int 4), (3, .int (nI j_72)), (1, .int (nI m_73)), (0, .ref (n 0))]) hx hb dX11_layRows_59 hl (k := 1) rfl (by decide) (by decide) rfl (fun ls hl => ?_)
                                  refine lv_goto (tgt := 4) hx hb dX11_layRows_62 (by decide) ?_
                                  refine lv_iload_n hx hb dX11_layRows_4 rfl (lv_at hl 0 rfl) ?_
                                  refine lv_aload_n hx hb dX11_layRows_5 rfl (lv_at hl 3 rfl) ?_
                                  refine x_get S hK hP 0 rfl cfX11 1 lkX11_9 (by decide) rfl dX11_layRows_6 ?_
                                  refine lv_iconst (v := 3) hx hb dX11_layRows_9 (by decide) ?_
                                  refine x_iald S hK hP 1 rfl (vp_lit (by decide)) dX11_layRows_10 ?_
                                  refine x_is (nI (wn fworld 3)) ((cl_at (f := fworld) (a := 3) (by decide) (by omega)).trans (okW_at hkworld (i := 3) (by omega))) ?_
                                  refine lv_icmp_ge (tgt := 65) hx hb dX11_layRows_11 (by decide) (fun c_78 => ?_) (fun c_78 => ?_)
                                  · skip
                                    have c_78 : wn fworld 3 ≤ 4 := (ni_le rfl (by decide) (by omega) (by omega)).mp c_78
                                    exact x_retv S hr hlk hQ hS ((fun i => ([] : List (Int32)).getD i 0), (fun i => ([] : List (Nat)).getD i 0), (fun i => ([g_74, g_75, f_60] : List (Nat → Int32)).getD i (fun _ => 0)), (fun i => ([] : List (Nat → Int64)).getD i (fun _ => 0)), (fun i => ([] : List (Int64)).getD i 0)) trivial (x_B hP hD) dX11_layRows_65
                                  · skip
                                    have c_78 : ¬ wn fworld 3 ≤ 4 := fun q => c_78 ((ni_le rfl (by decide) (by omega) (by omega)).mpr q)
                                    exfalso; omega
                                · skip
                                  have c_77 : ¬ wn fworld 12 ≤ j_72 := fun q => c_77 ((ni_le rfl rfl (by omega) (by omega)).mpr q)
                                  refine lv_aload_n hx hb dX11_layRows_36 rfl (lv_at hl 3 rfl) ?_
                                  refine x_get S hK hP 0 rfl cfX11 15 lkX11_34 (by decide) rfl dX11_layRows_37 ?_
                                  refine lv_iload_n hx hb dX11_layRows_40 rfl (lv_at hl 2 rfl) ?_
                                  refine lv_iload_n hx hb dX11_layRows_41 rfl (lv_at hl 1 rfl) ?_
                                  refine x_iast (ws' := fun f_79 => [((n 0), .inr (11, [.int mthrown, .ref (n 1), .ref (n 2), .ref (n 3), .ref (n 4), .int (nI mtaped), .ref (n 5), .int (nI msize), .int (nI mat), .int (nI mfrom), .int mtoken, .int mvalue, .int mfaultKind, .int mfaultPlace, .ref (n 6), .ref (n 7), .ref (n 8), .ref (n 9), .ref (n 10), .ref (n 11), .ref (n 12), .int (nI mmoreMany), .int mlawNow, .int mwetSet, .int moverAll, .ref (n 13), .ref (n 14), .ref (n 15), .int mones, .int mtwos, .int mgone, .ref (n 16), .ref (n 17), .int mroundNow, .ref (n 18), .long msampleFor, .long msampleAll, .ref (n 19), .int maskWorst, .long moftenAll, .long moftenView, .long moftenOnes, .ref (n 20), .ref (n 21), .ref (n 22), .ref (n 23)])), ((n 1), .inl (k 0, 99, .inl fworld)), ((n 7), .inl (k 0, 12, .inl f_79)), ((n 8), .inl (k 0, 12, .inl g_75)), ((n 9), .inl (k 0, 4, .inl f_60))]) S hK hP hD hS 2 rfl (vp_in_nI (by omega) (by decide)) (fun _ => rfl) dX11_layRows_42 (fun f_79 H locs ef_79 hP hD hS => ?_)
                                  refine lv_aload_n hx hb dX11_layRows_43 rfl (lv_at hl 3 rfl) ?_
                                  refine x_get S hK hP 0 rfl cfX11 16 lkX11_37 (by decide) rfl dX11_layRows_44 ?_
                                  refine lv_iload_n hx hb dX11_layRows_47 rfl (lv_at hl 2 rfl) ?_
                                  refine lv_iload_n hx hb dX11_layRows_48 rfl (lv_at hl 0 rfl) ?_
                                  refine x_iast (ws' := fun f_80 => [((n 0), .inr (11, [.int mthrown, .ref (n 1), .ref (n 2), .ref (n 3), .ref (n 4), .int (nI mtaped), .ref (n 5), .int (nI msize), .int (nI mat), .int (nI mfrom), .int mtoken, .int mvalue, .int mfaultKind, .int mfaultPlace, .ref (n 6), .ref (n 7), .ref (n 8), .ref (n 9), .ref (n 10), .ref (n 11), .ref (n 12), .int (nI mmoreMany), .int mlawNow, .int mwetSet, .int moverAll, .ref (n 13), .ref (n 14), .ref (n 15), .int mones, .int mtwos, .int mgone, .ref (n 16), .ref (n 17), .int mroundNow, .ref (n 18), .long msampleFor, .long msampleAll, .ref (n 19), .int maskWorst, .long moftenAll, .long moftenView, .long moftenOnes, .ref (n 20), .ref (n 21), .ref (n 22), .ref (n 23)])), ((n 1), .inl (k 0, 99, .inl fworld)), ((n 7), .inl (k 0, 12, .inl f_79)), ((n 8), .inl (k 0, 12, .inl f_80)), ((n 9), .inl (k 0, 4, .inl f_60))]) S hK hP hD hS 3 rfl (vp_in_nI (by omega) (by decide)) (fun _ => rfl) dX11_layRows_49 (fun f_80 H locs ef_80 hP hD hS => ?_)
                                  refine lv_iinc (v := (nI (m_73 + 1))) (lv' := [(1, .int (nI (m_73 + 1))), (3, .int (nI j_72)), (2, .int 3), (0, .ref (n 0))]) hx hb dX11_layRows_50 hl (k := 2) rfl (ni_inc _) (by decide) rfl (fun ls hl => ?_)
                                  refine lv_iinc (v := (nI (j_72 + 1))) (lv' := [(3, .int (nI (j_72 + 1))), (1, .int (nI (m_73 + 1))), (2, .int 3), (0, .ref (n 0))]) hx hb dX11_layRows_53 hl (k := 1) rfl (ni_inc _) (by decide) rfl (fun ls hl => ?_)
                                  refine lv_goto (tgt := 23) hx hb dX11_layRows_56 (by decide) ?_
                                  exact ihj_72 (j_72 + 1) (m_73 + 1) f_79 f_80 _ _ _ (by omega) (by omega) (by omega) (by omega) hP hD hS (lv_sub hl [0, 2, 1, 3] rfl)
                            exact lp_76 (wn fworld 12 + 1) 0 m_54 g_55 g_56 _ _ _ (by omega) (by omega) (by omega) (by omega) hP hD hS (lv_sub hl [0, 1, 2, 3] rfl)
                        · skip
                          have c_58 : ¬ wn fworld 11 ≤ j_53 := fun q => c_58 ((ni_le rfl rfl (by omega) (by omega)).mpr q)
                          refine lv_aload_n hx hb dX11_layRows_36 rfl (lv_at hl 3 rfl) ?_
                          refine x_get S hK hP 0 rfl cfX11 15 lkX11_34 (by decide) rfl dX11_layRows_37 ?_
                          refine lv_iload_n hx hb dX11_layRows_40 rfl (lv_at hl 2 rfl) ?_
                          refine lv_iload_n hx hb dX11_layRows_41 rfl (lv_at hl 1 rfl) ?_
                          refine x_iast (ws' := fun f_81 => [((n 0), .inr (11, [.int mthrown, .ref (n 1), .ref (n 2), .ref (n 3), .ref (n 4), .int (nI mtaped), .ref (n 5), .int (nI msize), .int (nI mat), .int (nI mfrom), .int mtoken, .int mvalue, .int mfaultKind, .int mfaultPlace, .ref (n 6), .ref (n 7), .ref (n 8), .ref (n 9), .ref (n 10), .ref (n 11), .ref (n 12), .int (nI mmoreMany), .int mlawNow, .int mwetSet, .int moverAll, .ref (n 13), .ref (n 14), .ref (n 15), .int mones, .int mtwos, .int mgone, .ref (n 16), .ref (n 17), .int mroundNow, .ref (n 18), .long msampleFor, .long msampleAll, .ref (n 19), .int maskWorst, .long moftenAll, .long moftenView, .long moftenOnes, .ref (n 20), .ref (n 21), .ref (n 22), .ref (n 23)])), ((n 1), .inl (k 0, 99, .inl fworld)), ((n 7), .inl (k 0, 12, .inl f_81)), ((n 8), .inl (k 0, 12, .inl g_56)), ((n 9), .inl (k 0, 4, .inl f_41))]) S hK hP hD hS 2 rfl (vp_in_nI (by omega) (by decide)) (fun _ => rfl) dX11_layRows_42 (fun f_81 H locs ef_81 hP hD hS => ?_)
                          refine lv_aload_n hx hb dX11_layRows_43 rfl (lv_at hl 3 rfl) ?_
                          refine x_get S hK hP 0 rfl cfX11 16 lkX11_37 (by decide) rfl dX11_layRows_44 ?_
                          refine lv_iload_n hx hb dX11_layRows_47 rfl (lv_at hl 2 rfl) ?_
                          refine lv_iload_n hx hb dX11_layRows_48 rfl (lv_at hl 0 rfl) ?_
                          refine x_iast (ws' := fun f_82 => [((n 0), .inr (11, [.int mthrown, .ref (n 1), .ref (n 2), .ref (n 3), .ref (n 4), .int (nI mtaped), .ref (n 5), .int (nI msize), .int (nI mat), .int (nI mfrom), .int mtoken, .int mvalue, .int mfaultKind, .int mfaultPlace, .ref (n 6), .ref (n 7), .ref (n 8), .ref (n 9), .ref (n 10), .ref (n 11), .ref (n 12), .int (nI mmoreMany), .int mlawNow, .int mwetSet, .int moverAll, .ref (n 13), .ref (n 14), .ref (n 15), .int mones, .int mtwos, .int mgone, .ref (n 16), .ref (n 17), .int mroundNow, .ref (n 18), .long msampleFor, .long msampleAll, .ref (n 19), .int maskWorst, .long moftenAll, .long moftenView, .long moftenOnes, .ref (n 20), .ref (n 21), .ref (n 22), .ref (n 23)])), ((n 1), .inl (k 0, 99, .inl fworld)), ((n 7), .inl (k 0, 12, .inl f_81)), ((n 8), .inl (k 0, 12, .inl f_82)), ((n 9), .inl (k 0, 4, .inl f_41))]) S hK hP hD hS 3 rfl (vp_in_nI (by omega) (by decide)) (fun _ => rfl) dX11_layRows_49 (fun f_82 H locs ef_82 hP hD hS => ?_)
                          refine lv_iinc (v := (nI (m_54 + 1))) (lv' := [(1, .int (nI (m_54 + 1))), (3, .int (nI j_53)), (2, .int 2), (0, .ref (n 0))]) hx hb dX11_layRows_50 hl (k := 2) rfl (ni_inc _) (by decide) rfl (fun ls hl => ?_)
                          refine lv_iinc (v := (nI (j_53 + 1))) (lv' := [(3, .int (nI (j_53 + 1))), (1, .int (nI (m_54 + 1))), (2, .int 2), (0, .ref (n 0))]) hx hb dX11_layRows_53 hl (k := 1) rfl (ni_inc _) (by decide) rfl (fun ls hl => ?_)
                          refine lv_goto (tgt := 23) hx hb dX11_layRows_56 (by decide) ?_
                          exact ihj_53 (j_53 + 1) (m_54 + 1) f_81 f_82 _ _ _ (by omega) (by omega) (by omega) (by omega) hP hD hS (lv_sub hl [0, 2, 1, 3] rfl)
                    exact lp_57 (wn fworld 11 + 1) 0 m_35 g_36 g_37 _ _ _ (by omega) (by omega) (by omega) (by omega) hP hD hS (lv_sub hl [0, 1, 2, 3] rfl)
                · skip
                  have c_39 : ¬ wn fworld 10 ≤ j_34 := fun q => c_39 ((ni_le rfl rfl (by omega) (by omega)).mpr q)
                  refine lv_aload_n hx hb dX11_layRows_36 rfl (lv_at hl 3 rfl) ?_
                  refine x_get S hK hP 0 rfl cfX11 15 lkX11_34 (by decide) rfl dX11_layRows_37 ?_
                  refine lv_iload_n hx hb dX11_layRows_40 rfl (lv_at hl 2 rfl) ?_
                  refine lv_iload_n hx hb dX11_layRows_41 rfl (lv_at hl 1 rfl) ?_
                  refine x_iast (ws' := fun f_83 => [((n 0), .inr (11, [.int mthrown, .ref (n 1), .ref (n 2), .ref (n 3), .ref (n 4), .int (nI mtaped), .ref (n 5), .int (nI msize), .int (nI mat), .int (nI mfrom), .int mtoken, .int mvalue, .int mfaultKind, .int mfaultPlace, .ref (n 6), .ref (n 7), .ref (n 8), .ref (n 9), .ref (n 10), .ref (n 11), .ref (n 12), .int (nI mmoreMany), .int mlawNow, .int mwetSet, .int moverAll, .ref (n 13), .ref (n 14), .ref (n 15), .int mones, .int mtwos, .int mgone, .ref (n 16), .ref (n 17), .int mroundNow, .ref (n 18), .long msampleFor, .long msampleAll, .ref (n 19), .int maskWorst, .long moftenAll, .long moftenView, .long moftenOnes, .ref (n 20), .ref (n 21), .ref (n 22), .ref (n 23)])), ((n 1), .inl (k 0, 99, .inl fworld)), ((n 7), .inl (k 0, 12, .inl f_83)), ((n 8), .inl (k 0, 12, .inl g_37)), ((n 9), .inl (k 0, 4, .inl f_22))]) S hK hP hD hS 2 rfl (vp_in_nI (by omega) (by decide)) (fun _ => rfl) dX11_layRows_42 (fun f_83 H locs ef_83 hP hD hS => ?_)
                  refine lv_aload_n hx hb dX11_layRows_43 rfl (lv_at hl 3 rfl) ?_
                  refine x_get S hK hP 0 rfl cfX11 16 lkX11_37 (by decide) rfl dX11_layRows_44 ?_
                  refine lv_iload_n hx hb dX11_layRows_47 rfl (lv_at hl 2 rfl) ?_
                  refine lv_iload_n hx hb dX11_layRows_48 rfl (lv_at hl 0 rfl) ?_
                  refine x_iast (ws' := fun f_84 => [((n 0), .inr (11, [.int mthrown, .ref (n 1), .ref (n 2), .ref (n 3), .ref (n 4), .int (nI mtaped), .ref (n 5), .int (nI msize), .int (nI mat), .int (nI mfrom), .int mtoken, .int mvalue, .int mfaultKind, .int mfaultPlace, .ref (n 6), .ref (n 7), .ref (n 8), .ref (n 9), .ref (n 10), .ref (n 11), .ref (n 12), .int (nI mmoreMany), .int mlawNow, .int mwetSet, .int moverAll, .ref (n 13), .ref (n 14), .ref (n 15), .int mones, .int mtwos, .int mgone, .ref (n 16), .ref (n 17), .int mroundNow, .ref (n 18), .long msampleFor, .long msampleAll, .ref (n 19), .int maskWorst, .long moftenAll, .long moftenView, .long moftenOnes, .ref (n 20), .ref (n 21), .ref (n 22), .ref (n 23)])), ((n 1), .inl (k 0, 99, .inl fworld)), ((n 7), .inl (k 0, 12, .inl f_83)), ((n 8), .inl (k 0, 12, .inl f_84)), ((n 9), .inl (k 0, 4, .inl f_22))]) S hK hP hD hS 3 rfl (vp_in_nI (by omega) (by decide)) (fun _ => rfl) dX11_layRows_49 (fun f_84 H locs ef_84 hP hD hS => ?_)
                  refine lv_iinc (v := (nI (m_35 + 1))) (lv' := [(1, .int (nI (m_35 + 1))), (3, .int (nI j_34)), (2, .int 1), (0, .ref (n 0))]) hx hb dX11_layRows_50 hl (k := 2) rfl (ni_inc _) (by decide) rfl (fun ls hl => ?_)
                  refine lv_iinc (v := (nI (j_34 + 1))) (lv' := [(3, .int (nI (j_34 + 1))), (1, .int (nI (m_35 + 1))), (2, .int 1), (0, .ref (n 0))]) hx hb dX11_layRows_53 hl (k := 1) rfl (ni_inc _) (by decide) rfl (fun ls hl => ?_)
                  refine lv_goto (tgt := 23) hx hb dX11_layRows_56 (by decide) ?_
                  exact ihj_34 (j_34 + 1) (m_35 + 1) f_83 f_84 _ _ _ (by omega) (by omega) (by omega) (by omega) hP hD hS (lv_sub hl [0, 2, 1, 3] rfl)
            exact lp_38 (wn fworld 10 + 1) 0 m_16 g_17 g_18 _ _ _ (by omega) (by omega) (by omega) (by omega) hP hD hS (lv_sub hl [0, 1, 2, 3] rfl)
        · skip
          have c_20 : ¬ wn fworld 9 ≤ j_15 := fun q => c_20 ((ni_le rfl rfl (by omega) (by omega)).mpr q)
          refine lv_aload_n hx hb dX11_layRows_36 rfl (lv_at hl 3 rfl) ?_
          refine x_get S hK hP 0 rfl cfX11 15 lkX11_34 (by decide) rfl dX11_layRows_37 ?_
          refine lv_iload_n hx hb dX11_layRows_40 rfl (lv_at hl 2 rfl) ?_
          refine lv_iload_n hx hb dX11_layRows_41 rfl (lv_at hl 1 rfl) ?_
          refine x_iast (ws' := fun f_85 => [((n 0), .inr (11, [.int mthrown, .ref (n 1), .ref (n 2), .ref (n 3), .ref (n 4), .int (nI mtaped), .ref (n 5), .int (nI msize), .int (nI mat), .int (nI mfrom), .int mtoken, .int mvalue, .int mfaultKind, .int mfaultPlace, .ref (n 6), .ref (n 7), .ref (n 8), .ref (n 9), .ref (n 10), .ref (n 11), .ref (n 12), .int (nI mmoreMany), .int mlawNow, .int mwetSet, .int moverAll, .ref (n 13), .ref (n 14), .ref (n 15), .int mones, .int mtwos, .int mgone, .ref (n 16), .ref (n 17), .int mroundNow, .ref (n 18), .long msampleFor, .long msampleAll, .ref (n 19), .int maskWorst, .long moftenAll, .long moftenView, .long moftenOnes, .ref (n 20), .ref (n 21), .ref (n 22), .ref (n 23)])), ((n 1), .inl (k 0, 99, .inl fworld)), ((n 7), .inl (k 0, 12, .inl f_85)), ((n 8), .inl (k 0, 12, .inl g_18)), ((n 9), .inl (k 0, 4, .inl f_2))]) S hK hP hD hS 2 rfl (vp_in_nI (by omega) (by decide)) (fun _ => rfl) dX11_layRows_42 (fun f_85 H locs ef_85 hP hD hS => ?_)
          refine lv_aload_n hx hb dX11_layRows_43 rfl (lv_at hl 3 rfl) ?_
          refine x_get S hK hP 0 rfl cfX11 16 lkX11_37 (by decide) rfl dX11_layRows_44 ?_
          refine lv_iload_n hx hb dX11_layRows_47 rfl (lv_at hl 2 rfl) ?_
          refine lv_iload_n hx hb dX11_layRows_48 rfl (lv_at hl 0 rfl) ?_
          refine x_iast (ws' := fun f_86 => [((n 0), .inr (11, [.int mthrown, .ref (n 1), .ref (n 2), .ref (n 3), .ref (n 4), .int (nI mtaped), .ref (n 5), .int (nI msize), .int (nI mat), .int (nI mfrom), .int mtoken, .int mvalue, .int mfaultKind, .int mfaultPlace, .ref (n 6), .ref (n 7), .ref (n 8), .ref (n 9), .ref (n 10), .ref (n 11), .ref (n 12), .int (nI mmoreMany), .int mlawNow, .int mwetSet, .int moverAll, .ref (n 13), .ref (n 14), .ref (n 15), .int mones, .int mtwos, .int mgone, .ref (n 16), .ref (n 17), .int mroundNow, .ref (n 18), .long msampleFor, .long msampleAll, .ref (n 19), .int maskWorst, .long moftenAll, .long moftenView, .long moftenOnes, .ref (n 20), .ref (n 21), .ref (n 22), .ref (n 23)])), ((n 1), .inl (k 0, 99, .inl fworld)), ((n 7), .inl (k 0, 12, .inl f_85)), ((n 8), .inl (k 0, 12, .inl f_86)), ((n 9), .inl (k 0, 4, .inl f_2))]) S hK hP hD hS 3 rfl (vp_in_nI (by omega) (by decide)) (fun _ => rfl) dX11_layRows_49 (fun f_86 H locs ef_86 hP hD hS => ?_)
          refine lv_iinc (v := (nI (m_16 + 1))) (lv' := [(1, .int (nI (m_16 + 1))), (3, .int (nI j_15)), (2, .int 0), (0, .ref (n 0))]) hx hb dX11_layRows_50 hl (k := 2) rfl (ni_inc _) (by decide) rfl (fun ls hl => ?_)
          refine lv_iinc (v := (nI (j_15 + 1))) (lv' := [(3, .int (nI (j_15 + 1))), (1, .int (nI (m_16 + 1))), (2, .int 0), (0, .ref (n 0))]) hx hb dX11_layRows_53 hl (k := 1) rfl (ni_inc _) (by decide) rfl (fun ls hl => ?_)
          refine lv_goto (tgt := 23) hx hb dX11_layRows_56 (by decide) ?_
          exact ihj_15 (j_15 + 1) (m_16 + 1) f_85 f_86 _ _ _ (by omega) (by omega) (by omega) (by omega) hP hD hS (lv_sub hl [0, 2, 1, 3] rfl)
    exact lp_19 (wn fworld 9 + 1) 0 0 frowOf fplaceOf _ _ _ (by omega) (by omega) (by omega) (by omega) hP hD hS (lv_sub hl [0, 1, 2, 3] rfl)

set_option maxHeartbeats 4000000 in
set_option maxRecDepth 100000 in
theorem ctX11_headAt (l : Launch) (D : va_G) (k : Nat → ClassId) (z : Nat → Nat) (n : Nat → Nat) (mthrown : Int32) (mtaped : Nat) (msize : Nat) (mat : Nat) (mfrom : Nat) (mtoken : Int32) (mvalue : Int32) (mfaultKind : Int32) (mfaultPlace : Int32) (mmoreMany : Nat) (mlawNow : Int32) (mwetSet : Int32) (moverAll : Int32) (mones : Int32) (mtwos : Int32) (mgone : Int32) (mroundNow : Int32) (msampleFor : Int64) (msampleAll : Int64) (maskWorst : Int32) (moftenAll : Int64) (moftenView : Int64) (moftenOnes : Int64) (fworld : Nat → Int32) (ffirstOf : Nat → Int32) (p0 : Int32) (p1 : Int32) (hmtaped : mtaped ≤ 600) (hmsize : msize ≤ 600) (hmat : mat ≤ 600) (hmfrom : mfrom ≤ 600) (hmmoreMany : mmoreMany ≤ 14) (hkworld : okW fworld) : RO l yX11_headAt cX11_headAt 3 (some .int) 2 D k z [.ref (n 0), .int p0, .int p1] [((n 0), .inr (11, [.int mthrown, .ref (n 1), .ref (n 2), .ref (n 3), .ref (n 4), .int (nI mtaped), .ref (n 5), .int (nI msize), .int (nI mat), .int (nI mfrom), .int mtoken, .int mvalue, .int mfaultKind, .int mfaultPlace, .ref (n 6), .ref (n 7), .ref (n 8), .ref (n 9), .ref (n 10), .ref (n 11), .ref (n 12), .int (nI mmoreMany), .int mlawNow, .int mwetSet, .int moverAll, .ref (n 13), .ref (n 14), .ref (n 15), .int mones, .int mtwos, .int mgone, .ref (n 16), .ref (n 17), .int mroundNow, .ref (n 18), .long msampleFor, .long msampleAll, .ref (n 19), .int maskWorst, .long moftenAll, .long moftenView, .long moftenOnes, .ref (n 20), .ref (n 21), .ref (n 22), .ref (n 23)])), ((n 1), .inl (k 0, 99, .inl fworld)), ((n 9), .inl (k 0, 4, .inl ffirstOf))] (Qi (fun r : Int32 => True)) := by
  refine RO.of (by decide) (Nat.le_of_ble_eq_true rfl) ?_
  intro p e s m below meth c ls A B args Q S hr hlk hQ hK hP hDW hZ hAB hBA hA hS hl
  have hx := S.1
  have hb := S.2.1
  have hl : lv_has ls 3 [(0, .ref (n 0)), (1, .int p0), (2, .int p1)] := hl
  have hbfworld := okW_bd hkworld
  refine lv_aload_n hx hb dX11_headAt_0 rfl (lv_at hl 0 rfl) ?_
  refine lv_iload_n hx hb dX11_headAt_1 rfl (lv_at hl 1 rfl) ?_
  refine x_roVi (As := [.int p0]) S hK hP hDW hZ hAB hBA hS hA hl mwX11_isRow lkX11_227 (ctX11_isRow l D k z n mthrown mtaped msize mat mfrom mtoken mvalue mfaultKind mfaultPlace mmoreMany mlawNow mwetSet moverAll mones mtwos mgone mroundNow msampleFor msampleAll maskWorst moftenAll moftenView moftenOnes fworld p0 (by omega) (by omega) (by omega) (by omega) (by omega) (hkworld)) [0, 1] rfl (by decide) rfl rfl rfl rfl rfl ⟨Nat.le_of_ble_eq_true rfl, Nat.le_of_ble_eq_true rfl, Nat.le_of_ble_eq_true rfl⟩ dX11_headAt_2 ⟨Nat.le_of_ble_eq_true rfl, Nat.le_of_ble_eq_true rfl⟩ (fun r_1 H locs hr_1 hP hS => ?_)
  obtain ⟨hp_3, hz_4⟩ := hr_1
  refine lv_if_eq (tgt := 40) hx hb dX11_headAt_5 (by decide) (fun c_5 => ?_) (fun c_5 => ?_)
  · skip
    refine lv_iconst (v := (-1)) hx hb dX11_headAt_40 (by decide) ?_
    exact x_reti S hr hlk hQ hS () trivial x_T dX11_headAt_41
  · skip
    obtain ⟨n_6, rfl, hn_6⟩ := hp_3.resolve_left c_5
    refine lv_iload_n hx hb dX11_headAt_8 rfl (lv_at hl 2 rfl) ?_
    refine lv_i2l (v := p1.toInt64) hx hb dX11_headAt_9 rfl ?_
    refine lv_lconst (v := 0) hx hb dX11_headAt_10 (by decide) ?_
    refine lv_aload_n hx hb dX11_headAt_11 rfl (lv_at hl 0 rfl) ?_
    refine x_get S hK hP 0 rfl cfX11 1 lkX11_9 (by decide) rfl dX11_headAt_12 ?_
    refine lv_bipush (v := 9) hx hb dX11_headAt_15 (by decide) ?_
    refine lv_iload_n hx hb dX11_headAt_17 rfl (lv_at hl 1 rfl) ?_
    refine lv_iadd hx hb dX11_headAt_18 ?_
    refine x_is (nI (9 + n_6)) (ni_add (by decide) rfl) ?_
    refine x_iald S hK hP 1 rfl (vp_in_nI (by omega) (by decide)) dX11_headAt_19 ?_
    refine x_is (nI (wn fworld (9 + n_6))) ((cl_at (f := fworld) (a := 9 + n_6) rfl (by omega)).trans (okW_at hkworld (i := 9 + n_6) (by omega))) ?_
    have hrw := okW_row hkworld (j := n_6) (by omega)
    refine lv_iconst (v := 1) hx hb dX11_headAt_20 (by decide) ?_
    refine lv_isub hx hb dX11_headAt_21 ?_
    refine lv_topi (fun v_7 ev_7 => ?_)
    refine lv_i2l (v := v_7.toInt64) hx hb dX11_headAt_22 rfl ?_
    refine x_roSi (As := [.long p1.toInt64, .long 0, .long v_7.toInt64]) S hK hP hDW hZ hAB hBA hS hA hl mwX11_in lkX11_91 (ctX11_in l D k z p1.toInt64 0 v_7.toInt64 ) [] rfl (by decide) rfl rfl ⟨Nat.le_of_ble_eq_true rfl, Nat.le_of_ble_eq_true rfl, Nat.le_of_ble_eq_true rfl⟩ dX11_headAt_23 ⟨Nat.le_of_ble_eq_true rfl, Nat.le_of_ble_eq_true rfl⟩ (fun r_8 H locs hr_8 hP hS => ?_)
    obtain rfl := hr_8
    refine lv_if_eq (tgt := 40) hx hb dX11_headAt_26 (by decide) (fun c_10 => ?_) (fun c_10 => ?_)
    · skip
      have c_10 : ¬ (0 ≤ p1.toInt64 ∧ p1.toInt64 ≤ v_7.toInt64) := bo_0.mp c_10
      refine lv_iconst (v := (-1)) hx hb dX11_headAt_40 (by decide) ?_
      exact x_reti S hr hlk hQ hS () trivial x_T dX11_headAt_41
    · skip
      have c_10 : 0 ≤ p1.toInt64 ∧ p1.toInt64 ≤ v_7.toInt64 := bo_1.mp c_10
      refine lv_aload_n hx hb dX11_headAt_29 rfl (lv_at hl 0 rfl) ?_
      refine x_get S hK hP 0 rfl cfX11 17 lkX11_40 (by decide) rfl dX11_headAt_30 ?_
      refine lv_iload_n hx hb dX11_headAt_33 rfl (lv_at hl 1 rfl) ?_
      refine x_iald S hK hP 2 rfl (vp_in_nI (by omega) (by decide)) dX11_headAt_34 ?_
      refine lv_topi (fun v_11 ev_11 => ?_)
      refine lv_iload_n hx hb dX11_headAt_35 rfl (lv_at hl 2 rfl) ?_
      refine lv_iadd hx hb dX11_headAt_36 ?_
      refine lv_topi (fun v_12 ev_12 => ?_)
      refine lv_goto (tgt := 41) hx hb dX11_headAt_37 (by decide) ?_
      exact x_reti S hr hlk hQ hS () trivial x_T dX11_headAt_41

set_option maxHeartbeats 4000000 in
set_option maxRecDepth 100000 in
theorem ctX11_besides (l : Launch) (D : va_G) (k : Nat → ClassId) (z : Nat → Nat) (n : Nat → Nat) (mthrown : Int32) (mtaped : Nat) (msize : Nat) (mat : Nat) (mfrom : Nat) (mtoken : Int32) (mvalue : Int32) (mfaultKind : Int32) (mfaultPlace : Int32) (mmoreMany : Nat) (mlawNow : Int32) (mwetSet : Int32) (moverAll : Int32) (mones : Int32) (mtwos : Int32) (mgone : Int32) (mroundNow : Int32) (msampleFor : Int64) (msampleAll : Int64) (maskWorst : Int32) (moftenAll : Int64) (moftenView : Int64) (moftenOnes : Int64) (fworld : Nat → Int32) (frowOf : Nat → Int32) (fplaceOf : Nat → Int32) (ffirstOf : Nat → Int32) (p0 : Nat) (hmtaped : mtaped ≤ 600) (hmsize : msize ≤ 600) (hmat : mat ≤ 600) (hmfrom : mfrom ≤ 600) (hmmoreMany : mmoreMany ≤ 14) (hkworld : okW fworld) (hp0 : p0 ≤ 11) : RO l yX11_besides cX11_besides 2 (some .int) 3 D k z [.ref (n 0), .int (nI p0)] [((n 0), .inr (11, [.int mthrown, .ref (n 1), .ref (n 2), .ref (n 3), .ref (n 4), .int (nI mtaped), .ref (n 5), .int (nI msize), .int (nI mat), .int (nI mfrom), .int mtoken, .int mvalue, .int mfaultKind, .int mfaultPlace, .ref (n 6), .ref (n 7), .ref (n 8), .ref (n 9), .ref (n 10), .ref (n 11), .ref (n 12), .int (nI mmoreMany), .int mlawNow, .int mwetSet, .int moverAll, .ref (n 13), .ref (n 14), .ref (n 15), .int mones, .int mtwos, .int mgone, .ref (n 16), .ref (n 17), .int mroundNow, .ref (n 18), .long msampleFor, .long msampleAll, .ref (n 19), .int maskWorst, .long moftenAll, .long moftenView, .long moftenOnes, .ref (n 20), .ref (n 21), .ref (n 22), .ref (n 23)])), ((n 1), .inl (k 0, 99, .inl fworld)), ((n 7), .inl (k 0, 12, .inl frowOf)), ((n 8), .inl (k 0, 12, .inl fplaceOf)), ((n 9), .inl (k 0, 4, .inl ffirstOf))] (Qi (fun r : Int32 => True)) := by
  refine RO.of (by decide) (Nat.le_of_ble_eq_true rfl) ?_
  intro p e s m below meth c ls A B args Q S hr hlk hQ hK hP hDW hZ hAB hBA hA hS hl
  have hx := S.1
  have hb := S.2.1
  have hl : lv_has ls 2 [(0, .ref (n 0)), (1, .int (nI p0))] := hl
  have hbfworld := okW_bd hkworld
  refine lv_aload_n hx hb dX11_besides_0 rfl (lv_at hl 0 rfl) ?_
  refine lv_aload_n hx hb dX11_besides_1 rfl (lv_at hl 0 rfl) ?_
  refine x_get S hK hP 0 rfl cfX11 15 lkX11_34 (by decide) rfl dX11_besides_2 ?_
  refine lv_iload_n hx hb dX11_besides_5 rfl (lv_at hl 1 rfl) ?_
  refine x_iald S hK hP 2 rfl (vp_in_nI (by omega) (by decide)) dX11_besides_6 ?_
  refine lv_topi (fun v_1 ev_1 => ?_)
  refine lv_aload_n hx hb dX11_besides_7 rfl (lv_at hl 0 rfl) ?_
  refine x_get S hK hP 0 rfl cfX11 16 lkX11_37 (by decide) rfl dX11_besides_8 ?_
  refine lv_iload_n hx hb dX11_besides_11 rfl (lv_at hl 1 rfl) ?_
  refine x_iald S hK hP 3 rfl (vp_in_nI (by omega) (by decide)) dX11_besides_12 ?_
  refine lv_topi (fun v_2 ev_2 => ?_)
  refine lv_iconst (v := 1) hx hb dX11_besides_13 (by decide) ?_
  refine lv_isub hx hb dX11_besides_14 ?_
  refine lv_topi (fun v_3 ev_3 => ?_)
  refine x_roVi (As := [.int v_1, .int v_3]) S hK hP hDW hZ hAB hBA hS hA hl mwX11_headAt lkX11_231 (ctX11_headAt l D k z n mthrown mtaped msize mat mfrom mtoken mvalue mfaultKind mfaultPlace mmoreMany mlawNow mwetSet moverAll mones mtwos mgone mroundNow msampleFor msampleAll maskWorst moftenAll moftenView moftenOnes fworld ffirstOf v_1 v_3 (by omega) (by omega) (by omega) (by omega) (by omega) (hkworld)) [0, 1, 4] rfl (by decide) rfl rfl rfl rfl rfl ⟨Nat.le_of_ble_eq_true rfl, Nat.le_of_ble_eq_true rfl, Nat.le_of_ble_eq_true rfl⟩ dX11_besides_15 ⟨Nat.le_of_ble_eq_true rfl, Nat.le_of_ble_eq_true rfl⟩ (fun r_4 H locs hr_4 hP hS => ?_)
  refine x_roSi (As := [.int r_4]) S hK hP hDW hZ hAB hBA hS hA hl mwX11_oneOf lkX11_234 (ctX11_oneOf l D k z r_4 ) [] rfl (by decide) rfl rfl ⟨Nat.le_of_ble_eq_true rfl, Nat.le_of_ble_eq_true rfl, Nat.le_of_ble_eq_true rfl⟩ dX11_besides_18 ⟨Nat.le_of_ble_eq_true rfl, Nat.le_of_ble_eq_true rfl⟩ (fun r_6 H locs hr_6 hP hS => ?_)
  refine lv_aload_n hx hb dX11_besides_21 rfl (lv_at hl 0 rfl) ?_
  refine lv_aload_n hx hb dX11_besides_22 rfl (lv_at hl 0 rfl) ?_
  refine x_get S hK hP 0 rfl cfX11 15 lkX11_34 (by decide) rfl dX11_besides_23 ?_
  refine lv_iload_n hx hb dX11_besides_26 rfl (lv_at hl 1 rfl) ?_
  refine x_iald S hK hP 2 rfl (vp_in_nI (by omega) (by decide)) dX11_besides_27 ?_
  refine lv_topi (fun v_8 ev_8 => ?_)
  refine lv_aload_n hx hb dX11_besides_28 rfl (lv_at hl 0 rfl) ?_
  refine x_get S hK hP 0 rfl cfX11 16 lkX11_37 (by decide) rfl dX11_besides_29 ?_
  refine lv_iload_n hx hb dX11_besides_32 rfl (lv_at hl 1 rfl) ?_
  refine x_iald S hK hP 3 rfl (vp_in_nI (by omega) (by decide)) dX11_besides_33 ?_
  refine lv_topi (fun v_9 ev_9 => ?_)
  refine lv_iconst (v := 1) hx hb dX11_besides_34 (by decide) ?_
  refine lv_iadd hx hb dX11_besides_35 ?_
  refine lv_topi (fun v_10 ev_10 => ?_)
  refine x_roVi (As := [.int v_8, .int v_10]) S hK hP hDW hZ hAB hBA hS hA hl mwX11_headAt lkX11_231 (ctX11_headAt l D k z n mthrown mtaped msize mat mfrom mtoken mvalue mfaultKind mfaultPlace mmoreMany mlawNow mwetSet moverAll mones mtwos mgone mroundNow msampleFor msampleAll maskWorst moftenAll moftenView moftenOnes fworld ffirstOf v_8 v_10 (by omega) (by omega) (by omega) (by omega) (by omega) (hkworld)) [0, 1, 4] rfl (by decide) rfl rfl rfl rfl rfl ⟨Nat.le_of_ble_eq_true rfl, Nat.le_of_ble_eq_true rfl, Nat.le_of_ble_eq_true rfl⟩ dX11_besides_36 ⟨Nat.le_of_ble_eq_true rfl, Nat.le_of_ble_eq_true rfl⟩ (fun r_11 H locs hr_11 hP hS => ?_)
  refine x_roSi (As := [.int r_11]) S hK hP hDW hZ hAB hBA hS hA hl mwX11_oneOf lkX11_234 (ctX11_oneOf l D k z r_11 ) [] rfl (by decide) rfl rfl ⟨Nat.le_of_ble_eq_true rfl, Nat.le_of_ble_eq_true rfl, Nat.le_of_ble_eq_true rfl⟩ dX11_besides_39 ⟨Nat.le_of_ble_eq_true rfl, Nat.le_of_ble_eq_true rfl⟩ (fun r_13 H locs hr_13 hP hS => ?_)
  refine lv_ior hx hb dX11_besides_42 ?_
  refine lv_topi (fun v_15 ev_15 => ?_)
  exact x_reti S hr hlk hQ hS () trivial x_T dX11_besides_43

set_option maxHeartbeats 4000000 in
set_option maxRecDepth 100000 in
theorem ctX11_across (l : Launch) (D : va_G) (k : Nat → ClassId) (z : Nat → Nat) (n : Nat → Nat) (mthrown : Int32) (mtaped : Nat) (msize : Nat) (mat : Nat) (mfrom : Nat) (mtoken : Int32) (mvalue : Int32) (mfaultKind : Int32) (mfaultPlace : Int32) (mmoreMany : Nat) (mlawNow : Int32) (mwetSet : Int32) (moverAll : Int32) (mones : Int32) (mtwos : Int32) (mgone : Int32) (mroundNow : Int32) (msampleFor : Int64) (msampleAll : Int64) (maskWorst : Int32) (moftenAll : Int64) (moftenView : Int64) (moftenOnes : Int64) (fworld : Nat → Int32) (frowOf : Nat → Int32) (fplaceOf : Nat → Int32) (ffirstOf : Nat → Int32) (p0 : Nat) (hmtaped : mtaped ≤ 600) (hmsize : msize ≤ 600) (hmat : mat ≤ 600) (hmfrom : mfrom ≤ 600) (hmmoreMany : mmoreMany ≤ 14) (hkworld : okW fworld) (hp0 : p0 ≤ 11) : RO l yX11_across cX11_across 2 (some .int) 3 D k z [.ref (n 0), .int (nI p0)] [((n 0), .inr (11, [.int mthrown, .ref (n 1), .ref (n 2), .ref (n 3), .ref (n 4), .int (nI mtaped), .ref (n 5), .int (nI msize), .int (nI mat), .int (nI mfrom), .int mtoken, .int mvalue, .int mfaultKind, .int mfaultPlace, .ref (n 6), .ref (n 7), .ref (n 8), .ref (n 9), .ref (n 10), .ref (n 11), .ref (n 12), .int (nI mmoreMany), .int mlawNow, .int mwetSet, .int moverAll, .ref (n 13), .ref (n 14), .ref (n 15), .int mones, .int mtwos, .int mgone, .ref (n 16), .ref (n 17), .int mroundNow, .ref (n 18), .long msampleFor, .long msampleAll, .ref (n 19), .int maskWorst, .long moftenAll, .long moftenView, .long moftenOnes, .ref (n 20), .ref (n 21), .ref (n 22), .ref (n 23)])), ((n 1), .inl (k 0, 99, .inl fworld)), ((n 7), .inl (k 0, 12, .inl frowOf)), ((n 8), .inl (k 0, 12, .inl fplaceOf)), ((n 9), .inl (k 0, 4, .inl ffirstOf))] (Qi (fun r : Int32 => True)) := by
  refine RO.of (by decide) (Nat.le_of_ble_eq_true rfl) ?_
  intro p e s m below meth c ls A B args Q S hr hlk hQ hK hP hDW hZ hAB hBA hA hS hl
  have hx := S.1
  have hb := S.2.1
  have hl : lv_has ls 2 [(0, .ref (n 0)), (1, .int (nI p0))] := hl
  have hbfworld := okW_bd hkworld
  refine lv_aload_n hx hb dX11_across_0 rfl (lv_at hl 0 rfl) ?_
  refine lv_aload_n hx hb dX11_across_1 rfl (lv_at hl 0 rfl) ?_
  refine x_get S hK hP 0 rfl cfX11 15 lkX11_34 (by decide) rfl dX11_across_2 ?_
  refine lv_iload_n hx hb dX11_across_5 rfl (lv_at hl 1 rfl) ?_
  refine x_iald S hK hP 2 rfl (vp_in_nI (by omega) (by decide)) dX11_across_6 ?_
  refine lv_topi (fun v_1 ev_1 => ?_)
  refine lv_iconst (v := 1) hx hb dX11_across_7 (by decide) ?_
  refine lv_isub hx hb dX11_across_8 ?_
  refine lv_topi (fun v_2 ev_2 => ?_)
  refine lv_aload_n hx hb dX11_across_9 rfl (lv_at hl 0 rfl) ?_
  refine x_get S hK hP 0 rfl cfX11 16 lkX11_37 (by decide) rfl dX11_across_10 ?_
  refine lv_iload_n hx hb dX11_across_13 rfl (lv_at hl 1 rfl) ?_
  refine x_iald S hK hP 3 rfl (vp_in_nI (by omega) (by decide)) dX11_across_14 ?_
  refine lv_topi (fun v_3 ev_3 => ?_)
  refine x_roVi (As := [.int v_2, .int v_3]) S hK hP hDW hZ hAB hBA hS hA hl mwX11_headAt lkX11_231 (ctX11_headAt l D k z n mthrown mtaped msize mat mfrom mtoken mvalue mfaultKind mfaultPlace mmoreMany mlawNow mwetSet moverAll mones mtwos mgone mroundNow msampleFor msampleAll maskWorst moftenAll moftenView moftenOnes fworld ffirstOf v_2 v_3 (by omega) (by omega) (by omega) (by omega) (by omega) (hkworld)) [0, 1, 4] rfl (by decide) rfl rfl rfl rfl rfl ⟨Nat.le_of_ble_eq_true rfl, Nat.le_of_ble_eq_true rfl, Nat.le_of_ble_eq_true rfl⟩ dX11_across_15 ⟨Nat.le_of_ble_eq_true rfl, Nat.le_of_ble_eq_true rfl⟩ (fun r_4 H locs hr_4 hP hS => ?_)
  refine x_roSi (As := [.int r_4]) S hK hP hDW hZ hAB hBA hS hA hl mwX11_oneOf lkX11_234 (ctX11_oneOf l D k z r_4 ) [] rfl (by decide) rfl rfl ⟨Nat.le_of_ble_eq_true rfl, Nat.le_of_ble_eq_true rfl, Nat.le_of_ble_eq_true rfl⟩ dX11_across_18 ⟨Nat.le_of_ble_eq_true rfl, Nat.le_of_ble_eq_true rfl⟩ (fun r_6 H locs hr_6 hP hS => ?_)
  refine lv_aload_n hx hb dX11_across_21 rfl (lv_at hl 0 rfl) ?_
  refine lv_aload_n hx hb dX11_across_22 rfl (lv_at hl 0 rfl) ?_
  refine x_get S hK hP 0 rfl cfX11 15 lkX11_34 (by decide) rfl dX11_across_23 ?_
  refine lv_iload_n hx hb dX11_across_26 rfl (lv_at hl 1 rfl) ?_
  refine x_iald S hK hP 2 rfl (vp_in_nI (by omega) (by decide)) dX11_across_27 ?_
  refine lv_topi (fun v_8 ev_8 => ?_)
  refine lv_iconst (v := 1) hx hb dX11_across_28 (by decide) ?_
  refine lv_iadd hx hb dX11_across_29 ?_
  refine lv_topi (fun v_9 ev_9 => ?_)
  refine lv_aload_n hx hb dX11_across_30 rfl (lv_at hl 0 rfl) ?_
  refine x_get S hK hP 0 rfl cfX11 16 lkX11_37 (by decide) rfl dX11_across_31 ?_
  refine lv_iload_n hx hb dX11_across_34 rfl (lv_at hl 1 rfl) ?_
  refine x_iald S hK hP 3 rfl (vp_in_nI (by omega) (by decide)) dX11_across_35 ?_
  refine lv_topi (fun v_10 ev_10 => ?_)
  refine x_roVi (As := [.int v_9, .int v_10]) S hK hP hDW hZ hAB hBA hS hA hl mwX11_headAt lkX11_231 (ctX11_headAt l D k z n mthrown mtaped msize mat mfrom mtoken mvalue mfaultKind mfaultPlace mmoreMany mlawNow mwetSet moverAll mones mtwos mgone mroundNow msampleFor msampleAll maskWorst moftenAll moftenView moftenOnes fworld ffirstOf v_9 v_10 (by omega) (by omega) (by omega) (by omega) (by omega) (hkworld)) [0, 1, 4] rfl (by decide) rfl rfl rfl rfl rfl ⟨Nat.le_of_ble_eq_true rfl, Nat.le_of_ble_eq_true rfl, Nat.le_of_ble_eq_true rfl⟩ dX11_across_36 ⟨Nat.le_of_ble_eq_true rfl, Nat.le_of_ble_eq_true rfl⟩ (fun r_11 H locs hr_11 hP hS => ?_)
  refine x_roSi (As := [.int r_11]) S hK hP hDW hZ hAB hBA hS hA hl mwX11_oneOf lkX11_234 (ctX11_oneOf l D k z r_11 ) [] rfl (by decide) rfl rfl ⟨Nat.le_of_ble_eq_true rfl, Nat.le_of_ble_eq_true rfl, Nat.le_of_ble_eq_true rfl⟩ dX11_across_39 ⟨Nat.le_of_ble_eq_true rfl, Nat.le_of_ble_eq_true rfl⟩ (fun r_13 H locs hr_13 hP hS => ?_)
  refine lv_ior hx hb dX11_across_42 ?_
  refine lv_topi (fun v_15 ev_15 => ?_)
  exact x_reti S hr hlk hQ hS () trivial x_T dX11_across_43

set_option maxHeartbeats 4000000 in
set_option maxRecDepth 100000 in
theorem ctX11_rowSet (l : Launch) (D : va_G) (k : Nat → ClassId) (z : Nat → Nat) (n : Nat → Nat) (mthrown : Int32) (mtaped : Nat) (msize : Nat) (mat : Nat) (mfrom : Nat) (mtoken : Int32) (mvalue : Int32) (mfaultKind : Int32) (mfaultPlace : Int32) (mmoreMany : Nat) (mlawNow : Int32) (mwetSet : Int32) (moverAll : Int32) (mones : Int32) (mtwos : Int32) (mgone : Int32) (mroundNow : Int32) (msampleFor : Int64) (msampleAll : Int64) (maskWorst : Int32) (moftenAll : Int64) (moftenView : Int64) (moftenOnes : Int64) (fworld : Nat → Int32) (ffirstOf : Nat → Int32) (p0 : Nat) (hmtaped : mtaped ≤ 600) (hmsize : msize ≤ 600) (hmat : mat ≤ 600) (hmfrom : mfrom ≤ 600) (hmmoreMany : mmoreMany ≤ 14) (hkworld : okW fworld) (hp0 : p0 ≤ 3) : RO l yX11_rowSet cX11_rowSet 2 (some .int) 0 D k z [.ref (n 0), .int (nI p0)] [((n 0), .inr (11, [.int mthrown, .ref (n 1), .ref (n 2), .ref (n 3), .ref (n 4), .int (nI mtaped), .ref (n 5), .int (nI msize), .int (nI mat), .int (nI mfrom), .int mtoken, .int mvalue, .int mfaultKind, .int mfaultPlace, .ref (n 6), .ref (n 7), .ref (n 8), .ref (n 9), .ref (n 10), .ref (n 11), .ref (n 12), .int (nI mmoreMany), .int mlawNow, .int mwetSet, .int moverAll, .ref (n 13), .ref (n 14), .ref (n 15), .int mones, .int mtwos, .int mgone, .ref (n 16), .ref (n 17), .int mroundNow, .ref (n 18), .long msampleFor, .long msampleAll, .ref (n 19), .int maskWorst, .long moftenAll, .long moftenView, .long moftenOnes, .ref (n 20), .ref (n 21), .ref (n 22), .ref (n 23)])), ((n 1), .inl (k 0, 99, .inl fworld)), ((n 9), .inl (k 0, 4, .inl ffirstOf))] (Qi (fun r : Int32 => True)) := by
  refine RO.of (by decide) (Nat.le_of_ble_eq_true rfl) ?_
  intro p e s m below meth c ls A B args Q S hr hlk hQ hK hP hDW hZ hAB hBA hA hS hl
  have hx := S.1
  have hb := S.2.1
  have hl : lv_has ls 2 [(0, .ref (n 0)), (1, .int (nI p0))] := hl
  have hbfworld := okW_bd hkworld
  refine lv_iconst (v := 1) hx hb dX11_rowSet_0 (by decide) ?_
  refine lv_aload_n hx hb dX11_rowSet_1 rfl (lv_at hl 0 rfl) ?_
  refine x_get S hK hP 0 rfl cfX11 1 lkX11_9 (by decide) rfl dX11_rowSet_2 ?_
  refine lv_bipush (v := 9) hx hb dX11_rowSet_5 (by decide) ?_
  refine lv_iload_n hx hb dX11_rowSet_7 rfl (lv_at hl 1 rfl) ?_
  refine lv_iadd hx hb dX11_rowSet_8 ?_
  refine x_is (nI (9 + p0)) (ni_add (by decide) rfl) ?_
  refine x_iald S hK hP 1 rfl (vp_in_nI (by omega) (by decide)) dX11_rowSet_9 ?_
  refine x_is (nI (wn fworld (9 + p0))) ((cl_at (f := fworld) (a := 9 + p0) rfl (by omega)).trans (okW_at hkworld (i := 9 + p0) (by omega))) ?_
  have hrw := okW_row hkworld (j := p0) (by omega)
  refine lv_ishl hx hb dX11_rowSet_10 ?_
  refine lv_topi (fun v_1 ev_1 => ?_)
  refine lv_iconst (v := 1) hx hb dX11_rowSet_11 (by decide) ?_
  refine lv_isub hx hb dX11_rowSet_12 ?_
  refine lv_topi (fun v_2 ev_2 => ?_)
  refine lv_aload_n hx hb dX11_rowSet_13 rfl (lv_at hl 0 rfl) ?_
  refine x_get S hK hP 0 rfl cfX11 17 lkX11_40 (by decide) rfl dX11_rowSet_14 ?_
  refine lv_iload_n hx hb dX11_rowSet_17 rfl (lv_at hl 1 rfl) ?_
  refine x_iald S hK hP 2 rfl (vp_in_nI (by omega) (by decide)) dX11_rowSet_18 ?_
  refine lv_topi (fun v_3 ev_3 => ?_)
  refine lv_ishl hx hb dX11_rowSet_19 ?_
  refine lv_topi (fun v_4 ev_4 => ?_)
  exact x_reti S hr hlk hQ hS () trivial x_T dX11_rowSet_20

set_option maxHeartbeats 4000000 in
set_option maxRecDepth 100000 in
theorem ctX11_asItIs (l : Launch) (D : va_G) (k : Nat → ClassId) (z : Nat → Nat) (n : Nat → Nat) (mthrown : Int32) (mtaped : Nat) (msize : Nat) (mat : Nat) (mfrom : Nat) (mtoken : Int32) (mvalue : Int32) (mfaultKind : Int32) (mfaultPlace : Int32) (mmoreMany : Nat) (mlawNow : Int32) (mwetSet : Int32) (moverAll : Int32) (mones : Int32) (mtwos : Int32) (mgone : Int32) (mroundNow : Int32) (msampleFor : Int64) (msampleAll : Int64) (maskWorst : Int32) (moftenAll : Int64) (moftenView : Int64) (moftenOnes : Int64) (fworld : Nat → Int32) (frowOf : Nat → Int32) (fplaceOf : Nat → Int32) (ffirstOf : Nat → Int32) (fhardNow : Nat → Int32) (hmtaped : mtaped ≤ 600) (hmsize : msize ≤ 600) (hmat : mat ≤ 600) (hmfrom : mfrom ≤ 600) (hmmoreMany : mmoreMany ≤ 14) (hkworld : okW fworld) : MU l yX11_asItIs cX11_asItIs 2 none 1 D k z [.ref (n 0)] [((n 0), .inr (11, [.int mthrown, .ref (n 1), .ref (n 2), .ref (n 3), .ref (n 4), .int (nI mtaped), .ref (n 5), .int (nI msize), .int (nI mat), .int (nI mfrom), .int mtoken, .int mvalue, .int mfaultKind, .int mfaultPlace, .ref (n 6), .ref (n 7), .ref (n 8), .ref (n 9), .ref (n 10), .ref (n 11), .ref (n 12), .int (nI mmoreMany), .int mlawNow, .int mwetSet, .int moverAll, .ref (n 13), .ref (n 14), .ref (n 15), .int mones, .int mtwos, .int mgone, .ref (n 16), .ref (n 17), .int mroundNow, .ref (n 18), .long msampleFor, .long msampleAll, .ref (n 19), .int maskWorst, .long moftenAll, .long moftenView, .long moftenOnes, .ref (n 20), .ref (n 21), .ref (n 22), .ref (n 23)])), ((n 1), .inl (k 0, 99, .inl fworld)), ((n 7), .inl (k 0, 12, .inl frowOf)), ((n 8), .inl (k 0, 12, .inl fplaceOf)), ((n 9), .inl (k 0, 4, .inl ffirstOf)), ((n 10), .inl (k 0, 12, .inl fhardNow))] 0 0 (Uv D (fun u : (Nat → Int32) × (Nat → Nat) × (Nat → Nat → Int32) × (Nat → Nat → Int64) × (Nat → Int64) => (u.2.1 0 ≤ 14)) (fun u : (Nat → Int32) × (Nat → Nat) × (Nat → Nat → Int32) × (Nat → Nat → Int64) × (Nat → Int64) => [((n 0), .inr (11, [.int mthrown, .ref (n 1), .ref (n 2), .ref (n 3), .ref (n 4), .int (nI mtaped), .ref (n 5), .int (nI msize), .int (nI mat), .int (nI mfrom), .int mtoken, .int mvalue, .int mfaultKind, .int mfaultPlace, .ref (n 6), .ref (n 7), .ref (n 8), .ref (n 9), .ref (n 10), .ref (n 11), .ref (n 12), .int (nI (u.2.1 0)), .int (u.1 0), .int (u.1 1), .int (u.1 2), .ref (n 13), .ref (n 14), .ref (n 15), .int mones, .int mtwos, .int mgone, .ref (n 16), .ref (n 17), .int mroundNow, .ref (n 18), .long msampleFor, .long msampleAll, .ref (n 19), .int maskWorst, .long moftenAll, .long moftenView, .long moftenOnes, .ref (n 20), .ref (n 21), .ref (n 22), .ref (n 23)])), ((n 1), .inl (k 0, 99, .inl fworld)), ((n 7), .inl (k 0, 12, .inl (u.2.2.1 1))), ((n 8), .inl (k 0, 12, .inl (u.2.2.1 2))), ((n 9), .inl (k 0, 4, .inl (u.2.2.1 3))), ((n 10), .inl (k 0, 12, .inl (u.2.2.1 0)))])) := by
  refine MU.of (by decide) (Nat.le_of_ble_eq_true rfl) ?_
  intro p e s m below meth c ls A args Q S hr hlk hnm hQ hK hP hD hZ hA hS hl
  have hx := S.1
  have hb := S.2.1
  have hl : lv_has ls 2 [(0, .ref (n 0))] := hl
  have hbfworld := okW_bd hkworld
  refine lv_aload_n hx hb dX11_asItIs_0 rfl (lv_at hl 0 rfl) ?_
  refine x_muVv (wr := [((n 10), .inl (k 0, 12, .inl fhardNow))]) (As := []) S hK hP hD hZ hS hA hl mwX11_layRows lkX11_243 (ctX11_layRows l D k z n mthrown mtaped msize mat mfrom mtoken mvalue mfaultKind mfaultPlace mmoreMany mlawNow mwetSet moverAll mones mtwos mgone mroundNow msampleFor msampleAll maskWorst moftenAll moftenView moftenOnes fworld frowOf fplaceOf ffirstOf (by omega) (by omega) (by omega) (by omega) (by omega) (hkworld)) [0, 1, 2, 3, 4] [5] rfl rfl (by decide) (by decide) (by decide) rfl rfl rfl rfl rfl ⟨Nat.le_of_ble_eq_true rfl, Nat.le_of_ble_eq_true rfl, Nat.le_of_ble_eq_true rfl⟩ dX11_asItIs_1 ⟨Nat.le_of_ble_eq_true rfl, Nat.le_of_ble_eq_true rfl⟩ (fun u_2 H locs hr_1 hP hD hS => ?_)
  have hP : va_P D vwCl [((n 0), .inr (11, [.int mthrown, .ref (n 1), .ref (n 2), .ref (n 3), .ref (n 4), .int (nI mtaped), .ref (n 5), .int (nI msize), .int (nI mat), .int (nI mfrom), .int mtoken, .int mvalue, .int mfaultKind, .int mfaultPlace, .ref (n 6), .ref (n 7), .ref (n 8), .ref (n 9), .ref (n 10), .ref (n 11), .ref (n 12), .int (nI mmoreMany), .int mlawNow, .int mwetSet, .int moverAll, .ref (n 13), .ref (n 14), .ref (n 15), .int mones, .int mtwos, .int mgone, .ref (n 16), .ref (n 17), .int mroundNow, .ref (n 18), .long msampleFor, .long msampleAll, .ref (n 19), .int maskWorst, .long moftenAll, .long moftenView, .long moftenOnes, .ref (n 20), .ref (n 21), .ref (n 22), .ref (n 23)])), ((n 1), .inl (k 0, 99, .inl fworld)), ((n 7), .inl (k 0, 12, .inl (u_2.2.2.1 0))), ((n 8), .inl (k 0, 12, .inl (u_2.2.2.1 1))), ((n 9), .inl (k 0, 4, .inl (u_2.2.2.1 2))), ((n 10), .inl (k 0, 12, .inl fhardNow))] H := hP.sub [1, 2, 3, 4, 5, 0] rfl
  have hD : va_D A [((n 0), .inr (11, [.int mthrown, .ref (n 1), .ref (n 2), .ref (n 3), .ref (n 4), .int (nI mtaped), .ref (n 5), .int (nI msize), .int (nI mat), .int (nI mfrom), .int mtoken, .int mvalue, .int mfaultKind, .int mfaultPlace, .ref (n 6), .ref (n 7), .ref (n 8), .ref (n 9), .ref (n 10), .ref (n 11), .ref (n 12), .int (nI mmoreMany), .int mlawNow, .int mwetSet, .int moverAll, .ref (n 13), .ref (n 14), .ref (n 15), .int mones, .int mtwos, .int mgone, .ref (n 16), .ref (n 17), .int mroundNow, .ref (n 18), .long msampleFor, .long msampleAll, .ref (n 19), .int maskWorst, .long moftenAll, .long moftenView, .long moftenOnes, .ref (n 20), .ref (n 21), .ref (n 22), .ref (n 23)])), ((n 1), .inl (k 0, 99, .inl fworld)), ((n 7), .inl (k 0, 12, .inl (u_2.2.2.1 0))), ((n 8), .inl (k 0, 12, .inl (u_2.2.2.1 1))), ((n 9), .inl (k 0, 4, .inl (u_2.2.2.1 2))), ((n 10), .inl (k 0, 12, .inl fhardNow))] := hD.sub [1, 2, 3, 4, 5, 0] (by decide) rfl
  refine lv_aload_n hx hb dX11_asItIs_4 rfl (lv_at hl 0 rfl) ?_
  refine lv_aload_n hx hb dX11_asItIs_5 rfl (lv_at hl 0 rfl) ?_
  refine x_get S hK hP 0 rfl cfX11 1 lkX11_9 (by decide) rfl dX11_asItIs_6 ?_
  refine lv_iconst (v := 1) hx hb dX11_asItIs_9 (by decide) ?_
  refine x_iald S hK hP 1 rfl (vp_lit (by decide)) dX11_asItIs_10 ?_
  refine lv_topi (fun v_3 ev_3 => ?_)
  refine x_put (ws' := [((n 0), .inr (11, [.int mthrown, .ref (n 1), .ref (n 2), .ref (n 3), .ref (n 4), .int (nI mtaped), .ref (n 5), .int (nI msize), .int (nI mat), .int (nI mfrom), .int mtoken, .int mvalue, .int mfaultKind, .int mfaultPlace, .ref (n 6), .ref (n 7), .ref (n 8), .ref (n 9), .ref (n 10), .ref (n 11), .ref (n 12), .int (nI mmoreMany), .int v_3, .int mwetSet, .int moverAll, .ref (n 13), .ref (n 14), .ref (n 15), .int mones, .int mtwos, .int mgone, .ref (n 16), .ref (n 17), .int mroundNow, .ref (n 18), .long msampleFor, .long msampleAll, .ref (n 19), .int maskWorst, .long moftenAll, .long moftenView, .long moftenOnes, .ref (n 20), .ref (n 21), .ref (n 22), .ref (n 23)])), ((n 1), .inl (k 0, 99, .inl fworld)), ((n 7), .inl (k 0, 12, .inl (u_2.2.2.1 0))), ((n 8), .inl (k 0, 12, .inl (u_2.2.2.1 1))), ((n 9), .inl (k 0, 4, .inl (u_2.2.2.1 2))), ((n 10), .inl (k 0, 12, .inl fhardNow))]) S hK hP hD hS 0 rfl cfX11 22 lkX11_261 (by decide) rfl rfl rfl (Nat.le_of_ble_eq_true rfl) rfl dX11_asItIs_11 (fun H locs hP hD hS => ?_)
  refine lv_aload_n hx hb dX11_asItIs_14 rfl (lv_at hl 0 rfl) ?_
  refine lv_iconst (v := 0) hx hb dX11_asItIs_15 (by decide) ?_
  refine x_put (ws' := [((n 0), .inr (11, [.int mthrown, .ref (n 1), .ref (n 2), .ref (n 3), .ref (n 4), .int (nI mtaped), .ref (n 5), .int (nI msize), .int (nI mat), .int (nI mfrom), .int mtoken, .int mvalue, .int mfaultKind, .int mfaultPlace, .ref (n 6), .ref (n 7), .ref (n 8), .ref (n 9), .ref (n 10), .ref (n 11), .ref (n 12), .int (nI mmoreMany), .int v_3, .int 0, .int moverAll, .ref (n 13), .ref (n 14), .ref (n 15), .int mones, .int mtwos, .int mgone, .ref (n 16), .ref (n 17), .int mroundNow, .ref (n 18), .long msampleFor, .long msampleAll, .ref (n 19), .int maskWorst, .long moftenAll, .long moftenView, .long moftenOnes, .ref (n 20), .ref (n 21), .ref (n 22), .ref (n 23)])), ((n 1), .inl (k 0, 99, .inl fworld)), ((n 7), .inl (k 0, 12, .inl (u_2.2.2.1 0))), ((n 8), .inl (k 0, 12, .inl (u_2.2.2.1 1))), ((n 9), .inl (k 0, 4, .inl (u_2.2.2.1 2))), ((n 10), .inl (k 0, 12, .inl fhardNow))]) S hK hP hD hS 0 rfl cfX11 23 lkX11_264 (by decide) rfl rfl rfl (Nat.le_of_ble_eq_true rfl) rfl dX11_asItIs_16 (fun H locs hP hD hS => ?_)
  refine lv_aload_n hx hb dX11_asItIs_19 rfl (lv_at hl 0 rfl) ?_
  refine lv_iconst (v := 0) hx hb dX11_asItIs_20 (by decide) ?_
  refine x_put (ws' := [((n 0), .inr (11, [.int mthrown, .ref (n 1), .ref (n 2), .ref (n 3), .ref (n 4), .int (nI mtaped), .ref (n 5), .int (nI msize), .int (nI mat), .int (nI mfrom), .int mtoken, .int mvalue, .int mfaultKind, .int mfaultPlace, .ref (n 6), .ref (n 7), .ref (n 8), .ref (n 9), .ref (n 10), .ref (n 11), .ref (n 12), .int 0, .int v_3, .int 0, .int moverAll, .ref (n 13), .ref (n 14), .ref (n 15), .int mones, .int mtwos, .int mgone, .ref (n 16), .ref (n 17), .int mroundNow, .ref (n 18), .long msampleFor, .long msampleAll, .ref (n 19), .int maskWorst, .long moftenAll, .long moftenView, .long moftenOnes, .ref (n 20), .ref (n 21), .ref (n 22), .ref (n 23)])), ((n 1), .inl (k 0, 99, .inl fworld)), ((n 7), .inl (k 0, 12, .inl (u_2.2.2.1 0))), ((n 8), .inl (k 0, 12, .inl (u_2.2.2.1 1))), ((n 9), .inl (k 0, 4, .inl (u_2.2.2.1 2))), ((n 10), .inl (k 0, 12, .inl fhardNow))]) S hK hP hD hS 0 rfl cfX11 21 lkX11_267 (by decide) rfl rfl rfl (Nat.le_of_ble_eq_true rfl) rfl dX11_asItIs_21 (fun H locs hP hD hS => ?_)
  refine lv_aload_n hx hb dX11_asItIs_24 rfl (lv_at hl 0 rfl) ?_
  refine lv_iconst (v := 0) hx hb dX11_asItIs_25 (by decide) ?_
  refine x_put (ws' := [((n 0), .inr (11, [.int mthrown, .ref (n 1), .ref (n 2), .ref (n 3), .ref (n 4), .int (nI mtaped), .ref (n 5), .int (nI msize), .int (nI mat), .int (nI mfrom), .int mtoken, .int mvalue, .int mfaultKind, .int mfaultPlace, .ref (n 6), .ref (n 7), .ref (n 8), .ref (n 9), .ref (n 10), .ref (n 11), .ref (n 12), .int 0, .int v_3, .int 0, .int 0, .ref (n 13), .ref (n 14), .ref (n 15), .int mones, .int mtwos, .int mgone, .ref (n 16), .ref (n 17), .int mroundNow, .ref (n 18), .long msampleFor, .long msampleAll, .ref (n 19), .int maskWorst, .long moftenAll, .long moftenView, .long moftenOnes, .ref (n 20), .ref (n 21), .ref (n 22), .ref (n 23)])), ((n 1), .inl (k 0, 99, .inl fworld)), ((n 7), .inl (k 0, 12, .inl (u_2.2.2.1 0))), ((n 8), .inl (k 0, 12, .inl (u_2.2.2.1 1))), ((n 9), .inl (k 0, 4, .inl (u_2.2.2.1 2))), ((n 10), .inl (k 0, 12, .inl fhardNow))]) S hK hP hD hS 0 rfl cfX11 24 lkX11_270 (by decide) rfl rfl rfl (Nat.le_of_ble_eq_true rfl) rfl dX11_asItIs_26 (fun H locs hP hD hS => ?_)
  refine lv_iconst (v := 0) hx hb dX11_asItIs_29 (by decide) ?_
  refine lv_istore_n (lv' := [(1, .int 0), (0, .ref (n 0))]) hx hb dX11_asItIs_30 rfl hl (by decide) rfl (fun ls hl => ?_)
  have lp_18 : ∀ (nn j_16 : Nat) (g_17 : Nat → Int32) (H : Heap) (locs : List Loc) (ls : Array Slot), j_16 ≤ 12 → 12 - j_16 < nn → va_P D vwCl [((n 0), .inr (11, [.int mthrown, .ref (n 1), .ref (n 2), .ref (n 3), .ref (n 4), .int (nI mtaped), .ref (n 5), .int (nI msize), .int (nI mat), .int (nI mfrom), .int mtoken, .int mvalue, .int mfaultKind, .int mfaultPlace, .ref (n 6), .ref (n 7), .ref (n 8), .ref (n 9), .ref (n 10), .ref (n 11), .ref (n 12), .int 0, .int v_3, .int 0, .int 0, .ref (n 13), .ref (n 14), .ref (n 15), .int mones, .int mtwos, .int mgone, .ref (n 16), .ref (n 17), .int mroundNow, .ref (n 18), .long msampleFor, .long msampleAll, .ref (n 19), .int maskWorst, .long moftenAll, .long moftenView, .long moftenOnes, .ref (n 20), .ref (n 21), .ref (n 22), .ref (n 23)])), ((n 1), .inl (k 0, 99, .inl fworld)), ((n 7), .inl (k 0, 12, .inl (u_2.2.2.1 0))), ((n 8), .inl (k 0, 12, .inl (u_2.2.2.1 1))), ((n 9), .inl (k 0, 4, .inl (u_2.2.2.1 2))), ((n 10), .inl (k 0, 12, .inl g_17))] H → va_D A [((n 0), .inr (11, [.int mthrown, .ref (n 1), .ref (n 2), .ref (n 3), .ref (n 4), .int (nI mtaped), .ref (n 5), .int (nI msize), .int (nI mat), .int (nI mfrom), .int mtoken, .int mvalue, .int mfaultKind, .int mfaultPlace, .ref (n 6), .ref (n 7), .ref (n 8), .ref (n 9), .ref (n 10), .ref (n 11), .ref (n 12), .int 0, .int v_3, .int 0, .int 0, .ref (n 13), .ref (n 14), .ref (n 15), .int mones, .int mtwos, .int mgone, .ref (n 16), .ref (n 17), .int mroundNow, .ref (n 18), .long msampleFor, .long msampleAll, .ref (n 19), .int maskWorst, .long moftenAll, .long moftenView, .long moftenOnes, .ref (n 20), .ref (n 21), .ref (n 22), .ref (n 23)])), ((n 1), .inl (k 0, 99, .inl fworld)), ((n 7), .inl (k 0, 12, .inl (u_2.2.2.1 0))), ((n 8), .inl (k 0, 12, .inl (u_2.2.2.1 1))), ((n 9), .inl (k 0, 4, .inl (u_2.2.2.1 2))), ((n 10), .inl (k 0, 12, .inl g_17))] → va_S A s.heap H locs → lv_has ls 2 [(1, .int (nI j_16)), (0, .ref (n 0))] → W p l e (Rm 1 0 0) s m args below meth c H locs 0 0 Q (F0 m 31 ls []) := by
    intro nn
    induction nn with
    | zero => intro j_16 g_17 H locs ls hjj_16 hnj_16; exact absurd hnj_16 (by omega)
    | succ nn ihj_16 =>
      intro j_16 g_17 H locs ls hjj_16 hnj_16 hP hD hS hl
      refine lv_iload_n hx hb dX11_asItIs_31 rfl (lv_at hl 0 rfl) ?_
      refine lv_bipush (v := 12) hx hb dX11_asItIs_32 (by decide) ?_
      refine lv_icmp_ge (tgt := 54) hx hb dX11_asItIs_34 (by decide) (fun c_19 => ?_) (fun c_19 => ?_)
      · skip
        have c_19 : 12 ≤ j_16 := (ni_le (by decide) rfl (by omega) (by omega)).mp c_19
        exact x_retv S hr hlk hQ hS ((fun i => ([v_3, 0, 0] : List (Int32)).getD i 0), (fun i => ([0] : List (Nat)).getD i 0), (fun i => ([g_17, (u_2.2.2.1 0), (u_2.2.2.1 1), (u_2.2.2.1 2)] : List (Nat → Int32)).getD i (fun _ => 0)), (fun i => ([] : List (Nat → Int64)).getD i (fun _ => 0)), (fun i => ([] : List (Int64)).getD i 0)) (show 0 ≤ 14 by omega) (x_B hP hD) dX11_asItIs_54
      · skip
        have c_19 : ¬ 12 ≤ j_16 := fun q => c_19 ((ni_le (by decide) rfl (by omega) (by omega)).mpr q)
        refine lv_aload_n hx hb dX11_asItIs_37 rfl (lv_at hl 1 rfl) ?_
        refine x_get S hK hP 0 rfl cfX11 18 lkX11_43 (by decide) rfl dX11_asItIs_38 ?_
        refine lv_iload_n hx hb dX11_asItIs_41 rfl (lv_at hl 0 rfl) ?_
        refine lv_aload_n hx hb dX11_asItIs_42 rfl (lv_at hl 1 rfl) ?_
        refine lv_iload_n hx hb dX11_asItIs_43 rfl (lv_at hl 0 rfl) ?_
        refine x_roVi (As := [.int (nI j_16)]) S hK hP hD hZ (fun _ h => h) hA hS hA hl mwX11_hardOf lkX11_246 (ctX11_hardOf l D k z n mthrown mtaped msize mat mfrom mtoken mvalue mfaultKind mfaultPlace 0 v_3 0 0 mones mtwos mgone mroundNow msampleFor msampleAll maskWorst moftenAll moftenView moftenOnes fworld j_16 (by omega) (by omega) (by omega) (by omega) (by omega) (hkworld) (by omega)) [0, 1] rfl (by decide) rfl rfl rfl rfl rfl ⟨Nat.le_of_ble_eq_true rfl, Nat.le_of_ble_eq_true rfl, Nat.le_of_ble_eq_true rfl⟩ dX11_asItIs_44 ⟨Nat.le_of_ble_eq_true rfl, Nat.le_of_ble_eq_true rfl⟩ (fun r_20 H locs hr_20 hP hS => ?_)
        refine x_iast (ws' := fun f_22 => [((n 0), .inr (11, [.int mthrown, .ref (n 1), .ref (n 2), .ref (n 3), .ref (n 4), .int (nI mtaped), .ref (n 5), .int (nI msize), .int (nI mat), .int (nI mfrom), .int mtoken, .int mvalue, .int mfaultKind, .int mfaultPlace, .ref (n 6), .ref (n 7), .ref (n 8), .ref (n 9), .ref (n 10), .ref (n 11), .ref (n 12), .int 0, .int v_3, .int 0, .int 0, .ref (n 13), .ref (n 14), .ref (n 15), .int mones, .int mtwos, .int mgone, .ref (n 16), .ref (n 17), .int mroundNow, .ref (n 18), .long msampleFor, .long msampleAll, .ref (n 19), .int maskWorst, .long moftenAll, .long moftenView, .long moftenOnes, .ref (n 20), .ref (n 21), .ref (n 22), .ref (n 23)])), ((n 1), .inl (k 0, 99, .inl fworld)), ((n 7), .inl (k 0, 12, .inl (u_2.2.2.1 0))), ((n 8), .inl (k 0, 12, .inl (u_2.2.2.1 1))), ((n 9), .inl (k 0, 4, .inl (u_2.2.2.1 2))), ((n 10), .inl (k 0, 12, .inl f_22))]) S hK hP hD hS 5 rfl (vp_in_nI (by omega) (by decide)) (fun _ => rfl) dX11_asItIs_47 (fun f_22 H locs ef_22 hP hD hS => ?_)
        refine lv_iinc (v := (nI (j_16 + 1))) (lv' := [(1, .int (nI (j_16 + 1))), (0, .ref (n 0))]) hx hb dX11_asItIs_48 hl (k := 0) rfl (ni_inc _) (by decide) rfl (fun ls hl => ?_)
        refine lv_goto (tgt := 31) hx hb dX11_asItIs_51 (by decide) ?_
        exact ihj_16 (j_16 + 1) f_22 _ _ _ (by omega) (by omega) hP hD hS (lv_sub hl [0, 1] rfl)
  exact lp_18 (12 + 1) 0 fhardNow _ _ _ (by omega) (by omega) hP hD hS (lv_sub hl [0, 1] rfl)

set_option maxHeartbeats 4000000 in
set_option maxRecDepth 100000 in
theorem ctX11_tellMore (l : Launch) (D : va_G) (k : Nat → ClassId) (z : Nat → Nat) (n : Nat → Nat) (mthrown : Int32) (mtaped : Nat) (msize : Nat) (mat : Nat) (mfrom : Nat) (mtoken : Int32) (mvalue : Int32) (mfaultKind : Int32) (mfaultPlace : Int32) (mmoreMany : Nat) (mlawNow : Int32) (mwetSet : Int32) (moverAll : Int32) (mones : Int32) (mtwos : Int32) (mgone : Int32) (mroundNow : Int32) (msampleFor : Int64) (msampleAll : Int64) (maskWorst : Int32) (moftenAll : Int64) (moftenView : Int64) (moftenOnes : Int64) (fmoreHead : Nat → Int32) (fmoreView : Nat → Int32) (p0 : Int32) (p1 : Int32) (hmtaped : mtaped ≤ 600) (hmsize : msize ≤ 600) (hmat : mat ≤ 600) (hmfrom : mfrom ≤ 600) (hmmoreMany : mmoreMany ≤ 14) (hm13 : mmoreMany ≤ 13) : MU l yX11_tellMore cX11_tellMore 3 none 0 D k z [.ref (n 0), .int p0, .int p1] [((n 0), .inr (11, [.int mthrown, .ref (n 1), .ref (n 2), .ref (n 3), .ref (n 4), .int (nI mtaped), .ref (n 5), .int (nI msize), .int (nI mat), .int (nI mfrom), .int mtoken, .int mvalue, .int mfaultKind, .int mfaultPlace, .ref (n 6), .ref (n 7), .ref (n 8), .ref (n 9), .ref (n 10), .ref (n 11), .ref (n 12), .int (nI mmoreMany), .int mlawNow, .int mwetSet, .int moverAll, .ref (n 13), .ref (n 14), .ref (n 15), .int mones, .int mtwos, .int mgone, .ref (n 16), .ref (n 17), .int mroundNow, .ref (n 18), .long msampleFor, .long msampleAll, .ref (n 19), .int maskWorst, .long moftenAll, .long moftenView, .long moftenOnes, .ref (n 20), .ref (n 21), .ref (n 22), .ref (n 23)])), ((n 11), .inl (k 0, 14, .inl fmoreHead)), ((n 12), .inl (k 0, 14, .inl fmoreView))] 0 0 (Uv D (fun u : (Nat → Int32) × (Nat → Nat) × (Nat → Nat → Int32) × (Nat → Nat → Int64) × (Nat → Int64) => (u.2.1 0 ≤ 14) ∧ ((u.2.1 0) = mmoreMany + 1)) (fun u : (Nat → Int32) × (Nat → Nat) × (Nat → Nat → Int32) × (Nat → Nat → Int64) × (Nat → Int64) => [((n 0), .inr (11, [.int mthrown, .ref (n 1), .ref (n 2), .ref (n 3), .ref (n 4), .int (nI mtaped), .ref (n 5), .int (nI msize), .int (nI mat), .int (nI mfrom), .int mtoken, .int mvalue, .int mfaultKind, .int mfaultPlace, .ref (n 6), .ref (n 7), .ref (n 8), .ref (n 9), .ref (n 10), .ref (n 11), .ref (n 12), .int (nI (u.2.1 0)), .int mlawNow, .int mwetSet, .int moverAll, .ref (n 13), .ref (n 14), .ref (n 15), .int mones, .int mtwos, .int mgone, .ref (n 16), .ref (n 17), .int mroundNow, .ref (n 18), .long msampleFor, .long msampleAll, .ref (n 19), .int maskWorst, .long moftenAll, .long moftenView, .long moftenOnes, .ref (n 20), .ref (n 21), .ref (n 22), .ref (n 23)])), ((n 11), .inl (k 0, 14, .inl (u.2.2.1 0))), ((n 12), .inl (k 0, 14, .inl (u.2.2.1 1)))])) := by
  refine MU.of (by decide) (Nat.le_of_ble_eq_true rfl) ?_
  intro p e s m below meth c ls A args Q S hr hlk hnm hQ hK hP hD hZ hA hS hl
  have hx := S.1
  have hb := S.2.1
  have hl : lv_has ls 3 [(0, .ref (n 0)), (1, .int p0), (2, .int p1)] := hl
  refine lv_aload_n hx hb dX11_tellMore_0 rfl (lv_at hl 0 rfl) ?_
  refine x_get S hK hP 0 rfl cfX11 19 lkX11_46 (by decide) rfl dX11_tellMore_1 ?_
  refine lv_aload_n hx hb dX11_tellMore_4 rfl (lv_at hl 0 rfl) ?_
  refine x_get S hK hP 0 rfl cfX11 21 lkX11_267 (by decide) rfl dX11_tellMore_5 ?_
  refine lv_iload_n hx hb dX11_tellMore_8 rfl (lv_at hl 1 rfl) ?_
  refine x_iast (ws' := fun f_1 => [((n 0), .inr (11, [.int mthrown, .ref (n 1), .ref (n 2), .ref (n 3), .ref (n 4), .int (nI mtaped), .ref (n 5), .int (nI msize), .int (nI mat), .int (nI mfrom), .int mtoken, .int mvalue, .int mfaultKind, .int mfaultPlace, .ref (n 6), .ref (n 7), .ref (n 8), .ref (n 9), .ref (n 10), .ref (n 11), .ref (n 12), .int (nI mmoreMany), .int mlawNow, .int mwetSet, .int moverAll, .ref (n 13), .ref (n 14), .ref (n 15), .int mones, .int mtwos, .int mgone, .ref (n 16), .ref (n 17), .int mroundNow, .ref (n 18), .long msampleFor, .long msampleAll, .ref (n 19), .int maskWorst, .long moftenAll, .long moftenView, .long moftenOnes, .ref (n 20), .ref (n 21), .ref (n 22), .ref (n 23)])), ((n 11), .inl (k 0, 14, .inl f_1)), ((n 12), .inl (k 0, 14, .inl fmoreView))]) S hK hP hD hS 1 rfl (vp_in_nI (by omega) (by decide)) (fun _ => rfl) dX11_tellMore_9 (fun f_1 H locs ef_1 hP hD hS => ?_)
  refine lv_aload_n hx hb dX11_tellMore_10 rfl (lv_at hl 0 rfl) ?_
  refine x_get S hK hP 0 rfl cfX11 20 lkX11_49 (by decide) rfl dX11_tellMore_11 ?_
  refine lv_aload_n hx hb dX11_tellMore_14 rfl (lv_at hl 0 rfl) ?_
  refine x_get S hK hP 0 rfl cfX11 21 lkX11_267 (by decide) rfl dX11_tellMore_15 ?_
  refine lv_iload_n hx hb dX11_tellMore_18 rfl (lv_at hl 2 rfl) ?_
  refine x_iast (ws' := fun f_2 => [((n 0), .inr (11, [.int mthrown, .ref (n 1), .ref (n 2), .ref (n 3), .ref (n 4), .int (nI mtaped), .ref (n 5), .int (nI msize), .int (nI mat), .int (nI mfrom), .int mtoken, .int mvalue, .int mfaultKind, .int mfaultPlace, .ref (n 6), .ref (n 7), .ref (n 8), .ref (n 9), .ref (n 10), .ref (n 11), .ref (n 12), .int (nI mmoreMany), .int mlawNow, .int mwetSet, .int moverAll, .ref (n 13), .ref (n 14), .ref (n 15), .int mones, .int mtwos, .int mgone, .ref (n 16), .ref (n 17), .int mroundNow, .ref (n 18), .long msampleFor, .long msampleAll, .ref (n 19), .int maskWorst, .long moftenAll, .long moftenView, .long moftenOnes, .ref (n 20), .ref (n 21), .ref (n 22), .ref (n 23)])), ((n 11), .inl (k 0, 14, .inl f_1)), ((n 12), .inl (k 0, 14, .inl f_2))]) S hK hP hD hS 2 rfl (vp_in_nI (by omega) (by decide)) (fun _ => rfl) dX11_tellMore_19 (fun f_2 H locs ef_2 hP hD hS => ?_)
  refine lv_aload_n hx hb dX11_tellMore_20 rfl (lv_at hl 0 rfl) ?_
  refine lv_dup hx hb dX11_tellMore_21 rfl ?_
  refine x_get S hK hP 0 rfl cfX11 21 lkX11_267 (by decide) rfl dX11_tellMore_22 ?_
  refine lv_iconst (v := 1) hx hb dX11_tellMore_25 (by decide) ?_
  refine lv_iadd hx hb dX11_tellMore_26 ?_
  refine x_is (nI (mmoreMany + 1)) (ni_add rfl (by decide)) ?_
  refine x_put (ws' := [((n 0), .inr (11, [.int mthrown, .ref (n 1), .ref (n 2), .ref (n 3), .ref (n 4), .int (nI mtaped), .ref (n 5), .int (nI msize), .int (nI mat), .int (nI mfrom), .int mtoken, .int mvalue, .int mfaultKind, .int mfaultPlace, .ref (n 6), .ref (n 7), .ref (n 8), .ref (n 9), .ref (n 10), .ref (n 11), .ref (n 12), .int (nI (mmoreMany + 1)), .int mlawNow, .int mwetSet, .int moverAll, .ref (n 13), .ref (n 14), .ref (n 15), .int mones, .int mtwos, .int mgone, .ref (n 16), .ref (n 17), .int mroundNow, .ref (n 18), .long msampleFor, .long msampleAll, .ref (n 19), .int maskWorst, .long moftenAll, .long moftenView, .long moftenOnes, .ref (n 20), .ref (n 21), .ref (n 22), .ref (n 23)])), ((n 11), .inl (k 0, 14, .inl f_1)), ((n 12), .inl (k 0, 14, .inl f_2))]) S hK hP hD hS 0 rfl cfX11 21 lkX11_267 (by decide) rfl rfl rfl (Nat.le_of_ble_eq_true rfl) rfl dX11_tellMore_27 (fun H locs hP hD hS => ?_)
  exact x_retv S hr hlk hQ hS ((fun i => ([] : List (Int32)).getD i 0), (fun i => ([mmoreMany + 1] : List (Nat)).getD i 0), (fun i => ([f_1, f_2] : List (Nat → Int32)).getD i (fun _ => 0)), (fun i => ([] : List (Nat → Int64)).getD i (fun _ => 0)), (fun i => ([] : List (Int64)).getD i 0)) ⟨(show mmoreMany + 1 ≤ 14 by omega), rfl⟩ (x_B hP hD) dX11_tellMore_30

set_option maxHeartbeats 4000000 in
set_option maxRecDepth 100000 in
theorem ctX11_tellSet (l : Launch) (D : va_G) (k : Nat → ClassId) (z : Nat → Nat) (n : Nat → Nat) (mthrown : Int32) (mtaped : Nat) (msize : Nat) (mat : Nat) (mfrom : Nat) (mtoken : Int32) (mvalue : Int32) (mfaultKind : Int32) (mfaultPlace : Int32) (mmoreMany : Nat) (mlawNow : Int32) (mwetSet : Int32) (moverAll : Int32) (mones : Int32) (mtwos : Int32) (mgone : Int32) (mroundNow : Int32) (msampleFor : Int64) (msampleAll : Int64) (maskWorst : Int32) (moftenAll : Int64) (moftenView : Int64) (moftenOnes : Int64) (fworld : Nat → Int32) (fmoreHead : Nat → Int32) (fmoreView : Nat → Int32) (p0 : Int32) (p1 : Int32) (hmtaped : mtaped ≤ 600) (hmsize : msize ≤ 600) (hmat : mat ≤ 600) (hmfrom : mfrom ≤ 600) (hmmoreMany : mmoreMany ≤ 14) (hkworld : okW fworld) : MU l yX11_tellSet cX11_tellSet 4 none 1 D k z [.ref (n 0), .int p0, .int p1] [((n 0), .inr (11, [.int mthrown, .ref (n 1), .ref (n 2), .ref (n 3), .ref (n 4), .int (nI mtaped), .ref (n 5), .int (nI msize), .int (nI mat), .int (nI mfrom), .int mtoken, .int mvalue, .int mfaultKind, .int mfaultPlace, .ref (n 6), .ref (n 7), .ref (n 8), .ref (n 9), .ref (n 10), .ref (n 11), .ref (n 12), .int (nI mmoreMany), .int mlawNow, .int mwetSet, .int moverAll, .ref (n 13), .ref (n 14), .ref (n 15), .int mones, .int mtwos, .int mgone, .ref (n 16), .ref (n 17), .int mroundNow, .ref (n 18), .long msampleFor, .long msampleAll, .ref (n 19), .int maskWorst, .long moftenAll, .long moftenView, .long moftenOnes, .ref (n 20), .ref (n 21), .ref (n 22), .ref (n 23)])), ((n 1), .inl (k 0, 99, .inl fworld)), ((n 11), .inl (k 0, 14, .inl fmoreHead)), ((n 12), .inl (k 0, 14, .inl fmoreView))] 0 0 (Uv D (fun u : (Nat → Int32) × (Nat → Nat) × (Nat → Nat → Int32) × (Nat → Nat → Int64) × (Nat → Int64) => (u.2.1 0 ≤ 14)) (fun u : (Nat → Int32) × (Nat → Nat) × (Nat → Nat → Int32) × (Nat → Nat → Int64) × (Nat → Int64) => [((n 0), .inr (11, [.int mthrown, .ref (n 1), .ref (n 2), .ref (n 3), .ref (n 4), .int (nI mtaped), .ref (n 5), .int (nI msize), .int (nI mat), .int (nI mfrom), .int mtoken, .int mvalue, .int mfaultKind, .int mfaultPlace, .ref (n 6), .ref (n 7), .ref (n 8), .ref (n 9), .ref (n 10), .ref (n 11), .ref (n 12), .int (nI (u.2.1 0)), .int mlawNow, .int mwetSet, .int moverAll, .ref (n 13), .ref (n 14), .ref (n 15), .int mones, .int mtwos, .int mgone, .ref (n 16), .ref (n 17), .int mroundNow, .ref (n 18), .long msampleFor, .long msampleAll, .ref (n 19), .int maskWorst, .long moftenAll, .long moftenView, .long moftenOnes, .ref (n 20), .ref (n 21), .ref (n 22), .ref (n 23)])), ((n 1), .inl (k 0, 99, .inl fworld)), ((n 11), .inl (k 0, 14, .inl (u.2.2.1 0))), ((n 12), .inl (k 0, 14, .inl (u.2.2.1 1)))])) := by
  refine MU.of (by decide) (Nat.le_of_ble_eq_true rfl) ?_
  intro p e s m below meth c ls A args Q S hr hlk hnm hQ hK hP hD hZ hA hS hl
  have hx := S.1
  have hb := S.2.1
  have hl : lv_has ls 4 [(0, .ref (n 0)), (1, .int p0), (2, .int p1)] := hl
  have hbfworld := okW_bd hkworld
  refine lv_aload_n hx hb dX11_tellSet_0 rfl (lv_at hl 0 rfl) ?_
  refine lv_iconst (v := 0) hx hb dX11_tellSet_1 (by decide) ?_
  refine x_put (ws' := [((n 0), .inr (11, [.int mthrown, .ref (n 1), .ref (n 2), .ref (n 3), .ref (n 4), .int (nI mtaped), .ref (n 5), .int (nI msize), .int (nI mat), .int (nI mfrom), .int mtoken, .int mvalue, .int mfaultKind, .int mfaultPlace, .ref (n 6), .ref (n 7), .ref (n 8), .ref (n 9), .ref (n 10), .ref (n 11), .ref (n 12), .int 0, .int mlawNow, .int mwetSet, .int moverAll, .ref (n 13), .ref (n 14), .ref (n 15), .int mones, .int mtwos, .int mgone, .ref (n 16), .ref (n 17), .int mroundNow, .ref (n 18), .long msampleFor, .long msampleAll, .ref (n 19), .int maskWorst, .long moftenAll, .long moftenView, .long moftenOnes, .ref (n 20), .ref (n 21), .ref (n 22), .ref (n 23)])), ((n 1), .inl (k 0, 99, .inl fworld)), ((n 11), .inl (k 0, 14, .inl fmoreHead)), ((n 12), .inl (k 0, 14, .inl fmoreView))]) S hK hP hD hS 0 rfl cfX11 21 lkX11_267 (by decide) rfl rfl rfl (Nat.le_of_ble_eq_true rfl) rfl dX11_tellSet_2 (fun H locs hP hD hS => ?_)
  refine lv_iconst (v := 0) hx hb dX11_tellSet_5 (by decide) ?_
  refine lv_istore_n (lv' := [(3, .int 0), (0, .ref (n 0)), (1, .int p0), (2, .int p1)]) hx hb dX11_tellSet_6 rfl hl (by decide) rfl (fun ls hl => ?_)
  have lp_33 : ∀ (nn j_29 : Nat) (m_30 : Nat) (g_31 : Nat → Int32) (g_32 : Nat → Int32) (H : Heap) (locs : List Loc) (ls : Array Slot), j_29 ≤ wn fworld 4 → wn fworld 4 - j_29 < nn → m_30 ≤ 14 → m_30 ≤ j_29 → va_P D vwCl [((n 0), .inr (11, [.int mthrown, .ref (n 1), .ref (n 2), .ref (n 3), .ref (n 4), .int (nI mtaped), .ref (n 5), .int (nI msize), .int (nI mat), .int (nI mfrom), .int mtoken, .int mvalue, .int mfaultKind, .int mfaultPlace, .ref (n 6), .ref (n 7), .ref (n 8), .ref (n 9), .ref (n 10), .ref (n 11), .ref (n 12), .int (nI m_30), .int mlawNow, .int mwetSet, .int moverAll, .ref (n 13), .ref (n 14), .ref (n 15), .int mones, .int mtwos, .int mgone, .ref (n 16), .ref (n 17), .int mroundNow, .ref (n 18), .long msampleFor, .long msampleAll, .ref (n 19), .int maskWorst, .long moftenAll, .long moftenView, .long moftenOnes, .ref (n 20), .ref (n 21), .ref (n 22), .ref (n 23)])), ((n 1), .inl (k 0, 99, .inl fworld)), ((n 11), .inl (k 0, 14, .inl g_31)), ((n 12), .inl (k 0, 14, .inl g_32))] H → va_D A [((n 0), .inr (11, [.int mthrown, .ref (n 1), .ref (n 2), .ref (n 3), .ref (n 4), .int (nI mtaped), .ref (n 5), .int (nI msize), .int (nI mat), .int (nI mfrom), .int mtoken, .int mvalue, .int mfaultKind, .int mfaultPlace, .ref (n 6), .ref (n 7), .ref (n 8), .ref (n 9), .ref (n 10), .ref (n 11), .ref (n 12), .int (nI m_30), .int mlawNow, .int mwetSet, .int moverAll, .ref (n 13), .ref (n 14), .ref (n 15), .int mones, .int mtwos, .int mgone, .ref (n 16), .ref (n 17), .int mroundNow, .ref (n 18), .long msampleFor, .long msampleAll, .ref (n 19), .int maskWorst, .long moftenAll, .long moftenView, .long moftenOnes, .ref (n 20), .ref (n 21), .ref (n 22), .ref (n 23)])), ((n 1), .inl (k 0, 99, .inl fworld)), ((n 11), .inl (k 0, 14, .inl g_31)), ((n 12), .inl (k 0, 14, .inl g_32))] → va_S A s.heap H locs → lv_has ls 4 [(3, .int (nI j_29)), (0, .ref (n 0)), (1, .int p0), (2, .int p1)] → W p l e (Rm 1 0 0) s m args below meth c H locs 0 0 Q (F0 m 7 ls []) := by
    intro nn
    induction nn with
    | zero => intro j_29 m_30 g_31 g_32 H locs ls hjj_29 hnj_29 hbm_30 hmmj_29; exact absurd hnj_29 (by omega)
    | succ nn ihj_29 =>
      intro j_29 m_30 g_31 g_32 H locs ls hjj_29 hnj_29 hbm_30 hmmj_29 hP hD hS hl
      refine lv_iload_n hx hb dX11_tellSet_7 rfl (lv_at hl 0 rfl) ?_
      refine lv_aload_n hx hb dX11_tellSet_8 rfl (lv_at hl 1 rfl) ?_
      refine x_roVi (As := []) S hK hP hD hZ (fun _ h => h) hA hS hA hl mwX11_headMany lkX11_95 (ctX11_headMany l D k z n mthrown mtaped msize mat mfrom mtoken mvalue mfaultKind mfaultPlace m_30 mlawNow mwetSet moverAll mones mtwos mgone mroundNow msampleFor msampleAll maskWorst moftenAll moftenView moftenOnes fworld (by omega) (by omega) (by omega) (by omega) (by omega) (hkworld)) [0, 1] rfl (by decide) rfl rfl rfl rfl rfl ⟨Nat.le_of_ble_eq_true rfl, Nat.le_of_ble_eq_true rfl, Nat.le_of_ble_eq_true rfl⟩ dX11_tellSet_9 ⟨Nat.le_of_ble_eq_true rfl, Nat.le_of_ble_eq_true rfl⟩ (fun r_34 H locs hr_34 hP hS => ?_)
      obtain rfl := hr_34
      refine lv_icmp_ge (tgt := 36) hx hb dX11_tellSet_12 (by decide) (fun c_36 => ?_) (fun c_36 => ?_)
      · skip
        have c_36 : wn fworld 4 ≤ j_29 := (ni_le rfl rfl (by omega) (by omega)).mp c_36
        exact x_retv S hr hlk hQ hS ((fun i => ([] : List (Int32)).getD i 0), (fun i => ([m_30] : List (Nat)).getD i 0), (fun i => ([g_31, g_32] : List (Nat → Int32)).getD i (fun _ => 0)), (fun i => ([] : List (Nat → Int64)).getD i (fun _ => 0)), (fun i => ([] : List (Int64)).getD i 0)) (show m_30 ≤ 14 by omega) (x_B hP hD) dX11_tellSet_36
      · skip
        have c_36 : ¬ wn fworld 4 ≤ j_29 := fun q => c_36 ((ni_le rfl rfl (by omega) (by omega)).mpr q)
        refine lv_iload_n hx hb dX11_tellSet_15 rfl (lv_at hl 2 rfl) ?_
        refine lv_iload_n hx hb dX11_tellSet_16 rfl (lv_at hl 0 rfl) ?_
        refine x_roSi (As := [.int p0, .int (nI j_29)]) S hK hP hD hZ (fun _ h => h) hA hS hA hl mwX11_bit lkX11_274 (ctX11_bit l D k z p0 (nI j_29) ) [] rfl (by decide) rfl rfl ⟨Nat.le_of_ble_eq_true rfl, Nat.le_of_ble_eq_true rfl, Nat.le_of_ble_eq_true rfl⟩ dX11_tellSet_17 ⟨Nat.le_of_ble_eq_true rfl, Nat.le_of_ble_eq_true rfl⟩ (fun r_37 H locs hr_37 hP hS => ?_)
        refine lv_iconst (v := 1) hx hb dX11_tellSet_20 (by decide) ?_
        refine lv_icmp_ne (tgt := 30) hx hb dX11_tellSet_21 (by decide) (fun c_39 => ?_) (fun c_39 => ?_)
        · skip
          refine lv_iinc (v := (nI (j_29 + 1))) (lv' := [(3, .int (nI (j_29 + 1))), (0, .ref (n 0)), (1, .int p0), (2, .int p1)]) hx hb dX11_tellSet_30 hl (k := 0) rfl (ni_inc _) (by decide) rfl (fun ls hl => ?_)
          refine lv_goto (tgt := 7) hx hb dX11_tellSet_33 (by decide) ?_
          exact ihj_29 (j_29 + 1) m_30 g_31 g_32 _ _ _ (by omega) (by omega) (by omega) (by omega) hP hD hS (lv_sub hl [0, 1, 2, 3] rfl)
        · skip
          refine lv_aload_n hx hb dX11_tellSet_24 rfl (lv_at hl 1 rfl) ?_
          refine lv_iload_n hx hb dX11_tellSet_25 rfl (lv_at hl 0 rfl) ?_
          refine lv_iload_n hx hb dX11_tellSet_26 rfl (lv_at hl 3 rfl) ?_
          refine x_muVv (wr := [((n 1), .inl (k 0, 99, .inl fworld))]) (As := [.int (nI j_29), .int p1]) S hK hP hD hZ hS hA hl mwX11_tellMore lkX11_277 (ctX11_tellMore l D k z n mthrown mtaped msize mat mfrom mtoken mvalue mfaultKind mfaultPlace m_30 mlawNow mwetSet moverAll mones mtwos mgone mroundNow msampleFor msampleAll maskWorst moftenAll moftenView moftenOnes g_31 g_32 (nI j_29) p1 (by omega) (by omega) (by omega) (by omega) (by omega) (by omega)) [0, 2, 3] [1] rfl rfl (by decide) (by decide) (by decide) rfl rfl rfl rfl rfl ⟨Nat.le_of_ble_eq_true rfl, Nat.le_of_ble_eq_true rfl, Nat.le_of_ble_eq_true rfl⟩ dX11_tellSet_27 ⟨Nat.le_of_ble_eq_true rfl, Nat.le_of_ble_eq_true rfl⟩ (fun u_41 H locs hr_40 hP hD hS => ?_)
          have hP : va_P D vwCl [((n 0), .inr (11, [.int mthrown, .ref (n 1), .ref (n 2), .ref (n 3), .ref (n 4), .int (nI mtaped), .ref (n 5), .int (nI msize), .int (nI mat), .int (nI mfrom), .int mtoken, .int mvalue, .int mfaultKind, .int mfaultPlace, .ref (n 6), .ref (n 7), .ref (n 8), .ref (n 9), .ref (n 10), .ref (n 11), .ref (n 12), .int (nI (u_41.2.1 0)), .int mlawNow, .int mwetSet, .int moverAll, .ref (n 13), .ref (n 14), .ref (n 15), .int mones, .int mtwos, .int mgone, .ref (n 16), .ref (n 17), .int mroundNow, .ref (n 18), .long msampleFor, .long msampleAll, .ref (n 19), .int maskWorst, .long moftenAll, .long moftenView, .long moftenOnes, .ref (n 20), .ref (n 21), .ref (n 22), .ref (n 23)])), ((n 1), .inl (k 0, 99, .inl fworld)), ((n 11), .inl (k 0, 14, .inl (u_41.2.2.1 0))), ((n 12), .inl (k 0, 14, .inl (u_41.2.2.1 1)))] H := hP.sub [1, 0, 2, 3] rfl
          have hD : va_D A [((n 0), .inr (11, [.int mthrown, .ref (n 1), .ref (n 2), .ref (n 3), .ref (n 4), .int (nI mtaped), .ref (n 5), .int (nI msize), .int (nI mat), .int (nI mfrom), .int mtoken, .int mvalue, .int mfaultKind, .int mfaultPlace, .ref (n 6), .ref (n 7), .ref (n 8), .ref (n 9), .ref (n 10), .ref (n 11), .ref (n 12), .int (nI (u_41.2.1 0)), .int mlawNow, .int mwetSet, .int moverAll, .ref (n 13), .ref (n 14), .ref (n 15), .int mones, .int mtwos, .int mgone, .ref (n 16), .ref (n 17), .int mroundNow, .ref (n 18), .long msampleFor, .long msampleAll, .ref (n 19), .int maskWorst, .long moftenAll, .long moftenView, .long moftenOnes, .ref (n 20), .ref (n 21), .ref (n 22), .ref (n 23)])), ((n 1), .inl (k 0, 99, .inl fworld)), ((n 11), .inl (k 0, 14, .inl (u_41.2.2.1 0))), ((n 12), .inl (k 0, 14, .inl (u_41.2.2.1 1)))] := hD.sub [1, 0, 2, 3] (by decide) rfl
          obtain ⟨hg_42, hg_43⟩ := hr_40
          refine lv_iinc (v := (nI (j_29 + 1))) (lv' := [(3, .int (nI (j_29 + 1))), (0, .ref (n 0)), (1, .int p0), (2, .int p1)]) hx hb dX11_tellSet_30 hl (k := 0) rfl (ni_inc _) (by decide) rfl (fun ls hl => ?_)
          refine lv_goto (tgt := 7) hx hb dX11_tellSet_33 (by decide) ?_
          exact ihj_29 (j_29 + 1) (u_41.2.1 0) (u_41.2.2.1 0) (u_41.2.2.1 1) _ _ _ (by omega) (by omega) (by omega) (by omega) hP hD hS (lv_sub hl [0, 1, 2, 3] rfl)
  exact lp_33 (wn fworld 4 + 1) 0 0 fmoreHead fmoreView _ _ _ (by omega) (by omega) (by omega) (by omega) hP hD hS (lv_sub hl [0, 1, 2, 3] rfl)

set_option maxHeartbeats 4000000 in
set_option maxRecDepth 100000 in
theorem ctX11_isSaid (l : Launch) (D : va_G) (k : Nat → ClassId) (z : Nat → Nat) (n : Nat → Nat) (mthrown : Int32) (mtaped : Nat) (msize : Nat) (mat : Nat) (mfrom : Nat) (mtoken : Int32) (mvalue : Int32) (mfaultKind : Int32) (mfaultPlace : Int32) (mmoreMany : Nat) (mlawNow : Int32) (mwetSet : Int32) (moverAll : Int32) (mones : Int32) (mtwos : Int32) (mgone : Int32) (mroundNow : Int32) (msampleFor : Int64) (msampleAll : Int64) (maskWorst : Int32) (moftenAll : Int64) (moftenView : Int64) (moftenOnes : Int64) (p0 : Int32) (p1 : Int32) (hmtaped : mtaped ≤ 600) (hmsize : msize ≤ 600) (hmat : mat ≤ 600) (hmfrom : mfrom ≤ 600) (hmmoreMany : mmoreMany ≤ 14) : MU l yX11_isSaid cX11_isSaid 3 none 1 D k z [.ref (n 0), .int p0, .int p1] [((n 0), .inr (11, [.int mthrown, .ref (n 1), .ref (n 2), .ref (n 3), .ref (n 4), .int (nI mtaped), .ref (n 5), .int (nI msize), .int (nI mat), .int (nI mfrom), .int mtoken, .int mvalue, .int mfaultKind, .int mfaultPlace, .ref (n 6), .ref (n 7), .ref (n 8), .ref (n 9), .ref (n 10), .ref (n 11), .ref (n 12), .int (nI mmoreMany), .int mlawNow, .int mwetSet, .int moverAll, .ref (n 13), .ref (n 14), .ref (n 15), .int mones, .int mtwos, .int mgone, .ref (n 16), .ref (n 17), .int mroundNow, .ref (n 18), .long msampleFor, .long msampleAll, .ref (n 19), .int maskWorst, .long moftenAll, .long moftenView, .long moftenOnes, .ref (n 20), .ref (n 21), .ref (n 22), .ref (n 23)]))] 0 0 (Uv D (fun _ : (Nat → Int32) × (Nat → Nat) × (Nat → Nat → Int32) × (Nat → Nat → Int64) × (Nat → Int64) => True) (fun u : (Nat → Int32) × (Nat → Nat) × (Nat → Nat → Int32) × (Nat → Nat → Int64) × (Nat → Int64) => [((n 0), .inr (11, [.int mthrown, .ref (n 1), .ref (n 2), .ref (n 3), .ref (n 4), .int (nI mtaped), .ref (n 5), .int (nI msize), .int (nI mat), .int (nI mfrom), .int mtoken, .int mvalue, .int mfaultKind, .int mfaultPlace, .ref (n 6), .ref (n 7), .ref (n 8), .ref (n 9), .ref (n 10), .ref (n 11), .ref (n 12), .int (nI mmoreMany), .int mlawNow, .int mwetSet, .int moverAll, .ref (n 13), .ref (n 14), .ref (n 15), .int (u.1 0), .int (u.1 1), .int mgone, .ref (n 16), .ref (n 17), .int mroundNow, .ref (n 18), .long msampleFor, .long msampleAll, .ref (n 19), .int maskWorst, .long moftenAll, .long moftenView, .long moftenOnes, .ref (n 20), .ref (n 21), .ref (n 22), .ref (n 23)]))])) := by
  refine MU.of (by decide) (Nat.le_of_ble_eq_true rfl) ?_
  intro p e s m below meth c ls A args Q S hr hlk hnm hQ hK hP hD hZ hA hS hl
  have hx := S.1
  have hb := S.2.1
  have hl : lv_has ls 3 [(0, .ref (n 0)), (1, .int p0), (2, .int p1)] := hl
  refine lv_aload_n hx hb dX11_isSaid_0 rfl (lv_at hl 0 rfl) ?_
  refine x_get S hK hP 0 rfl cfX11 30 lkX11_281 (by decide) rfl dX11_isSaid_1 ?_
  refine lv_iload_n hx hb dX11_isSaid_4 rfl (lv_at hl 2 rfl) ?_
  refine x_roSi (As := [.int mgone, .int p1]) S hK hP hD hZ (fun _ h => h) hA hS hA hl mwX11_bit lkX11_274 (ctX11_bit l D k z mgone p1 ) [] rfl (by decide) rfl rfl ⟨Nat.le_of_ble_eq_true rfl, Nat.le_of_ble_eq_true rfl, Nat.le_of_ble_eq_true rfl⟩ dX11_isSaid_5 ⟨Nat.le_of_ble_eq_true rfl, Nat.le_of_ble_eq_true rfl⟩ (fun r_1 H locs hr_1 hP hS => ?_)
  refine lv_iconst (v := 1) hx hb dX11_isSaid_8 (by decide) ?_
  refine lv_icmp_ne (tgt := 13) hx hb dX11_isSaid_9 (by decide) (fun c_3 => ?_) (fun c_3 => ?_)
  · skip
    refine lv_aload_n hx hb dX11_isSaid_13 rfl (lv_at hl 0 rfl) ?_
    refine lv_iload_n hx hb dX11_isSaid_14 rfl (lv_at hl 1 rfl) ?_
    refine lv_iconst (v := 1) hx hb dX11_isSaid_15 (by decide) ?_
    refine lv_icmp_ne (tgt := 30) hx hb dX11_isSaid_16 (by decide) (fun c_4 => ?_) (fun c_4 => ?_)
    · skip
      refine lv_aload_n hx hb dX11_isSaid_30 rfl (lv_at hl 0 rfl) ?_
      refine x_get S hK hP 0 rfl cfX11 28 lkX11_284 (by decide) rfl dX11_isSaid_31 ?_
      refine lv_iconst (v := 1) hx hb dX11_isSaid_34 (by decide) ?_
      refine lv_iload_n hx hb dX11_isSaid_35 rfl (lv_at hl 2 rfl) ?_
      refine lv_ishl hx hb dX11_isSaid_36 ?_
      refine lv_topi (fun v_5 ev_5 => ?_)
      refine lv_iconst (v := (-1)) hx hb dX11_isSaid_37 (by decide) ?_
      refine lv_ixor hx hb dX11_isSaid_38 ?_
      refine lv_topi (fun v_6 ev_6 => ?_)
      refine lv_iand hx hb dX11_isSaid_39 ?_
      refine lv_topi (fun v_7 ev_7 => ?_)
      refine x_put (ws' := [((n 0), .inr (11, [.int mthrown, .ref (n 1), .ref (n 2), .ref (n 3), .ref (n 4), .int (nI mtaped), .ref (n 5), .int (nI msize), .int (nI mat), .int (nI mfrom), .int mtoken, .int mvalue, .int mfaultKind, .int mfaultPlace, .ref (n 6), .ref (n 7), .ref (n 8), .ref (n 9), .ref (n 10), .ref (n 11), .ref (n 12), .int (nI mmoreMany), .int mlawNow, .int mwetSet, .int moverAll, .ref (n 13), .ref (n 14), .ref (n 15), .int v_7, .int mtwos, .int mgone, .ref (n 16), .ref (n 17), .int mroundNow, .ref (n 18), .long msampleFor, .long msampleAll, .ref (n 19), .int maskWorst, .long moftenAll, .long moftenView, .long moftenOnes, .ref (n 20), .ref (n 21), .ref (n 22), .ref (n 23)]))]) S hK hP hD hS 0 rfl cfX11 28 lkX11_284 (by decide) rfl rfl rfl (Nat.le_of_ble_eq_true rfl) rfl dX11_isSaid_40 (fun H locs hP hD hS => ?_)
      refine lv_aload_n hx hb dX11_isSaid_43 rfl (lv_at hl 0 rfl) ?_
      refine lv_iload_n hx hb dX11_isSaid_44 rfl (lv_at hl 1 rfl) ?_
      refine lv_iconst (v := 2) hx hb dX11_isSaid_45 (by decide) ?_
      refine lv_icmp_ne (tgt := 60) hx hb dX11_isSaid_46 (by decide) (fun c_8 => ?_) (fun c_8 => ?_)
      · skip
        refine lv_aload_n hx hb dX11_isSaid_60 rfl (lv_at hl 0 rfl) ?_
        refine x_get S hK hP 0 rfl cfX11 29 lkX11_287 (by decide) rfl dX11_isSaid_61 ?_
        refine lv_iconst (v := 1) hx hb dX11_isSaid_64 (by decide) ?_
        refine lv_iload_n hx hb dX11_isSaid_65 rfl (lv_at hl 2 rfl) ?_
        refine lv_ishl hx hb dX11_isSaid_66 ?_
        refine lv_topi (fun v_9 ev_9 => ?_)
        refine lv_iconst (v := (-1)) hx hb dX11_isSaid_67 (by decide) ?_
        refine lv_ixor hx hb dX11_isSaid_68 ?_
        refine lv_topi (fun v_10 ev_10 => ?_)
        refine lv_iand hx hb dX11_isSaid_69 ?_
        refine lv_topi (fun v_11 ev_11 => ?_)
        refine x_put (ws' := [((n 0), .inr (11, [.int mthrown, .ref (n 1), .ref (n 2), .ref (n 3), .ref (n 4), .int (nI mtaped), .ref (n 5), .int (nI msize), .int (nI mat), .int (nI mfrom), .int mtoken, .int mvalue, .int mfaultKind, .int mfaultPlace, .ref (n 6), .ref (n 7), .ref (n 8), .ref (n 9), .ref (n 10), .ref (n 11), .ref (n 12), .int (nI mmoreMany), .int mlawNow, .int mwetSet, .int moverAll, .ref (n 13), .ref (n 14), .ref (n 15), .int v_7, .int v_11, .int mgone, .ref (n 16), .ref (n 17), .int mroundNow, .ref (n 18), .long msampleFor, .long msampleAll, .ref (n 19), .int maskWorst, .long moftenAll, .long moftenView, .long moftenOnes, .ref (n 20), .ref (n 21), .ref (n 22), .ref (n 23)]))]) S hK hP hD hS 0 rfl cfX11 29 lkX11_287 (by decide) rfl rfl rfl (Nat.le_of_ble_eq_true rfl) rfl dX11_isSaid_70 (fun H locs hP hD hS => ?_)
        exact x_retv S hr hlk hQ hS ((fun i => ([v_7, v_11] : List (Int32)).getD i 0), (fun i => ([] : List (Nat)).getD i 0), (fun i => ([] : List (Nat → Int32)).getD i (fun _ => 0)), (fun i => ([] : List (Nat → Int64)).getD i (fun _ => 0)), (fun i => ([] : List (Int64)).getD i 0)) trivial (x_B hP hD) dX11_isSaid_73
      · skip
        refine lv_aload_n hx hb dX11_isSaid_49 rfl (lv_at hl 0 rfl) ?_
        refine x_get S hK hP 0 rfl cfX11 29 lkX11_287 (by decide) rfl dX11_isSaid_50 ?_
        refine lv_iconst (v := 1) hx hb dX11_isSaid_53 (by decide) ?_
        refine lv_iload_n hx hb dX11_isSaid_54 rfl (lv_at hl 2 rfl) ?_
        refine lv_ishl hx hb dX11_isSaid_55 ?_
        refine lv_topi (fun v_12 ev_12 => ?_)
        refine lv_ior hx hb dX11_isSaid_56 ?_
        refine lv_topi (fun v_13 ev_13 => ?_)
        refine lv_goto (tgt := 70) hx hb dX11_isSaid_57 (by decide) ?_
        refine x_put (ws' := [((n 0), .inr (11, [.int mthrown, .ref (n 1), .ref (n 2), .ref (n 3), .ref (n 4), .int (nI mtaped), .ref (n 5), .int (nI msize), .int (nI mat), .int (nI mfrom), .int mtoken, .int mvalue, .int mfaultKind, .int mfaultPlace, .ref (n 6), .ref (n 7), .ref (n 8), .ref (n 9), .ref (n 10), .ref (n 11), .ref (n 12), .int (nI mmoreMany), .int mlawNow, .int mwetSet, .int moverAll, .ref (n 13), .ref (n 14), .ref (n 15), .int v_7, .int v_13, .int mgone, .ref (n 16), .ref (n 17), .int mroundNow, .ref (n 18), .long msampleFor, .long msampleAll, .ref (n 19), .int maskWorst, .long moftenAll, .long moftenView, .long moftenOnes, .ref (n 20), .ref (n 21), .ref (n 22), .ref (n 23)]))]) S hK hP hD hS 0 rfl cfX11 29 lkX11_287 (by decide) rfl rfl rfl (Nat.le_of_ble_eq_true rfl) rfl dX11_isSaid_70 (fun H locs hP hD hS => ?_)
        exact x_retv S hr hlk hQ hS ((fun i => ([v_7, v_13] : List (Int32)).getD i 0), (fun i => ([] : List (Nat)).getD i 0), (fun i => ([] : List (Nat → Int32)).getD i (fun _ => 0)), (fun i => ([] : List (Nat → Int64)).getD i (fun _ => 0)), (fun i => ([] : List (Int64)).getD i 0)) trivial (x_B hP hD) dX11_isSaid_73
    · skip
      refine lv_aload_n hx hb dX11_isSaid_19 rfl (lv_at hl 0 rfl) ?_
      refine x_get S hK hP 0 rfl cfX11 28 lkX11_284 (by decide) rfl dX11_isSaid_20 ?_
      refine lv_iconst (v := 1) hx hb dX11_isSaid_23 (by decide) ?_
      refine lv_iload_n hx hb dX11_isSaid_24 rfl (lv_at hl 2 rfl) ?_
      refine lv_ishl hx hb dX11_isSaid_25 ?_
      refine lv_topi (fun v_14 ev_14 => ?_)
      refine lv_ior hx hb dX11_isSaid_26 ?_
      refine lv_topi (fun v_15 ev_15 => ?_)
      refine lv_goto (tgt := 40) hx hb dX11_isSaid_27 (by decide) ?_
      refine x_put (ws' := [((n 0), .inr (11, [.int mthrown, .ref (n 1), .ref (n 2), .ref (n 3), .ref (n 4), .int (nI mtaped), .ref (n 5), .int (nI msize), .int (nI mat), .int (nI mfrom), .int mtoken, .int mvalue, .int mfaultKind, .int mfaultPlace, .ref (n 6), .ref (n 7), .ref (n 8), .ref (n 9), .ref (n 10), .ref (n 11), .ref (n 12), .int (nI mmoreMany), .int mlawNow, .int mwetSet, .int moverAll, .ref (n 13), .ref (n 14), .ref (n 15), .int v_15, .int mtwos, .int mgone, .ref (n 16), .ref (n 17), .int mroundNow, .ref (n 18), .long msampleFor, .long msampleAll, .ref (n 19), .int maskWorst, .long moftenAll, .long moftenView, .long moftenOnes, .ref (n 20), .ref (n 21), .ref (n 22), .ref (n 23)]))]) S hK hP hD hS 0 rfl cfX11 28 lkX11_284 (by decide) rfl rfl rfl (Nat.le_of_ble_eq_true rfl) rfl dX11_isSaid_40 (fun H locs hP hD hS => ?_)
      refine lv_aload_n hx hb dX11_isSaid_43 rfl (lv_at hl 0 rfl) ?_
      refine lv_iload_n hx hb dX11_isSaid_44 rfl (lv_at hl 1 rfl) ?_
      refine lv_iconst (v := 2) hx hb dX11_isSaid_45 (by decide) ?_
      refine lv_icmp_ne (tgt := 60) hx hb dX11_isSaid_46 (by decide) (fun c_16 => ?_) (fun c_16 => ?_)
      · skip
        refine lv_aload_n hx hb dX11_isSaid_60 rfl (lv_at hl 0 rfl) ?_
        refine x_get S hK hP 0 rfl cfX11 29 lkX11_287 (by decide) rfl dX11_isSaid_61 ?_
        refine lv_iconst (v := 1) hx hb dX11_isSaid_64 (by decide) ?_
        refine lv_iload_n hx hb dX11_isSaid_65 rfl (lv_at hl 2 rfl) ?_
        refine lv_ishl hx hb dX11_isSaid_66 ?_
        refine lv_topi (fun v_17 ev_17 => ?_)
        refine lv_iconst (v := (-1)) hx hb dX11_isSaid_67 (by decide) ?_
        refine lv_ixor hx hb dX11_isSaid_68 ?_
        refine lv_topi (fun v_18 ev_18 => ?_)
        refine lv_iand hx hb dX11_isSaid_69 ?_
        refine lv_topi (fun v_19 ev_19 => ?_)
        refine x_put (ws' := [((n 0), .inr (11, [.int mthrown, .ref (n 1), .ref (n 2), .ref (n 3), .ref (n 4), .int (nI mtaped), .ref (n 5), .int (nI msize), .int (nI mat), .int (nI mfrom), .int mtoken, .int mvalue, .int mfaultKind, .int mfaultPlace, .ref (n 6), .ref (n 7), .ref (n 8), .ref (n 9), .ref (n 10), .ref (n 11), .ref (n 12), .int (nI mmoreMany), .int mlawNow, .int mwetSet, .int moverAll, .ref (n 13), .ref (n 14), .ref (n 15), .int v_15, .int v_19, .int mgone, .ref (n 16), .ref (n 17), .int mroundNow, .ref (n 18), .long msampleFor, .long msampleAll, .ref (n 19), .int maskWorst, .long moftenAll, .long moftenView, .long moftenOnes, .ref (n 20), .ref (n 21), .ref (n 22), .ref (n 23)]))]) S hK hP hD hS 0 rfl cfX11 29 lkX11_287 (by decide) rfl rfl rfl (Nat.le_of_ble_eq_true rfl) rfl dX11_isSaid_70 (fun H locs hP hD hS => ?_)
        exact x_retv S hr hlk hQ hS ((fun i => ([v_15, v_19] : List (Int32)).getD i 0), (fun i => ([] : List (Nat)).getD i 0), (fun i => ([] : List (Nat → Int32)).getD i (fun _ => 0)), (fun i => ([] : List (Nat → Int64)).getD i (fun _ => 0)), (fun i => ([] : List (Int64)).getD i 0)) trivial (x_B hP hD) dX11_isSaid_73
      · skip
        refine lv_aload_n hx hb dX11_isSaid_49 rfl (lv_at hl 0 rfl) ?_
        refine x_get S hK hP 0 rfl cfX11 29 lkX11_287 (by decide) rfl dX11_isSaid_50 ?_
        refine lv_iconst (v := 1) hx hb dX11_isSaid_53 (by decide) ?_
        refine lv_iload_n hx hb dX11_isSaid_54 rfl (lv_at hl 2 rfl) ?_
        refine lv_ishl hx hb dX11_isSaid_55 ?_
        refine lv_topi (fun v_20 ev_20 => ?_)
        refine lv_ior hx hb dX11_isSaid_56 ?_
        refine lv_topi (fun v_21 ev_21 => ?_)
        refine lv_goto (tgt := 70) hx hb dX11_isSaid_57 (by decide) ?_
        refine x_put (ws' := [((n 0), .inr (11, [.int mthrown, .ref (n 1), .ref (n 2), .ref (n 3), .ref (n 4), .int (nI mtaped), .ref (n 5), .int (nI msize), .int (nI mat), .int (nI mfrom), .int mtoken, .int mvalue, .int mfaultKind, .int mfaultPlace, .ref (n 6), .ref (n 7), .ref (n 8), .ref (n 9), .ref (n 10), .ref (n 11), .ref (n 12), .int (nI mmoreMany), .int mlawNow, .int mwetSet, .int moverAll, .ref (n 13), .ref (n 14), .ref (n 15), .int v_15, .int v_21, .int mgone, .ref (n 16), .ref (n 17), .int mroundNow, .ref (n 18), .long msampleFor, .long msampleAll, .ref (n 19), .int maskWorst, .long moftenAll, .long moftenView, .long moftenOnes, .ref (n 20), .ref (n 21), .ref (n 22), .ref (n 23)]))]) S hK hP hD hS 0 rfl cfX11 29 lkX11_287 (by decide) rfl rfl rfl (Nat.le_of_ble_eq_true rfl) rfl dX11_isSaid_70 (fun H locs hP hD hS => ?_)
        exact x_retv S hr hlk hQ hS ((fun i => ([v_15, v_21] : List (Int32)).getD i 0), (fun i => ([] : List (Nat)).getD i 0), (fun i => ([] : List (Nat → Int32)).getD i (fun _ => 0)), (fun i => ([] : List (Nat → Int64)).getD i (fun _ => 0)), (fun i => ([] : List (Int64)).getD i 0)) trivial (x_B hP hD) dX11_isSaid_73
  · skip
    exact x_retv S hr hlk hQ hS ((fun i => ([mones, mtwos] : List (Int32)).getD i 0), (fun i => ([] : List (Nat)).getD i 0), (fun i => ([] : List (Nat → Int32)).getD i (fun _ => 0)), (fun i => ([] : List (Nat → Int64)).getD i (fun _ => 0)), (fun i => ([] : List (Int64)).getD i 0)) trivial (x_B hP hD) dX11_isSaid_12

set_option maxHeartbeats 4000000 in
set_option maxRecDepth 100000 in
theorem ctX11_isEaten (l : Launch) (D : va_G) (k : Nat → ClassId) (z : Nat → Nat) (n : Nat → Nat) (mthrown : Int32) (mtaped : Nat) (msize : Nat) (mat : Nat) (mfrom : Nat) (mtoken : Int32) (mvalue : Int32) (mfaultKind : Int32) (mfaultPlace : Int32) (mmoreMany : Nat) (mlawNow : Int32) (mwetSet : Int32) (moverAll : Int32) (mones : Int32) (mtwos : Int32) (mgone : Int32) (mroundNow : Int32) (msampleFor : Int64) (msampleAll : Int64) (maskWorst : Int32) (moftenAll : Int64) (moftenView : Int64) (moftenOnes : Int64) (p0 : Int32) (hmtaped : mtaped ≤ 600) (hmsize : msize ≤ 600) (hmat : mat ≤ 600) (hmfrom : mfrom ≤ 600) (hmmoreMany : mmoreMany ≤ 14) : MU l yX11_isEaten cX11_isEaten 2 none 0 D k z [.ref (n 0), .int p0] [((n 0), .inr (11, [.int mthrown, .ref (n 1), .ref (n 2), .ref (n 3), .ref (n 4), .int (nI mtaped), .ref (n 5), .int (nI msize), .int (nI mat), .int (nI mfrom), .int mtoken, .int mvalue, .int mfaultKind, .int mfaultPlace, .ref (n 6), .ref (n 7), .ref (n 8), .ref (n 9), .ref (n 10), .ref (n 11), .ref (n 12), .int (nI mmoreMany), .int mlawNow, .int mwetSet, .int moverAll, .ref (n 13), .ref (n 14), .ref (n 15), .int mones, .int mtwos, .int mgone, .ref (n 16), .ref (n 17), .int mroundNow, .ref (n 18), .long msampleFor, .long msampleAll, .ref (n 19), .int maskWorst, .long moftenAll, .long moftenView, .long moftenOnes, .ref (n 20), .ref (n 21), .ref (n 22), .ref (n 23)]))] 0 0 (Uv D (fun _ : (Nat → Int32) × (Nat → Nat) × (Nat → Nat → Int32) × (Nat → Nat → Int64) × (Nat → Int64) => True) (fun u : (Nat → Int32) × (Nat → Nat) × (Nat → Nat → Int32) × (Nat → Nat → Int64) × (Nat → Int64) => [((n 0), .inr (11, [.int mthrown, .ref (n 1), .ref (n 2), .ref (n 3), .ref (n 4), .int (nI mtaped), .ref (n 5), .int (nI msize), .int (nI mat), .int (nI mfrom), .int mtoken, .int mvalue, .int mfaultKind, .int mfaultPlace, .ref (n 6), .ref (n 7), .ref (n 8), .ref (n 9), .ref (n 10), .ref (n 11), .ref (n 12), .int (nI mmoreMany), .int mlawNow, .int mwetSet, .int moverAll, .ref (n 13), .ref (n 14), .ref (n 15), .int (u.1 0), .int (u.1 1), .int (u.1 2), .ref (n 16), .ref (n 17), .int mroundNow, .ref (n 18), .long msampleFor, .long msampleAll, .ref (n 19), .int maskWorst, .long moftenAll, .long moftenView, .long moftenOnes, .ref (n 20), .ref (n 21), .ref (n 22), .ref (n 23)]))])) := by
  refine MU.of (by decide) (Nat.le_of_ble_eq_true rfl) ?_
  intro p e s m below meth c ls A args Q S hr hlk hnm hQ hK hP hD hZ hA hS hl
  have hx := S.1
  have hb := S.2.1
  have hl : lv_has ls 2 [(0, .ref (n 0)), (1, .int p0)] := hl
  refine lv_aload_n hx hb dX11_isEaten_0 rfl (lv_at hl 0 rfl) ?_
  refine lv_dup hx hb dX11_isEaten_1 rfl ?_
  refine x_get S hK hP 0 rfl cfX11 30 lkX11_281 (by decide) rfl dX11_isEaten_2 ?_
  refine lv_iconst (v := 1) hx hb dX11_isEaten_5 (by decide) ?_
  refine lv_iload_n hx hb dX11_isEaten_6 rfl (lv_at hl 1 rfl) ?_
  refine lv_ishl hx hb dX11_isEaten_7 ?_
  refine lv_topi (fun v_1 ev_1 => ?_)
  refine lv_ior hx hb dX11_isEaten_8 ?_
  refine lv_topi (fun v_2 ev_2 => ?_)
  refine x_put (ws' := [((n 0), .inr (11, [.int mthrown, .ref (n 1), .ref (n 2), .ref (n 3), .ref (n 4), .int (nI mtaped), .ref (n 5), .int (nI msize), .int (nI mat), .int (nI mfrom), .int mtoken, .int mvalue, .int mfaultKind, .int mfaultPlace, .ref (n 6), .ref (n 7), .ref (n 8), .ref (n 9), .ref (n 10), .ref (n 11), .ref (n 12), .int (nI mmoreMany), .int mlawNow, .int mwetSet, .int moverAll, .ref (n 13), .ref (n 14), .ref (n 15), .int mones, .int mtwos, .int v_2, .ref (n 16), .ref (n 17), .int mroundNow, .ref (n 18), .long msampleFor, .long msampleAll, .ref (n 19), .int maskWorst, .long moftenAll, .long moftenView, .long moftenOnes, .ref (n 20), .ref (n 21), .ref (n 22), .ref (n 23)]))]) S hK hP hD hS 0 rfl cfX11 30 lkX11_281 (by decide) rfl rfl rfl (Nat.le_of_ble_eq_true rfl) rfl dX11_isEaten_9 (fun H locs hP hD hS => ?_)
  refine lv_aload_n hx hb dX11_isEaten_12 rfl (lv_at hl 0 rfl) ?_
  refine lv_dup hx hb dX11_isEaten_13 rfl ?_
  refine x_get S hK hP 0 rfl cfX11 28 lkX11_284 (by decide) rfl dX11_isEaten_14 ?_
  refine lv_aload_n hx hb dX11_isEaten_17 rfl (lv_at hl 0 rfl) ?_
  refine x_get S hK hP 0 rfl cfX11 30 lkX11_281 (by decide) rfl dX11_isEaten_18 ?_
  refine lv_iconst (v := (-1)) hx hb dX11_isEaten_21 (by decide) ?_
  refine lv_ixor hx hb dX11_isEaten_22 ?_
  refine lv_topi (fun v_3 ev_3 => ?_)
  refine lv_iand hx hb dX11_isEaten_23 ?_
  refine lv_topi (fun v_4 ev_4 => ?_)
  refine x_put (ws' := [((n 0), .inr (11, [.int mthrown, .ref (n 1), .ref (n 2), .ref (n 3), .ref (n 4), .int (nI mtaped), .ref (n 5), .int (nI msize), .int (nI mat), .int (nI mfrom), .int mtoken, .int mvalue, .int mfaultKind, .int mfaultPlace, .ref (n 6), .ref (n 7), .ref (n 8), .ref (n 9), .ref (n 10), .ref (n 11), .ref (n 12), .int (nI mmoreMany), .int mlawNow, .int mwetSet, .int moverAll, .ref (n 13), .ref (n 14), .ref (n 15), .int v_4, .int mtwos, .int v_2, .ref (n 16), .ref (n 17), .int mroundNow, .ref (n 18), .long msampleFor, .long msampleAll, .ref (n 19), .int maskWorst, .long moftenAll, .long moftenView, .long moftenOnes, .ref (n 20), .ref (n 21), .ref (n 22), .ref (n 23)]))]) S hK hP hD hS 0 rfl cfX11 28 lkX11_284 (by decide) rfl rfl rfl (Nat.le_of_ble_eq_true rfl) rfl dX11_isEaten_24 (fun H locs hP hD hS => ?_)
  refine lv_aload_n hx hb dX11_isEaten_27 rfl (lv_at hl 0 rfl) ?_
  refine lv_dup hx hb dX11_isEaten_28 rfl ?_
  refine x_get S hK hP 0 rfl cfX11 29 lkX11_287 (by decide) rfl dX11_isEaten_29 ?_
  refine lv_aload_n hx hb dX11_isEaten_32 rfl (lv_at hl 0 rfl) ?_
  refine x_get S hK hP 0 rfl cfX11 30 lkX11_281 (by decide) rfl dX11_isEaten_33 ?_
  refine lv_iconst (v := (-1)) hx hb dX11_isEaten_36 (by decide) ?_
  refine lv_ixor hx hb dX11_isEaten_37 ?_
  refine lv_topi (fun v_5 ev_5 => ?_)
  refine lv_iand hx hb dX11_isEaten_38 ?_
  refine lv_topi (fun v_6 ev_6 => ?_)
  refine x_put (ws' := [((n 0), .inr (11, [.int mthrown, .ref (n 1), .ref (n 2), .ref (n 3), .ref (n 4), .int (nI mtaped), .ref (n 5), .int (nI msize), .int (nI mat), .int (nI mfrom), .int mtoken, .int mvalue, .int mfaultKind, .int mfaultPlace, .ref (n 6), .ref (n 7), .ref (n 8), .ref (n 9), .ref (n 10), .ref (n 11), .ref (n 12), .int (nI mmoreMany), .int mlawNow, .int mwetSet, .int moverAll, .ref (n 13), .ref (n 14), .ref (n 15), .int v_4, .int v_6, .int v_2, .ref (n 16), .ref (n 17), .int mroundNow, .ref (n 18), .long msampleFor, .long msampleAll, .ref (n 19), .int maskWorst, .long moftenAll, .long moftenView, .long moftenOnes, .ref (n 20), .ref (n 21), .ref (n 22), .ref (n 23)]))]) S hK hP hD hS 0 rfl cfX11 29 lkX11_287 (by decide) rfl rfl rfl (Nat.le_of_ble_eq_true rfl) rfl dX11_isEaten_39 (fun H locs hP hD hS => ?_)
  exact x_retv S hr hlk hQ hS ((fun i => ([v_4, v_6, v_2] : List (Int32)).getD i 0), (fun i => ([] : List (Nat)).getD i 0), (fun i => ([] : List (Nat → Int32)).getD i (fun _ => 0)), (fun i => ([] : List (Nat → Int64)).getD i (fun _ => 0)), (fun i => ([] : List (Int64)).getD i 0)) trivial (x_B hP hD) dX11_isEaten_42

set_option maxHeartbeats 4000000 in
set_option maxRecDepth 100000 in
theorem ctX11_beginHour (l : Launch) (D : va_G) (k : Nat → ClassId) (z : Nat → Nat) (n : Nat → Nat) (mthrown : Int32) (mtaped : Nat) (msize : Nat) (mat : Nat) (mfrom : Nat) (mtoken : Int32) (mvalue : Int32) (mfaultKind : Int32) (mfaultPlace : Int32) (mmoreMany : Nat) (mlawNow : Int32) (mwetSet : Int32) (moverAll : Int32) (mones : Int32) (mtwos : Int32) (mgone : Int32) (mroundNow : Int32) (msampleFor : Int64) (msampleAll : Int64) (maskWorst : Int32) (moftenAll : Int64) (moftenView : Int64) (moftenOnes : Int64) (fworld : Nat → Int32) (fmoreHead : Nat → Int32) (fmoreView : Nat → Int32) (p0 : Int32) (hmtaped : mtaped ≤ 600) (hmsize : msize ≤ 600) (hmat : mat ≤ 600) (hmfrom : mfrom ≤ 600) (hmmoreMany : mmoreMany ≤ 14) (hkworld : okW fworld) : MU l yX11_beginHour cX11_beginHour 4 none 2 D k z [.ref (n 0), .int p0] [((n 0), .inr (11, [.int mthrown, .ref (n 1), .ref (n 2), .ref (n 3), .ref (n 4), .int (nI mtaped), .ref (n 5), .int (nI msize), .int (nI mat), .int (nI mfrom), .int mtoken, .int mvalue, .int mfaultKind, .int mfaultPlace, .ref (n 6), .ref (n 7), .ref (n 8), .ref (n 9), .ref (n 10), .ref (n 11), .ref (n 12), .int (nI mmoreMany), .int mlawNow, .int mwetSet, .int moverAll, .ref (n 13), .ref (n 14), .ref (n 15), .int mones, .int mtwos, .int mgone, .ref (n 16), .ref (n 17), .int mroundNow, .ref (n 18), .long msampleFor, .long msampleAll, .ref (n 19), .int maskWorst, .long moftenAll, .long moftenView, .long moftenOnes, .ref (n 20), .ref (n 21), .ref (n 22), .ref (n 23)])), ((n 1), .inl (k 0, 99, .inl fworld)), ((n 11), .inl (k 0, 14, .inl fmoreHead)), ((n 12), .inl (k 0, 14, .inl fmoreView))] 0 0 (Uv D (fun _ : (Nat → Int32) × (Nat → Nat) × (Nat → Nat → Int32) × (Nat → Nat → Int64) × (Nat → Int64) => True) (fun u : (Nat → Int32) × (Nat → Nat) × (Nat → Nat → Int32) × (Nat → Nat → Int64) × (Nat → Int64) => [((n 0), .inr (11, [.int mthrown, .ref (n 1), .ref (n 2), .ref (n 3), .ref (n 4), .int (nI mtaped), .ref (n 5), .int (nI msize), .int (nI mat), .int (nI mfrom), .int mtoken, .int mvalue, .int mfaultKind, .int mfaultPlace, .ref (n 6), .ref (n 7), .ref (n 8), .ref (n 9), .ref (n 10), .ref (n 11), .ref (n 12), .int (nI mmoreMany), .int mlawNow, .int mwetSet, .int moverAll, .ref (n 13), .ref (n 14), .ref (n 15), .int (u.1 0), .int (u.1 1), .int (u.1 2), .ref (n 16), .ref (n 17), .int mroundNow, .ref (n 18), .long msampleFor, .long msampleAll, .ref (n 19), .int maskWorst, .long moftenAll, .long moftenView, .long moftenOnes, .ref (n 20), .ref (n 21), .ref (n 22), .ref (n 23)])), ((n 1), .inl (k 0, 99, .inl fworld)), ((n 11), .inl (k 0, 14, .inl fmoreHead)), ((n 12), .inl (k 0, 14, .inl fmoreView))])) := by
  refine MU.of (by decide) (Nat.le_of_ble_eq_true rfl) ?_
  intro p e s m below meth c ls A args Q S hr hlk hnm hQ hK hP hD hZ hA hS hl
  have hx := S.1
  have hb := S.2.1
  have hl : lv_has ls 4 [(0, .ref (n 0)), (1, .int p0)] := hl
  have hbfworld := okW_bd hkworld
  refine lv_iconst (v := 0) hx hb dX11_beginHour_0 (by decide) ?_
  refine lv_istore_n (lv' := [(2, .int 0), (0, .ref (n 0)), (1, .int p0)]) hx hb dX11_beginHour_1 rfl hl (by decide) rfl (fun ls hl => ?_)
  have lp_23 : ∀ (nn j_20 : Nat) (x_21 : Int32) (x_22 : Int32) (H : Heap) (locs : List Loc) (ls : Array Slot), j_20 ≤ wn fworld 5 → wn fworld 5 - j_20 < nn → va_P D vwCl [((n 0), .inr (11, [.int mthrown, .ref (n 1), .ref (n 2), .ref (n 3), .ref (n 4), .int (nI mtaped), .ref (n 5), .int (nI msize), .int (nI mat), .int (nI mfrom), .int mtoken, .int mvalue, .int mfaultKind, .int mfaultPlace, .ref (n 6), .ref (n 7), .ref (n 8), .ref (n 9), .ref (n 10), .ref (n 11), .ref (n 12), .int (nI mmoreMany), .int mlawNow, .int mwetSet, .int moverAll, .ref (n 13), .ref (n 14), .ref (n 15), .int x_21, .int x_22, .int mgone, .ref (n 16), .ref (n 17), .int mroundNow, .ref (n 18), .long msampleFor, .long msampleAll, .ref (n 19), .int maskWorst, .long moftenAll, .long moftenView, .long moftenOnes, .ref (n 20), .ref (n 21), .ref (n 22), .ref (n 23)])), ((n 1), .inl (k 0, 99, .inl fworld)), ((n 11), .inl (k 0, 14, .inl fmoreHead)), ((n 12), .inl (k 0, 14, .inl fmoreView))] H → va_D A [((n 0), .inr (11, [.int mthrown, .ref (n 1), .ref (n 2), .ref (n 3), .ref (n 4), .int (nI mtaped), .ref (n 5), .int (nI msize), .int (nI mat), .int (nI mfrom), .int mtoken, .int mvalue, .int mfaultKind, .int mfaultPlace, .ref (n 6), .ref (n 7), .ref (n 8), .ref (n 9), .ref (n 10), .ref (n 11), .ref (n 12), .int (nI mmoreMany), .int mlawNow, .int mwetSet, .int moverAll, .ref (n 13), .ref (n 14), .ref (n 15), .int x_21, .int x_22, .int mgone, .ref (n 16), .ref (n 17), .int mroundNow, .ref (n 18), .long msampleFor, .long msampleAll, .ref (n 19), .int maskWorst, .long moftenAll, .long moftenView, .long moftenOnes, .ref (n 20), .ref (n 21), .ref (n 22), .ref (n 23)])), ((n 1), .inl (k 0, 99, .inl fworld)), ((n 11), .inl (k 0, 14, .inl fmoreHead)), ((n 12), .inl (k 0, 14, .inl fmoreView))] → va_S A s.heap H locs → lv_has ls 4 [(2, .int (nI j_20)), (0, .ref (n 0)), (1, .int p0)] → W p l e (Rm 2 0 0) s m args below meth c H locs 0 0 Q (F0 m 2 ls []) := by
    intro nn
    induction nn with
    | zero => intro j_20 x_21 x_22 H locs ls hjj_20 hnj_20; exact absurd hnj_20 (by omega)
    | succ nn ihj_20 =>
      intro j_20 x_21 x_22 H locs ls hjj_20 hnj_20 hP hD hS hl
      refine lv_iload_n hx hb dX11_beginHour_2 rfl (lv_at hl 0 rfl) ?_
      refine lv_aload_n hx hb dX11_beginHour_3 rfl (lv_at hl 1 rfl) ?_
      refine x_get S hK hP 0 rfl cfX11 1 lkX11_9 (by decide) rfl dX11_beginHour_4 ?_
      refine lv_iconst (v := 5) hx hb dX11_beginHour_7 (by decide) ?_
      refine x_iald S hK hP 1 rfl (vp_lit (by decide)) dX11_beginHour_8 ?_
      refine x_is (nI (wn fworld 5)) ((cl_at (f := fworld) (a := 5) (by decide) (by omega)).trans (okW_at hkworld (i := 5) (by omega))) ?_
      refine lv_icmp_ge (tgt := 63) hx hb dX11_beginHour_9 (by decide) (fun c_24 => ?_) (fun c_24 => ?_)
      · skip
        have c_24 : wn fworld 5 ≤ j_20 := (ni_le rfl rfl (by omega) (by omega)).mp c_24
        refine lv_iconst (v := 0) hx hb dX11_beginHour_63 (by decide) ?_
        refine lv_istore_n (lv' := [(2, .int 0), (0, .ref (n 0)), (1, .int p0)]) hx hb dX11_beginHour_64 rfl hl (by decide) rfl (fun ls hl => ?_)
        have lp_53 : ∀ (nn j_50 : Nat) (x_51 : Int32) (x_52 : Int32) (H : Heap) (locs : List Loc) (ls : Array Slot), j_50 ≤ wn fworld 7 → wn fworld 7 - j_50 < nn → va_P D vwCl [((n 0), .inr (11, [.int mthrown, .ref (n 1), .ref (n 2), .ref (n 3), .ref (n 4), .int (nI mtaped), .ref (n 5), .int (nI msize), .int (nI mat), .int (nI mfrom), .int mtoken, .int mvalue, .int mfaultKind, .int mfaultPlace, .ref (n 6), .ref (n 7), .ref (n 8), .ref (n 9), .ref (n 10), .ref (n 11), .ref (n 12), .int (nI mmoreMany), .int mlawNow, .int mwetSet, .int moverAll, .ref (n 13), .ref (n 14), .ref (n 15), .int x_51, .int x_52, .int mgone, .ref (n 16), .ref (n 17), .int mroundNow, .ref (n 18), .long msampleFor, .long msampleAll, .ref (n 19), .int maskWorst, .long moftenAll, .long moftenView, .long moftenOnes, .ref (n 20), .ref (n 21), .ref (n 22), .ref (n 23)])), ((n 1), .inl (k 0, 99, .inl fworld)), ((n 11), .inl (k 0, 14, .inl fmoreHead)), ((n 12), .inl (k 0, 14, .inl fmoreView))] H → va_D A [((n 0), .inr (11, [.int mthrown, .ref (n 1), .ref (n 2), .ref (n 3), .ref (n 4), .int (nI mtaped), .ref (n 5), .int (nI msize), .int (nI mat), .int (nI mfrom), .int mtoken, .int mvalue, .int mfaultKind, .int mfaultPlace, .ref (n 6), .ref (n 7), .ref (n 8), .ref (n 9), .ref (n 10), .ref (n 11), .ref (n 12), .int (nI mmoreMany), .int mlawNow, .int mwetSet, .int moverAll, .ref (n 13), .ref (n 14), .ref (n 15), .int x_51, .int x_52, .int mgone, .ref (n 16), .ref (n 17), .int mroundNow, .ref (n 18), .long msampleFor, .long msampleAll, .ref (n 19), .int maskWorst, .long moftenAll, .long moftenView, .long moftenOnes, .ref (n 20), .ref (n 21), .ref (n 22), .ref (n 23)])), ((n 1), .inl (k 0, 99, .inl fworld)), ((n 11), .inl (k 0, 14, .inl fmoreHead)), ((n 12), .inl (k 0, 14, .inl fmoreView))] → va_S A s.heap H locs → lv_has ls 4 [(2, .int (nI j_50)), (0, .ref (n 0)), (1, .int p0)] → W p l e (Rm 2 0 0) s m args below meth c H locs 0 0 Q (F0 m 65 ls []) := by
          intro nn
          induction nn with
          | zero => intro j_50 x_51 x_52 H locs ls hjj_50 hnj_50; exact absurd hnj_50 (by omega)
          | succ nn ihj_50 =>
            intro j_50 x_51 x_52 H locs ls hjj_50 hnj_50 hP hD hS hl
            refine lv_iload_n hx hb dX11_beginHour_65 rfl (lv_at hl 0 rfl) ?_
            refine lv_aload_n hx hb dX11_beginHour_66 rfl (lv_at hl 1 rfl) ?_
            refine x_get S hK hP 0 rfl cfX11 1 lkX11_9 (by decide) rfl dX11_beginHour_67 ?_
            refine lv_bipush (v := 7) hx hb dX11_beginHour_70 (by decide) ?_
            refine x_iald S hK hP 1 rfl (vp_lit (by decide)) dX11_beginHour_72 ?_
            refine x_is (nI (wn fworld 7)) ((cl_at (f := fworld) (a := 7) (by decide) (by omega)).trans (okW_at hkworld (i := 7) (by omega))) ?_
            refine lv_icmp_ge (tgt := 123) hx hb dX11_beginHour_73 (by decide) (fun c_54 => ?_) (fun c_54 => ?_)
            · skip
              have c_54 : wn fworld 7 ≤ j_50 := (ni_le rfl rfl (by omega) (by omega)).mp c_54
              refine lv_iconst (v := 0) hx hb dX11_beginHour_123 (by decide) ?_
              refine lv_istore_n (lv' := [(2, .int 0), (0, .ref (n 0)), (1, .int p0)]) hx hb dX11_beginHour_124 rfl hl (by decide) rfl (fun ls hl => ?_)
              have lp_75 : ∀ (nn j_72 : Nat) (x_73 : Int32) (x_74 : Int32) (H : Heap) (locs : List Loc) (ls : Array Slot), j_72 ≤ mmoreMany → mmoreMany - j_72 < nn → va_P D vwCl [((n 0), .inr (11, [.int mthrown, .ref (n 1), .ref (n 2), .ref (n 3), .ref (n 4), .int (nI mtaped), .ref (n 5), .int (nI msize), .int (nI mat), .int (nI mfrom), .int mtoken, .int mvalue, .int mfaultKind, .int mfaultPlace, .ref (n 6), .ref (n 7), .ref (n 8), .ref (n 9), .ref (n 10), .ref (n 11), .ref (n 12), .int (nI mmoreMany), .int mlawNow, .int mwetSet, .int moverAll, .ref (n 13), .ref (n 14), .ref (n 15), .int x_73, .int x_74, .int mgone, .ref (n 16), .ref (n 17), .int mroundNow, .ref (n 18), .long msampleFor, .long msampleAll, .ref (n 19), .int maskWorst, .long moftenAll, .long moftenView, .long moftenOnes, .ref (n 20), .ref (n 21), .ref (n 22), .ref (n 23)])), ((n 1), .inl (k 0, 99, .inl fworld)), ((n 11), .inl (k 0, 14, .inl fmoreHead)), ((n 12), .inl (k 0, 14, .inl fmoreView))] H → va_D A [((n 0), .inr (11, [.int mthrown, .ref (n 1), .ref (n 2), .ref (n 3), .ref (n 4), .int (nI mtaped), .ref (n 5), .int (nI msize), .int (nI mat), .int (nI mfrom), .int mtoken, .int mvalue, .int mfaultKind, .int mfaultPlace, .ref (n 6), .ref (n 7), .ref (n 8), .ref (n 9), .ref (n 10), .ref (n 11), .ref (n 12), .int (nI mmoreMany), .int mlawNow, .int mwetSet, .int moverAll, .ref (n 13), .ref (n 14), .ref (n 15), .int x_73, .int x_74, .int mgone, .ref (n 16), .ref (n 17), .int mroundNow, .ref (n 18), .long msampleFor, .long msampleAll, .ref (n 19), .int maskWorst, .long moftenAll, .long moftenView, .long moftenOnes, .ref (n 20), .ref (n 21), .ref (n 22), .ref (n 23)])), ((n 1), .inl (k 0, 99, .inl fworld)), ((n 11), .inl (k 0, 14, .inl fmoreHead)), ((n 12), .inl (k 0, 14, .inl fmoreView))] → va_S A s.heap H locs → lv_has ls 4 [(2, .int (nI j_72)), (0, .ref (n 0)), (1, .int p0)] → W p l e (Rm 2 0 0) s m args below meth c H locs 0 0 Q (F0 m 125 ls []) := by
                intro nn
                induction nn with
                | zero => intro j_72 x_73 x_74 H locs ls hjj_72 hnj_72; exact absurd hnj_72 (by omega)
                | succ nn ihj_72 =>
                  intro j_72 x_73 x_74 H locs ls hjj_72 hnj_72 hP hD hS hl
                  refine lv_iload_n hx hb dX11_beginHour_125 rfl (lv_at hl 0 rfl) ?_
                  refine lv_aload_n hx hb dX11_beginHour_126 rfl (lv_at hl 1 rfl) ?_
                  refine x_get S hK hP 0 rfl cfX11 21 lkX11_267 (by decide) rfl dX11_beginHour_127 ?_
                  refine lv_icmp_ge (tgt := 159) hx hb dX11_beginHour_130 (by decide) (fun c_76 => ?_) (fun c_76 => ?_)
                  · skip
                    have c_76 : mmoreMany ≤ j_72 := (ni_le rfl rfl (by omega) (by omega)).mp c_76
                    refine lv_iconst (v := 0) hx hb dX11_beginHour_159 (by decide) ?_
                    refine lv_istore_n (lv' := [(2, .int 0), (0, .ref (n 0)), (1, .int p0)]) hx hb dX11_beginHour_160 rfl hl (by decide) rfl (fun ls hl => ?_)
                    have lp_99 : ∀ (nn j_95 : Nat) (x_96 : Int32) (x_97 : Int32) (x_98 : Int32) (H : Heap) (locs : List Loc) (ls : Array Slot), j_95 ≤ wn fworld 6 → wn fworld 6 - j_95 < nn → va_P D vwCl [((n 0), .inr (11, [.int mthrown, .ref (n 1), .ref (n 2), .ref (n 3), .ref (n 4), .int (nI mtaped), .ref (n 5), .int (nI msize), .int (nI mat), .int (nI mfrom), .int mtoken, .int mvalue, .int mfaultKind, .int mfaultPlace, .ref (n 6), .ref (n 7), .ref (n 8), .ref (n 9), .ref (n 10), .ref (n 11), .ref (n 12), .int (nI mmoreMany), .int mlawNow, .int mwetSet, .int moverAll, .ref (n 13), .ref (n 14), .ref (n 15), .int x_96, .int x_97, .int x_98, .ref (n 16), .ref (n 17), .int mroundNow, .ref (n 18), .long msampleFor, .long msampleAll, .ref (n 19), .int maskWorst, .long moftenAll, .long moftenView, .long moftenOnes, .ref (n 20), .ref (n 21), .ref (n 22), .ref (n 23)])), ((n 1), .inl (k 0, 99, .inl fworld)), ((n 11), .inl (k 0, 14, .inl fmoreHead)), ((n 12), .inl (k 0, 14, .inl fmoreView))] H → va_D A [((n 0), .inr (11, [.int mthrown, .ref (n 1), .ref (n 2), .ref (n 3), .ref (n 4), .int (nI mtaped), .ref (n 5), .int (nI msize), .int (nI mat), .int (nI mfrom), .int mtoken, .int mvalue, .int mfaultKind, .int mfaultPlace, .ref (n 6), .ref (n 7), .ref (n 8), .ref (n 9), .ref (n 10), .ref (n 11), .ref (n 12), .int (nI mmoreMany), .int mlawNow, .int mwetSet, .int moverAll, .ref (n 13), .ref (n 14), .ref (n 15), .int x_96, .int x_97, .int x_98, .ref (n 16), .ref (n 17), .int mroundNow, .ref (n 18), .long msampleFor, .long msampleAll, .ref (n 19), .int maskWorst, .long moftenAll, .long moftenView, .long moftenOnes, .ref (n 20), .ref (n 21), .ref (n 22), .ref (n 23)])), ((n 1), .inl (k 0, 99, .inl fworld)), ((n 11), .inl (k 0, 14, .inl fmoreHead)), ((n 12), .inl (k 0, 14, .inl fmoreView))] → va_S A s.heap H locs → lv_has ls 4 [(2, .int (nI j_95)), (0, .ref (n 0)), (1, .int p0)] → W p l e (Rm 2 0 0) s m args below meth c H locs 0 0 Q (F0 m 161 ls []) := by
                      intro nn
                      induction nn with
                      | zero => intro j_95 x_96 x_97 x_98 H locs ls hjj_95 hnj_95; exact absurd hnj_95 (by omega)
                      | succ nn ihj_95 =>
                        intro j_95 x_96 x_97 x_98 H locs ls hjj_95 hnj_95 hP hD hS hl
                        refine lv_iload_n hx hb dX11_beginHour_161 rfl (lv_at hl 0 rfl) ?_
                        refine lv_aload_n hx hb dX11_beginHour_162 rfl (lv_at hl 1 rfl) ?_
                        refine x_get S hK hP 0 rfl cfX11 1 lkX11_9 (by decide) rfl dX11_beginHour_163 ?_
                        refine lv_bipush (v := 6) hx hb dX11_beginHour_166 (by decide) ?_
                        refine x_iald S hK hP 1 rfl (vp_lit (by decide)) dX11_beginHour_168 ?_
                        refine x_is (nI (wn fworld 6)) ((cl_at (f := fworld) (a := 6) (by decide) (by omega)).trans (okW_at hkworld (i := 6) (by omega))) ?_
                        refine lv_icmp_ge (tgt := 210) hx hb dX11_beginHour_169 (by decide) (fun c_100 => ?_) (fun c_100 => ?_)
                        · skip
                          have c_100 : wn fworld 6 ≤ j_95 := (ni_le rfl rfl (by omega) (by omega)).mp c_100
                          refine lv_iconst (v := 0) hx hb dX11_beginHour_210 (by decide) ?_
                          refine lv_istore_n (lv' := [(2, .int 0), (0, .ref (n 0)), (1, .int p0)]) hx hb dX11_beginHour_211 rfl hl (by decide) rfl (fun ls hl => ?_)
                          have lp_127 : ∀ (nn j_123 : Nat) (x_124 : Int32) (x_125 : Int32) (x_126 : Int32) (H : Heap) (locs : List Loc) (ls : Array Slot), j_123 ≤ wn fworld 7 → wn fworld 7 - j_123 < nn → va_P D vwCl [((n 0), .inr (11, [.int mthrown, .ref (n 1), .ref (n 2), .ref (n 3), .ref (n 4), .int (nI mtaped), .ref (n 5), .int (nI msize), .int (nI mat), .int (nI mfrom), .int mtoken, .int mvalue, .int mfaultKind, .int mfaultPlace, .ref (n 6), .ref (n 7), .ref (n 8), .ref (n 9), .ref (n 10), .ref (n 11), .ref (n 12), .int (nI mmoreMany), .int mlawNow, .int mwetSet, .int moverAll, .ref (n 13), .ref (n 14), .ref (n 15), .int x_124, .int x_125, .int x_126, .ref (n 16), .ref (n 17), .int mroundNow, .ref (n 18), .long msampleFor, .long msampleAll, .ref (n 19), .int maskWorst, .long moftenAll, .long moftenView, .long moftenOnes, .ref (n 20), .ref (n 21), .ref (n 22), .ref (n 23)])), ((n 1), .inl (k 0, 99, .inl fworld)), ((n 11), .inl (k 0, 14, .inl fmoreHead)), ((n 12), .inl (k 0, 14, .inl fmoreView))] H → va_D A [((n 0), .inr (11, [.int mthrown, .ref (n 1), .ref (n 2), .ref (n 3), .ref (n 4), .int (nI mtaped), .ref (n 5), .int (nI msize), .int (nI mat), .int (nI mfrom), .int mtoken, .int mvalue, .int mfaultKind, .int mfaultPlace, .ref (n 6), .ref (n 7), .ref (n 8), .ref (n 9), .ref (n 10), .ref (n 11), .ref (n 12), .int (nI mmoreMany), .int mlawNow, .int mwetSet, .int moverAll, .ref (n 13), .ref (n 14), .ref (n 15), .int x_124, .int x_125, .int x_126, .ref (n 16), .ref (n 17), .int mroundNow, .ref (n 18), .long msampleFor, .long msampleAll, .ref (n 19), .int maskWorst, .long moftenAll, .long moftenView, .long moftenOnes, .ref (n 20), .ref (n 21), .ref (n 22), .ref (n 23)])), ((n 1), .inl (k 0, 99, .inl fworld)), ((n 11), .inl (k 0, 14, .inl fmoreHead)), ((n 12), .inl (k 0, 14, .inl fmoreView))] → va_S A s.heap H locs → lv_has ls 4 [(2, .int (nI j_123)), (0, .ref (n 0)), (1, .int p0)] → W p l e (Rm 2 0 0) s m args below meth c H locs 0 0 Q (F0 m 212 ls []) := by
                            intro nn
                            induction nn with
                            | zero => intro j_123 x_124 x_125 x_126 H locs ls hjj_123 hnj_123; exact absurd hnj_123 (by omega)
                            | succ nn ihj_123 =>
                              intro j_123 x_124 x_125 x_126 H locs ls hjj_123 hnj_123 hP hD hS hl
                              refine lv_iload_n hx hb dX11_beginHour_212 rfl (lv_at hl 0 rfl) ?_
                              refine lv_aload_n hx hb dX11_beginHour_213 rfl (lv_at hl 1 rfl) ?_
                              refine x_get S hK hP 0 rfl cfX11 1 lkX11_9 (by decide) rfl dX11_beginHour_214 ?_
                              refine lv_bipush (v := 7) hx hb dX11_beginHour_217 (by decide) ?_
                              refine x_iald S hK hP 1 rfl (vp_lit (by decide)) dX11_beginHour_219 ?_
                              refine x_is (nI (wn fworld 7)) ((cl_at (f := fworld) (a := 7) (by decide) (by omega)).trans (okW_at hkworld (i := 7) (by omega))) ?_
                              refine lv_icmp_ge (tgt := 262) hx hb dX11_beginHour_220 (by decide) (fun c_128 => ?_) (fun c_128 => ?_)
                              · skip
                                have c_128 : wn fworld 7 ≤ j_123 := (ni_le rfl rfl (by omega) (by omega)).mp c_128
                                exact x_retv S hr hlk hQ hS ((fun i => ([x_124, x_125, x_126] : List (Int32)).getD i 0), (fun i => ([] : List (Nat)).getD i 0), (fun i => ([] : List (Nat → Int32)).getD i (fun _ => 0)), (fun i => ([] : List (Nat → Int64)).getD i (fun _ => 0)), (fun i => ([] : List (Int64)).getD i 0)) trivial (x_B hP hD) dX11_beginHour_262
                              · skip
                                have c_128 : ¬ wn fworld 7 ≤ j_123 := fun q => c_128 ((ni_le rfl rfl (by omega) (by omega)).mpr q)
                                refine lv_aload_n hx hb dX11_beginHour_223 rfl (lv_at hl 1 rfl) ?_
                                refine x_get S hK hP 0 rfl cfX11 1 lkX11_9 (by decide) rfl dX11_beginHour_224 ?_
                                refine lv_bipush (v := 69) hx hb dX11_beginHour_227 (by decide) ?_
                                refine lv_iload_n hx hb dX11_beginHour_229 rfl (lv_at hl 0 rfl) ?_
                                refine lv_iadd hx hb dX11_beginHour_230 ?_
                                refine x_is (nI (69 + j_123)) (ni_add (by decide) rfl) ?_
                                refine x_iald S hK hP 1 rfl (vp_in_nI (by omega) (by decide)) dX11_beginHour_231 ?_
                                refine lv_topi (fun v_129 ev_129 => ?_)
                                refine lv_istore_n (lv' := [(3, .int v_129), (2, .int (nI j_123)), (0, .ref (n 0)), (1, .int p0)]) hx hb dX11_beginHour_232 rfl hl (by decide) rfl (fun ls hl => ?_)
                                refine lv_iload_n hx hb dX11_beginHour_233 rfl (lv_at hl 0 rfl) ?_
                                refine lv_sipush (v := 10000) hx hb dX11_beginHour_234 (by decide) ?_
                                refine lv_icmp_ge (tgt := 256) hx hb dX11_beginHour_237 (by decide) (fun c_130 => ?_) (fun c_130 => ?_)
                                · skip
                                  refine lv_iinc (v := (nI (j_123 + 1))) (lv' := [(2, .int (nI (j_123 + 1))), (3, .int v_129), (0, .ref (n 0)), (1, .int p0)]) hx hb dX11_beginHour_256 hl (k := 1) rfl (ni_inc _) (by decide) rfl (fun ls hl => ?_)
                                  refine lv_goto (tgt := 212) hx hb dX11_beginHour_259 (by decide) ?_
                                  exact ihj_123 (j_123 + 1) x_124 x_125 x_126 _ _ _ (by omega) (by omega) hP hD hS (lv_sub hl [0, 2, 3] rfl)
                                · skip
                                  refine lv_iload_n hx hb dX11_beginHour_240 rfl (lv_at hl 0 rfl) ?_
                                  refine lv_bipush (v := 100) hx hb dX11_beginHour_241 (by decide) ?_
                                  refine lv_irem hx hb dX11_beginHour_243 (by decide) ?_
                                  refine lv_topi (fun v_131 ev_131 => ?_)
                                  refine lv_iload_n hx hb dX11_beginHour_244 rfl (lv_at hl 3 rfl) ?_
                                  refine lv_icmp_ne (tgt := 256) hx hb dX11_beginHour_245 (by decide) (fun c_132 => ?_) (fun c_132 => ?_)
                                  · skip
                                    refine lv_iinc (v := (nI (j_123 + 1))) (lv' := [(2, .int (nI (j_123 + 1))), (3, .int v_129), (0, .ref (n 0)), (1, .int p0)]) hx hb dX11_beginHour_256 hl (k := 1) rfl (ni_inc _) (by decide) rfl (fun ls hl => ?_)
                                    refine lv_goto (tgt := 212) hx hb dX11_beginHour_259 (by decide) ?_
                                    exact ihj_123 (j_123 + 1) x_124 x_125 x_126 _ _ _ (by omega) (by omega) hP hD hS (lv_sub hl [0, 2, 3] rfl)
                                  · skip
                                    refine lv_aload_n hx hb dX11_beginHour_248 rfl (lv_at hl 2 rfl) ?_
                                    refine lv_iload_n hx hb dX11_beginHour_249 rfl (lv_at hl 0 rfl) ?_
                                    refine lv_bipush (v := 100) hx hb dX11_beginHour_250 (by decide) ?_
                                    refine lv_idiv hx hb dX11_beginHour_252 (by decide) ?_
                                    refine lv_topi (fun v_133 ev_133 => ?_)
                                    refine x_muVv (wr := [((n 1), .inl (k 0, 99, .inl fworld)), ((n 11), .inl (k 0, 14, .inl fmoreHead)), ((n 12), .inl (k 0, 14, .inl fmoreView))]) (As := [.int v_133]) S hK hP hD hZ hS hA hl mwX11_isEaten lkX11_293 (ctX11_isEaten l D k z n mthrown mtaped msize mat mfrom mtoken mvalue mfaultKind mfaultPlace mmoreMany mlawNow mwetSet moverAll x_124 x_125 x_126 mroundNow msampleFor msampleAll maskWorst moftenAll moftenView moftenOnes v_133 (by omega) (by omega) (by omega) (by omega) (by omega)) [0] [1, 2, 3] rfl rfl (by decide) (by decide) (by decide) rfl rfl rfl rfl rfl ⟨Nat.le_of_ble_eq_true rfl, Nat.le_of_ble_eq_true rfl, Nat.le_of_ble_eq_true rfl⟩ dX11_beginHour_253 ⟨Nat.le_of_ble_eq_true rfl, Nat.le_of_ble_eq_true rfl⟩ (fun u_135 H locs hr_134 hP hD hS => ?_)
                                    have hP : va_P D vwCl [((n 0), .inr (11, [.int mthrown, .ref (n 1), .ref (n 2), .ref (n 3), .ref (n 4), .int (nI mtaped), .ref (n 5), .int (nI msize), .int (nI mat), .int (nI mfrom), .int mtoken, .int mvalue, .int mfaultKind, .int mfaultPlace, .ref (n 6), .ref (n 7), .ref (n 8), .ref (n 9), .ref (n 10), .ref (n 11), .ref (n 12), .int (nI mmoreMany), .int mlawNow, .int mwetSet, .int moverAll, .ref (n 13), .ref (n 14), .ref (n 15), .int (u_135.1 0), .int (u_135.1 1), .int (u_135.1 2), .ref (n 16), .ref (n 17), .int mroundNow, .ref (n 18), .long msampleFor, .long msampleAll, .ref (n 19), .int maskWorst, .long moftenAll, .long moftenView, .long moftenOnes, .ref (n 20), .ref (n 21), .ref (n 22), .ref (n 23)])), ((n 1), .inl (k 0, 99, .inl fworld)), ((n 11), .inl (k 0, 14, .inl fmoreHead)), ((n 12), .inl (k 0, 14, .inl fmoreView))] H := hP.sub [3, 0, 1, 2] rfl
                                    have hD : va_D A [((n 0), .inr (11, [.int mthrown, .ref (n 1), .ref (n 2), .ref (n 3), .ref (n 4), .int (nI mtaped), .ref (n 5), .int (nI msize), .int (nI mat), .int (nI mfrom), .int mtoken, .int mvalue, .int mfaultKind, .int mfaultPlace, .ref (n 6), .ref (n 7), .ref (n 8), .ref (n 9), .ref (n 10), .ref (n 11), .ref (n 12), .int (nI mmoreMany), .int mlawNow, .int mwetSet, .int moverAll, .ref (n 13), .ref (n 14), .ref (n 15), .int (u_135.1 0), .int (u_135.1 1), .int (u_135.1 2), .ref (n 16), .ref (n 17), .int mroundNow, .ref (n 18), .long msampleFor, .long msampleAll, .ref (n 19), .int maskWorst, .long moftenAll, .long moftenView, .long moftenOnes, .ref (n 20), .ref (n 21), .ref (n 22), .ref (n 23)])), ((n 1), .inl (k 0, 99, .inl fworld)), ((n 11), .inl (k 0, 14, .inl fmoreHead)), ((n 12), .inl (k 0, 14, .inl fmoreView))] := hD.sub [3, 0, 1, 2] (by decide) rfl
                                    refine lv_iinc (v := (nI (j_123 + 1))) (lv' := [(2, .int (nI (j_123 + 1))), (3, .int v_129), (0, .ref (n 0)), (1, .int p0)]) hx hb dX11_beginHour_256 hl (k := 1) rfl (ni_inc _) (by decide) rfl (fun ls hl => ?_)
                                    refine lv_goto (tgt := 212) hx hb dX11_beginHour_259 (by decide) ?_
                                    exact ihj_123 (j_123 + 1) (u_135.1 0) (u_135.1 1) (u_135.1 2) _ _ _ (by omega) (by omega) hP hD hS (lv_sub hl [0, 2, 3] rfl)
                          exact lp_127 (wn fworld 7 + 1) 0 x_96 x_97 x_98 _ _ _ (by omega) (by omega) hP hD hS (lv_sub hl [0, 1, 2] rfl)
                        · skip
                          have c_100 : ¬ wn fworld 6 ≤ j_95 := fun q => c_100 ((ni_le rfl rfl (by omega) (by omega)).mpr q)
                          refine lv_aload_n hx hb dX11_beginHour_172 rfl (lv_at hl 1 rfl) ?_
                          refine x_get S hK hP 0 rfl cfX11 1 lkX11_9 (by decide) rfl dX11_beginHour_173 ?_
                          refine lv_bipush (v := 61) hx hb dX11_beginHour_176 (by decide) ?_
                          refine lv_iconst (v := 2) hx hb dX11_beginHour_178 (by decide) ?_
                          refine lv_iload_n hx hb dX11_beginHour_179 rfl (lv_at hl 0 rfl) ?_
                          refine lv_imul hx hb dX11_beginHour_180 ?_
                          refine x_is (nI (2 * j_95)) (ni_mul (by decide) rfl) ?_
                          refine lv_iadd hx hb dX11_beginHour_181 ?_
                          refine x_is (nI (61 + 2 * j_95)) (ni_add (by decide) rfl) ?_
                          refine lv_iconst (v := 1) hx hb dX11_beginHour_182 (by decide) ?_
                          refine lv_iadd hx hb dX11_beginHour_183 ?_
                          refine x_is (nI (61 + 2 * j_95 + 1)) (ni_add rfl (by decide)) ?_
                          refine x_iald S hK hP 1 rfl (vp_in_nI (by omega) (by decide)) dX11_beginHour_184 ?_
                          refine lv_topi (fun v_136 ev_136 => ?_)
                          refine lv_iload_n hx hb dX11_beginHour_185 rfl (lv_at hl 2 rfl) ?_
                          refine lv_icmp_ne (tgt := 204) hx hb dX11_beginHour_186 (by decide) (fun c_137 => ?_) (fun c_137 => ?_)
                          · skip
                            refine lv_iinc (v := (nI (j_95 + 1))) (lv' := [(2, .int (nI (j_95 + 1))), (0, .ref (n 0)), (1, .int p0)]) hx hb dX11_beginHour_204 hl (k := 0) rfl (ni_inc _) (by decide) rfl (fun ls hl => ?_)
                            refine lv_goto (tgt := 161) hx hb dX11_beginHour_207 (by decide) ?_
                            exact ihj_95 (j_95 + 1) x_96 x_97 x_98 _ _ _ (by omega) (by omega) hP hD hS (lv_sub hl [0, 1, 2] rfl)
                          · skip
                            refine lv_aload_n hx hb dX11_beginHour_189 rfl (lv_at hl 1 rfl) ?_
                            refine lv_aload_n hx hb dX11_beginHour_190 rfl (lv_at hl 1 rfl) ?_
                            refine x_get S hK hP 0 rfl cfX11 1 lkX11_9 (by decide) rfl dX11_beginHour_191 ?_
                            refine lv_bipush (v := 61) hx hb dX11_beginHour_194 (by decide) ?_
                            refine lv_iconst (v := 2) hx hb dX11_beginHour_196 (by decide) ?_
                            refine lv_iload_n hx hb dX11_beginHour_197 rfl (lv_at hl 0 rfl) ?_
                            refine lv_imul hx hb dX11_beginHour_198 ?_
                            refine x_is (nI (2 * j_95)) (ni_mul (by decide) rfl) ?_
                            refine lv_iadd hx hb dX11_beginHour_199 ?_
                            refine x_is (nI (61 + 2 * j_95)) (ni_add (by decide) rfl) ?_
                            refine x_iald S hK hP 1 rfl (vp_in_nI (by omega) (by decide)) dX11_beginHour_200 ?_
                            refine lv_topi (fun v_138 ev_138 => ?_)
                            refine x_muVv (wr := [((n 1), .inl (k 0, 99, .inl fworld)), ((n 11), .inl (k 0, 14, .inl fmoreHead)), ((n 12), .inl (k 0, 14, .inl fmoreView))]) (As := [.int v_138]) S hK hP hD hZ hS hA hl mwX11_isEaten lkX11_293 (ctX11_isEaten l D k z n mthrown mtaped msize mat mfrom mtoken mvalue mfaultKind mfaultPlace mmoreMany mlawNow mwetSet moverAll x_96 x_97 x_98 mroundNow msampleFor msampleAll maskWorst moftenAll moftenView moftenOnes v_138 (by omega) (by omega) (by omega) (by omega) (by omega)) [0] [1, 2, 3] rfl rfl (by decide) (by decide) (by decide) rfl rfl rfl rfl rfl ⟨Nat.le_of_ble_eq_true rfl, Nat.le_of_ble_eq_true rfl, Nat.le_of_ble_eq_true rfl⟩ dX11_beginHour_201 ⟨Nat.le_of_ble_eq_true rfl, Nat.le_of_ble_eq_true rfl⟩ (fun u_140 H locs hr_139 hP hD hS => ?_)
                            have hP : va_P D vwCl [((n 0), .inr (11, [.int mthrown, .ref (n 1), .ref (n 2), .ref (n 3), .ref (n 4), .int (nI mtaped), .ref (n 5), .int (nI msize), .int (nI mat), .int (nI mfrom), .int mtoken, .int mvalue, .int mfaultKind, .int mfaultPlace, .ref (n 6), .ref (n 7), .ref (n 8), .ref (n 9), .ref (n 10), .ref (n 11), .ref (n 12), .int (nI mmoreMany), .int mlawNow, .int mwetSet, .int moverAll, .ref (n 13), .ref (n 14), .ref (n 15), .int (u_140.1 0), .int (u_140.1 1), .int (u_140.1 2), .ref (n 16), .ref (n 17), .int mroundNow, .ref (n 18), .long msampleFor, .long msampleAll, .ref (n 19), .int maskWorst, .long moftenAll, .long moftenView, .long moftenOnes, .ref (n 20), .ref (n 21), .ref (n 22), .ref (n 23)])), ((n 1), .inl (k 0, 99, .inl fworld)), ((n 11), .inl (k 0, 14, .inl fmoreHead)), ((n 12), .inl (k 0, 14, .inl fmoreView))] H := hP.sub [3, 0, 1, 2] rfl
                            have hD : va_D A [((n 0), .inr (11, [.int mthrown, .ref (n 1), .ref (n 2), .ref (n 3), .ref (n 4), .int (nI mtaped), .ref (n 5), .int (nI msize), .int (nI mat), .int (nI mfrom), .int mtoken, .int mvalue, .int mfaultKind, .int mfaultPlace, .ref (n 6), .ref (n 7), .ref (n 8), .ref (n 9), .ref (n 10), .ref (n 11), .ref (n 12), .int (nI mmoreMany), .int mlawNow, .int mwetSet, .int moverAll, .ref (n 13), .ref (n 14), .ref (n 15), .int (u_140.1 0), .int (u_140.1 1), .int (u_140.1 2), .ref (n 16), .ref (n 17), .int mroundNow, .ref (n 18), .long msampleFor, .long msampleAll, .ref (n 19), .int maskWorst, .long moftenAll, .long moftenView, .long moftenOnes, .ref (n 20), .ref (n 21), .ref (n 22), .ref (n 23)])), ((n 1), .inl (k 0, 99, .inl fworld)), ((n 11), .inl (k 0, 14, .inl fmoreHead)), ((n 12), .inl (k 0, 14, .inl fmoreView))] := hD.sub [3, 0, 1, 2] (by decide) rfl
                            refine lv_iinc (v := (nI (j_95 + 1))) (lv' := [(2, .int (nI (j_95 + 1))), (0, .ref (n 0)), (1, .int p0)]) hx hb dX11_beginHour_204 hl (k := 0) rfl (ni_inc _) (by decide) rfl (fun ls hl => ?_)
                            refine lv_goto (tgt := 161) hx hb dX11_beginHour_207 (by decide) ?_
                            exact ihj_95 (j_95 + 1) (u_140.1 0) (u_140.1 1) (u_140.1 2) _ _ _ (by omega) (by omega) hP hD hS (lv_sub hl [0, 1, 2] rfl)
                    exact lp_99 (wn fworld 6 + 1) 0 x_73 x_74 mgone _ _ _ (by omega) (by omega) hP hD hS (lv_sub hl [0, 1, 2] rfl)
                  · skip
                    have c_76 : ¬ mmoreMany ≤ j_72 := fun q => c_76 ((ni_le rfl rfl (by omega) (by omega)).mpr q)
                    refine lv_iload_n hx hb dX11_beginHour_133 rfl (lv_at hl 2 rfl) ?_
                    refine lv_if_ne (tgt := 159) hx hb dX11_beginHour_134 (by decide) (fun c_141 => ?_) (fun c_141 => ?_)
                    · skip
                      refine lv_iconst (v := 0) hx hb dX11_beginHour_159 (by decide) ?_
                      refine lv_istore_n (lv' := [(2, .int 0), (0, .ref (n 0)), (1, .int p0)]) hx hb dX11_beginHour_160 rfl hl (by decide) rfl (fun ls hl => ?_)
                      have lp_160 : ∀ (nn j_156 : Nat) (x_157 : Int32) (x_158 : Int32) (x_159 : Int32) (H : Heap) (locs : List Loc) (ls : Array Slot), j_156 ≤ wn fworld 6 → wn fworld 6 - j_156 < nn → va_P D vwCl [((n 0), .inr (11, [.int mthrown, .ref (n 1), .ref (n 2), .ref (n 3), .ref (n 4), .int (nI mtaped), .ref (n 5), .int (nI msize), .int (nI mat), .int (nI mfrom), .int mtoken, .int mvalue, .int mfaultKind, .int mfaultPlace, .ref (n 6), .ref (n 7), .ref (n 8), .ref (n 9), .ref (n 10), .ref (n 11), .ref (n 12), .int (nI mmoreMany), .int mlawNow, .int mwetSet, .int moverAll, .ref (n 13), .ref (n 14), .ref (n 15), .int x_157, .int x_158, .int x_159, .ref (n 16), .ref (n 17), .int mroundNow, .ref (n 18), .long msampleFor, .long msampleAll, .ref (n 19), .int maskWorst, .long moftenAll, .long moftenView, .long moftenOnes, .ref (n 20), .ref (n 21), .ref (n 22), .ref (n 23)])), ((n 1), .inl (k 0, 99, .inl fworld)), ((n 11), .inl (k 0, 14, .inl fmoreHead)), ((n 12), .inl (k 0, 14, .inl fmoreView))] H → va_D A [((n 0), .inr (11, [.int mthrown, .ref (n 1), .ref (n 2), .ref (n 3), .ref (n 4), .int (nI mtaped), .ref (n 5), .int (nI msize), .int (nI mat), .int (nI mfrom), .int mtoken, .int mvalue, .int mfaultKind, .int mfaultPlace, .ref (n 6), .ref (n 7), .ref (n 8), .ref (n 9), .ref (n 10), .ref (n 11), .ref (n 12), .int (nI mmoreMany), .int mlawNow, .int mwetSet, .int moverAll, .ref (n 13), .ref (n 14), .ref (n 15), .int x_157, .int x_158, .int x_159, .ref (n 16), .ref (n 17), .int mroundNow, .ref (n 18), .long msampleFor, .long msampleAll, .ref (n 19), .int maskWorst, .long moftenAll, .long moftenView, .long moftenOnes, .ref (n 20), .ref (n 21), .ref (n 22), .ref (n 23)])), ((n 1), .inl (k 0, 99, .inl fworld)), ((n 11), .inl (k 0, 14, .inl fmoreHead)), ((n 12), .inl (k 0, 14, .inl fmoreView))] → va_S A s.heap H locs → lv_has ls 4 [(2, .int (nI j_156)), (0, .ref (n 0)), (1, .int p0)] → W p l e (Rm 2 0 0) s m args below meth c H locs 0 0 Q (F0 m 161 ls []) := by
                        intro nn
                        induction nn with
                        | zero => intro j_156 x_157 x_158 x_159 H locs ls hjj_156 hnj_156; exact absurd hnj_156 (by omega)
                        | succ nn ihj_156 =>
                          intro j_156 x_157 x_158 x_159 H locs ls hjj_156 hnj_156 hP hD hS hl
                          refine lv_iload_n hx hb dX11_beginHour_161 rfl (lv_at hl 0 rfl) ?_
                          refine lv_aload_n hx hb dX11_beginHour_162 rfl (lv_at hl 1 rfl) ?_
                          refine x_get S hK hP 0 rfl cfX11 1 lkX11_9 (by decide) rfl dX11_beginHour_163 ?_
                          refine lv_bipush (v := 6) hx hb dX11_beginHour_166 (by decide) ?_
                          refine x_iald S hK hP 1 rfl (vp_lit (by decide)) dX11_beginHour_168 ?_
                          refine x_is (nI (wn fworld 6)) ((cl_at (f := fworld) (a := 6) (by decide) (by omega)).trans (okW_at hkworld (i := 6) (by omega))) ?_
                          refine lv_icmp_ge (tgt := 210) hx hb dX11_beginHour_169 (by decide) (fun c_161 => ?_) (fun c_161 => ?_)
                          · skip
                            have c_161 : wn fworld 6 ≤ j_156 := (ni_le rfl rfl (by omega) (by omega)).mp c_161
                            refine lv_iconst (v := 0) hx hb dX11_beginHour_210 (by decide) ?_
                            refine lv_istore_n (lv' := [(2, .int 0), (0, .ref (n 0)), (1, .int p0)]) hx hb dX11_beginHour_211 rfl hl (by decide) rfl (fun ls hl => ?_)
                            have lp_182 : ∀ (nn j_178 : Nat) (x_179 : Int32) (x_180 : Int32) (x_181 : Int32) (H : Heap) (locs : List Loc) (ls : Array Slot), j_178 ≤ wn fworld 7 → wn fworld 7 - j_178 < nn → va_P D vwCl [((n 0), .inr (11, [.int mthrown, .ref (n 1), .ref (n 2), .ref (n 3), .ref (n 4), .int (nI mtaped), .ref (n 5), .int (nI msize), .int (nI mat), .int (nI mfrom), .int mtoken, .int mvalue, .int mfaultKind, .int mfaultPlace, .ref (n 6), .ref (n 7), .ref (n 8), .ref (n 9), .ref (n 10), .ref (n 11), .ref (n 12), .int (nI mmoreMany), .int mlawNow, .int mwetSet, .int moverAll, .ref (n 13), .ref (n 14), .ref (n 15), .int x_179, .int x_180, .int x_181, .ref (n 16), .ref (n 17), .int mroundNow, .ref (n 18), .long msampleFor, .long msampleAll, .ref (n 19), .int maskWorst, .long moftenAll, .long moftenView, .long moftenOnes, .ref (n 20), .ref (n 21), .ref (n 22), .ref (n 23)])), ((n 1), .inl (k 0, 99, .inl fworld)), ((n 11), .inl (k 0, 14, .inl fmoreHead)), ((n 12), .inl (k 0, 14, .inl fmoreView))] H → va_D A [((n 0), .inr (11, [.int mthrown, .ref (n 1), .ref (n 2), .ref (n 3), .ref (n 4), .int (nI mtaped), .ref (n 5), .int (nI msize), .int (nI mat), .int (nI mfrom), .int mtoken, .int mvalue, .int mfaultKind, .int mfaultPlace, .ref (n 6), .ref (n 7), .ref (n 8), .ref (n 9), .ref (n 10), .ref (n 11), .ref (n 12), .int (nI mmoreMany), .int mlawNow, .int mwetSet, .int moverAll, .ref (n 13), .ref (n 14), .ref (n 15), .int x_179, .int x_180, .int x_181, .ref (n 16), .ref (n 17), .int mroundNow, .ref (n 18), .long msampleFor, .long msampleAll, .ref (n 19), .int maskWorst, .long moftenAll, .long moftenView, .long moftenOnes, .ref (n 20), .ref (n 21), .ref (n 22), .ref (n 23)])), ((n 1), .inl (k 0, 99, .inl fworld)), ((n 11), .inl (k 0, 14, .inl fmoreHead)), ((n 12), .inl (k 0, 14, .inl fmoreView))] → va_S A s.heap H locs → lv_has ls 4 [(2, .int (nI j_178)), (0, .ref (n 0)), (1, .int p0)] → W p l e (Rm 2 0 0) s m args below meth c H locs 0 0 Q (F0 m 212 ls []) := by
                              intro nn
                              induction nn with
                              | zero => intro j_178 x_179 x_180 x_181 H locs ls hjj_178 hnj_178; exact absurd hnj_178 (by omega)
                              | succ nn ihj_178 =>
                                intro j_178 x_179 x_180 x_181 H locs ls hjj_178 hnj_178 hP hD hS hl
                                refine lv_iload_n hx hb dX11_beginHour_212 rfl (lv_at hl 0 rfl) ?_
                                refine lv_aload_n hx hb dX11_beginHour_213 rfl (lv_at hl 1 rfl) ?_
                                refine x_get S hK hP 0 rfl cfX11 1 lkX11_9 (by decide) rfl dX11_beginHour_214 ?_
                                refine lv_bipush (v := 7) hx hb dX11_beginHour_217 (by decide) ?_
                                refine x_iald S hK hP 1 rfl (vp_lit (by decide)) dX11_beginHour_219 ?_
                                refine x_is (nI (wn fworld 7)) ((cl_at (f := fworld) (a := 7) (by decide) (by omega)).trans (okW_at hkworld (i := 7) (by omega))) ?_
                                refine lv_icmp_ge (tgt := 262) hx hb dX11_beginHour_220 (by decide) (fun c_183 => ?_) (fun c_183 => ?_)
                                · skip
                                  have c_183 : wn fworld 7 ≤ j_178 := (ni_le rfl rfl (by omega) (by omega)).mp c_183
                                  exact x_retv S hr hlk hQ hS ((fun i => ([x_179, x_180, x_181] : List (Int32)).getD i 0), (fun i => ([] : List (Nat)).getD i 0), (fun i => ([] : List (Nat → Int32)).getD i (fun _ => 0)), (fun i => ([] : List (Nat → Int64)).getD i (fun _ => 0)), (fun i => ([] : List (Int64)).getD i 0)) trivial (x_B hP hD) dX11_beginHour_262
                                · skip
                                  have c_183 : ¬ wn fworld 7 ≤ j_178 := fun q => c_183 ((ni_le rfl rfl (by omega) (by omega)).mpr q)
                                  refine lv_aload_n hx hb dX11_beginHour_223 rfl (lv_at hl 1 rfl) ?_
                                  refine x_get S hK hP 0 rfl cfX11 1 lkX11_9 (by decide) rfl dX11_beginHour_224 ?_
                                  refine lv_bipush (v := 69) hx hb dX11_beginHour_227 (by decide) ?_
                                  refine lv_iload_n hx hb dX11_beginHour_229 rfl (lv_at hl 0 rfl) ?_
                                  refine lv_iadd hx hb dX11_beginHour_230 ?_
                                  refine x_is (nI (69 + j_178)) (ni_add (by decide) rfl) ?_
                                  refine x_iald S hK hP 1 rfl (vp_in_nI (by omega) (by decide)) dX11_beginHour_231 ?_
                                  refine lv_topi (fun v_184 ev_184 => ?_)
                                  refine lv_istore_n (lv' := [(3, .int v_184), (2, .int (nI j_178)), (0, .ref (n 0)), (1, .int p0)]) hx hb dX11_beginHour_232 rfl hl (by decide) rfl (fun ls hl => ?_)
                                  refine lv_iload_n hx hb dX11_beginHour_233 rfl (lv_at hl 0 rfl) ?_
                                  refine lv_sipush (v := 10000) hx hb dX11_beginHour_234 (by decide) ?_
                                  refine lv_icmp_ge (tgt := 256) hx hb dX11_beginHour_237 (by decide) (fun c_185 => ?_) (fun c_185 => ?_)
                                  · skip
                                    refine lv_iinc (v := (nI (j_178 + 1))) (lv' := [(2, .int (nI (j_178 + 1))), (3, .int v_184), (0, .ref (n 0)), (1, .int p0)]) hx hb dX11_beginHour_256 hl (k := 1) rfl (ni_inc _) (by decide) rfl (fun ls hl => ?_)
                                    refine lv_goto (tgt := 212) hx hb dX11_beginHour_259 (by decide) ?_
                                    exact ihj_178 (j_178 + 1) x_179 x_180 x_181 _ _ _ (by omega) (by omega) hP hD hS (lv_sub hl [0, 2, 3] rfl)
                                  · skip
                                    refine lv_iload_n hx hb dX11_beginHour_240 rfl (lv_at hl 0 rfl) ?_
                                    refine lv_bipush (v := 100) hx hb dX11_beginHour_241 (by decide) ?_
                                    refine lv_irem hx hb dX11_beginHour_243 (by decide) ?_
                                    refine lv_topi (fun v_186 ev_186 => ?_)
                                    refine lv_iload_n hx hb dX11_beginHour_244 rfl (lv_at hl 3 rfl) ?_
                                    refine lv_icmp_ne (tgt := 256) hx hb dX11_beginHour_245 (by decide) (fun c_187 => ?_) (fun c_187 => ?_)
                                    · skip
                                      refine lv_iinc (v := (nI (j_178 + 1))) (lv' := [(2, .int (nI (j_178 + 1))), (3, .int v_184), (0, .ref (n 0)), (1, .int p0)]) hx hb dX11_beginHour_256 hl (k := 1) rfl (ni_inc _) (by decide) rfl (fun ls hl => ?_)
                                      refine lv_goto (tgt := 212) hx hb dX11_beginHour_259 (by decide) ?_
                                      exact ihj_178 (j_178 + 1) x_179 x_180 x_181 _ _ _ (by omega) (by omega) hP hD hS (lv_sub hl [0, 2, 3] rfl)
                                    · skip
                                      refine lv_aload_n hx hb dX11_beginHour_248 rfl (lv_at hl 2 rfl) ?_
                                      refine lv_iload_n hx hb dX11_beginHour_249 rfl (lv_at hl 0 rfl) ?_
                                      refine lv_bipush (v := 100) hx hb dX11_beginHour_250 (by decide) ?_
                                      refine lv_idiv hx hb dX11_beginHour_252 (by decide) ?_
                                      refine lv_topi (fun v_188 ev_188 => ?_)
                                      refine x_muVv (wr := [((n 1), .inl (k 0, 99, .inl fworld)), ((n 11), .inl (k 0, 14, .inl fmoreHead)), ((n 12), .inl (k 0, 14, .inl fmoreView))]) (As := [.int v_188]) S hK hP hD hZ hS hA hl mwX11_isEaten lkX11_293 (ctX11_isEaten l D k z n mthrown mtaped msize mat mfrom mtoken mvalue mfaultKind mfaultPlace mmoreMany mlawNow mwetSet moverAll x_179 x_180 x_181 mroundNow msampleFor msampleAll maskWorst moftenAll moftenView moftenOnes v_188 (by omega) (by omega) (by omega) (by omega) (by omega)) [0] [1, 2, 3] rfl rfl (by decide) (by decide) (by decide) rfl rfl rfl rfl rfl ⟨Nat.le_of_ble_eq_true rfl, Nat.le_of_ble_eq_true rfl, Nat.le_of_ble_eq_true rfl⟩ dX11_beginHour_253 ⟨Nat.le_of_ble_eq_true rfl, Nat.le_of_ble_eq_true rfl⟩ (fun u_190 H locs hr_189 hP hD hS => ?_)
                                      have hP : va_P D vwCl [((n 0), .inr (11, [.int mthrown, .ref (n 1), .ref (n 2), .ref (n 3), .ref (n 4), .int (nI mtaped), .ref (n 5), .int (nI msize), .int (nI mat), .int (nI mfrom), .int mtoken, .int mvalue, .int mfaultKind, .int mfaultPlace, .ref (n 6), .ref (n 7), .ref (n 8), .ref (n 9), .ref (n 10), .ref (n 11), .ref (n 12), .int (nI mmoreMany), .int mlawNow, .int mwetSet, .int moverAll, .ref (n 13), .ref (n 14), .ref (n 15), .int (u_190.1 0), .int (u_190.1 1), .int (u_190.1 2), .ref (n 16), .ref (n 17), .int mroundNow, .ref (n 18), .long msampleFor, .long msampleAll, .ref (n 19), .int maskWorst, .long moftenAll, .long moftenView, .long moftenOnes, .ref (n 20), .ref (n 21), .ref (n 22), .ref (n 23)])), ((n 1), .inl (k 0, 99, .inl fworld)), ((n 11), .inl (k 0, 14, .inl fmoreHead)), ((n 12), .inl (k 0, 14, .inl fmoreView))] H := hP.sub [3, 0, 1, 2] rfl
                                      have hD : va_D A [((n 0), .inr (11, [.int mthrown, .ref (n 1), .ref (n 2), .ref (n 3), .ref (n 4), .int (nI mtaped), .ref (n 5), .int (nI msize), .int (nI mat), .int (nI mfrom), .int mtoken, .int mvalue, .int mfaultKind, .int mfaultPlace, .ref (n 6), .ref (n 7), .ref (n 8), .ref (n 9), .ref (n 10), .ref (n 11), .ref (n 12), .int (nI mmoreMany), .int mlawNow, .int mwetSet, .int moverAll, .ref (n 13), .ref (n 14), .ref (n 15), .int (u_190.1 0), .int (u_190.1 1), .int (u_190.1 2), .ref (n 16), .ref (n 17), .int mroundNow, .ref (n 18), .long msampleFor, .long msampleAll, .ref (n 19), .int maskWorst, .long moftenAll, .long moftenView, .long moftenOnes, .ref (n 20), .ref (n 21), .ref (n 22), .ref (n 23)])), ((n 1), .inl (k 0, 99, .inl fworld)), ((n 11), .inl (k 0, 14, .inl fmoreHead)), ((n 12), .inl (k 0, 14, .inl fmoreView))] := hD.sub [3, 0, 1, 2] (by decide) rfl
                                      refine lv_iinc (v := (nI (j_178 + 1))) (lv' := [(2, .int (nI (j_178 + 1))), (3, .int v_184), (0, .ref (n 0)), (1, .int p0)]) hx hb dX11_beginHour_256 hl (k := 1) rfl (ni_inc _) (by decide) rfl (fun ls hl => ?_)
                                      refine lv_goto (tgt := 212) hx hb dX11_beginHour_259 (by decide) ?_
                                      exact ihj_178 (j_178 + 1) (u_190.1 0) (u_190.1 1) (u_190.1 2) _ _ _ (by omega) (by omega) hP hD hS (lv_sub hl [0, 2, 3] rfl)
                            exact lp_182 (wn fworld 7 + 1) 0 x_157 x_158 x_159 _ _ _ (by omega) (by omega) hP hD hS (lv_sub hl [0, 1, 2] rfl)
                          · skip
                            have c_161 : ¬ wn fworld 6 ≤ j_156 := fun q => c_161 ((ni_le rfl rfl (by omega) (by omega)).mpr q)
                            refine lv_aload_n hx hb dX11_beginHour_172 rfl (lv_at hl 1 rfl) ?_
                            refine x_get S hK hP 0 rfl cfX11 1 lkX11_9 (by decide) rfl dX11_beginHour_173 ?_
                            refine lv_bipush (v := 61) hx hb dX11_beginHour_176 (by decide) ?_
                            refine lv_iconst (v := 2) hx hb dX11_beginHour_178 (by decide) ?_
                            refine lv_iload_n hx hb dX11_beginHour_179 rfl (lv_at hl 0 rfl) ?_
                            refine lv_imul hx hb dX11_beginHour_180 ?_
                            refine x_is (nI (2 * j_156)) (ni_mul (by decide) rfl) ?_
                            refine lv_iadd hx hb dX11_beginHour_181 ?_
                            refine x_is (nI (61 + 2 * j_156)) (ni_add (by decide) rfl) ?_
                            refine lv_iconst (v := 1) hx hb dX11_beginHour_182 (by decide) ?_
                            refine lv_iadd hx hb dX11_beginHour_183 ?_
                            refine x_is (nI (61 + 2 * j_156 + 1)) (ni_add rfl (by decide)) ?_
                            refine x_iald S hK hP 1 rfl (vp_in_nI (by omega) (by decide)) dX11_beginHour_184 ?_
                            refine lv_topi (fun v_191 ev_191 => ?_)
                            refine lv_iload_n hx hb dX11_beginHour_185 rfl (lv_at hl 2 rfl) ?_
                            refine lv_icmp_ne (tgt := 204) hx hb dX11_beginHour_186 (by decide) (fun c_192 => ?_) (fun c_192 => ?_)
                            · skip
                              refine lv_iinc (v := (nI (j_156 + 1))) (lv' := [(2, .int (nI (j_156 + 1))), (0, .ref (n 0)), (1, .int p0)]) hx hb dX11_beginHour_204 hl (k := 0) rfl (ni_inc _) (by decide) rfl (fun ls hl => ?_)
                              refine lv_goto (tgt := 161) hx hb dX11_beginHour_207 (by decide) ?_
                              exact ihj_156 (j_156 + 1) x_157 x_158 x_159 _ _ _ (by omega) (by omega) hP hD hS (lv_sub hl [0, 1, 2] rfl)
                            · skip
                              refine lv_aload_n hx hb dX11_beginHour_189 rfl (lv_at hl 1 rfl) ?_
                              refine lv_aload_n hx hb dX11_beginHour_190 rfl (lv_at hl 1 rfl) ?_
                              refine x_get S hK hP 0 rfl cfX11 1 lkX11_9 (by decide) rfl dX11_beginHour_191 ?_
                              refine lv_bipush (v := 61) hx hb dX11_beginHour_194 (by decide) ?_
                              refine lv_iconst (v := 2) hx hb dX11_beginHour_196 (by decide) ?_
                              refine lv_iload_n hx hb dX11_beginHour_197 rfl (lv_at hl 0 rfl) ?_
                              refine lv_imul hx hb dX11_beginHour_198 ?_
                              refine x_is (nI (2 * j_156)) (ni_mul (by decide) rfl) ?_
                              refine lv_iadd hx hb dX11_beginHour_199 ?_
                              refine x_is (nI (61 + 2 * j_156)) (ni_add (by decide) rfl) ?_
                              refine x_iald S hK hP 1 rfl (vp_in_nI (by omega) (by decide)) dX11_beginHour_200 ?_
                              refine lv_topi (fun v_193 ev_193 => ?_)
                              refine x_muVv (wr := [((n 1), .inl (k 0, 99, .inl fworld)), ((n 11), .inl (k 0, 14, .inl fmoreHead)), ((n 12), .inl (k 0, 14, .inl fmoreView))]) (As := [.int v_193]) S hK hP hD hZ hS hA hl mwX11_isEaten lkX11_293 (ctX11_isEaten l D k z n mthrown mtaped msize mat mfrom mtoken mvalue mfaultKind mfaultPlace mmoreMany mlawNow mwetSet moverAll x_157 x_158 x_159 mroundNow msampleFor msampleAll maskWorst moftenAll moftenView moftenOnes v_193 (by omega) (by omega) (by omega) (by omega) (by omega)) [0] [1, 2, 3] rfl rfl (by decide) (by decide) (by decide) rfl rfl rfl rfl rfl ⟨Nat.le_of_ble_eq_true rfl, Nat.le_of_ble_eq_true rfl, Nat.le_of_ble_eq_true rfl⟩ dX11_beginHour_201 ⟨Nat.le_of_ble_eq_true rfl, Nat.le_of_ble_eq_true rfl⟩ (fun u_195 H locs hr_194 hP hD hS => ?_)
                              have hP : va_P D vwCl [((n 0), .inr (11, [.int mthrown, .ref (n 1), .ref (n 2), .ref (n 3), .ref (n 4), .int (nI mtaped), .ref (n 5), .int (nI msize), .int (nI mat), .int (nI mfrom), .int mtoken, .int mvalue, .int mfaultKind, .int mfaultPlace, .ref (n 6), .ref (n 7), .ref (n 8), .ref (n 9), .ref (n 10), .ref (n 11), .ref (n 12), .int (nI mmoreMany), .int mlawNow, .int mwetSet, .int moverAll, .ref (n 13), .ref (n 14), .ref (n 15), .int (u_195.1 0), .int (u_195.1 1), .int (u_195.1 2), .ref (n 16), .ref (n 17), .int mroundNow, .ref (n 18), .long msampleFor, .long msampleAll, .ref (n 19), .int maskWorst, .long moftenAll, .long moftenView, .long moftenOnes, .ref (n 20), .ref (n 21), .ref (n 22), .ref (n 23)])), ((n 1), .inl (k 0, 99, .inl fworld)), ((n 11), .inl (k 0, 14, .inl fmoreHead)), ((n 12), .inl (k 0, 14, .inl fmoreView))] H := hP.sub [3, 0, 1, 2] rfl
                              have hD : va_D A [((n 0), .inr (11, [.int mthrown, .ref (n 1), .ref (n 2), .ref (n 3), .ref (n 4), .int (nI mtaped), .ref (n 5), .int (nI msize), .int (nI mat), .int (nI mfrom), .int mtoken, .int mvalue, .int mfaultKind, .int mfaultPlace, .ref (n 6), .ref (n 7), .ref (n 8), .ref (n 9), .ref (n 10), .ref (n 11), .ref (n 12), .int (nI mmoreMany), .int mlawNow, .int mwetSet, .int moverAll, .ref (n 13), .ref (n 14), .ref (n 15), .int (u_195.1 0), .int (u_195.1 1), .int (u_195.1 2), .ref (n 16), .ref (n 17), .int mroundNow, .ref (n 18), .long msampleFor, .long msampleAll, .ref (n 19), .int maskWorst, .long moftenAll, .long moftenView, .long moftenOnes, .ref (n 20), .ref (n 21), .ref (n 22), .ref (n 23)])), ((n 1), .inl (k 0, 99, .inl fworld)), ((n 11), .inl (k 0, 14, .inl fmoreHead)), ((n 12), .inl (k 0, 14, .inl fmoreView))] := hD.sub [3, 0, 1, 2] (by decide) rfl
                              refine lv_iinc (v := (nI (j_156 + 1))) (lv' := [(2, .int (nI (j_156 + 1))), (0, .ref (n 0)), (1, .int p0)]) hx hb dX11_beginHour_204 hl (k := 0) rfl (ni_inc _) (by decide) rfl (fun ls hl => ?_)
                              refine lv_goto (tgt := 161) hx hb dX11_beginHour_207 (by decide) ?_
                              exact ihj_156 (j_156 + 1) (u_195.1 0) (u_195.1 1) (u_195.1 2) _ _ _ (by omega) (by omega) hP hD hS (lv_sub hl [0, 1, 2] rfl)
                      exact lp_160 (wn fworld 6 + 1) 0 x_73 x_74 mgone _ _ _ (by omega) (by omega) hP hD hS (lv_sub hl [0, 1, 2] rfl)
                    · skip
                      refine lv_aload_n hx hb dX11_beginHour_137 rfl (lv_at hl 1 rfl) ?_
                      refine lv_aload_n hx hb dX11_beginHour_138 rfl (lv_at hl 1 rfl) ?_
                      refine x_get S hK hP 0 rfl cfX11 20 lkX11_49 (by decide) rfl dX11_beginHour_139 ?_
                      refine lv_iload_n hx hb dX11_beginHour_142 rfl (lv_at hl 0 rfl) ?_
                      refine x_iald S hK hP 3 rfl (vp_in_nI (by omega) (by decide)) dX11_beginHour_143 ?_
                      refine lv_topi (fun v_196 ev_196 => ?_)
                      refine lv_aload_n hx hb dX11_beginHour_144 rfl (lv_at hl 1 rfl) ?_
                      refine x_get S hK hP 0 rfl cfX11 19 lkX11_46 (by decide) rfl dX11_beginHour_145 ?_
                      refine lv_iload_n hx hb dX11_beginHour_148 rfl (lv_at hl 0 rfl) ?_
                      refine x_iald S hK hP 2 rfl (vp_in_nI (by omega) (by decide)) dX11_beginHour_149 ?_
                      refine lv_topi (fun v_197 ev_197 => ?_)
                      refine x_muVv (wr := [((n 1), .inl (k 0, 99, .inl fworld)), ((n 11), .inl (k 0, 14, .inl fmoreHead)), ((n 12), .inl (k 0, 14, .inl fmoreView))]) (As := [.int v_196, .int v_197]) S hK hP hD hZ hS hA hl mwX11_isSaid lkX11_290 (ctX11_isSaid l D k z n mthrown mtaped msize mat mfrom mtoken mvalue mfaultKind mfaultPlace mmoreMany mlawNow mwetSet moverAll x_73 x_74 mgone mroundNow msampleFor msampleAll maskWorst moftenAll moftenView moftenOnes v_196 v_197 (by omega) (by omega) (by omega) (by omega) (by omega)) [0] [1, 2, 3] rfl rfl (by decide) (by decide) (by decide) rfl rfl rfl rfl rfl ⟨Nat.le_of_ble_eq_true rfl, Nat.le_of_ble_eq_true rfl, Nat.le_of_ble_eq_true rfl⟩ dX11_beginHour_150 ⟨Nat.le_of_ble_eq_true rfl, Nat.le_of_ble_eq_true rfl⟩ (fun u_199 H locs hr_198 hP hD hS => ?_)
                      have hP : va_P D vwCl [((n 0), .inr (11, [.int mthrown, .ref (n 1), .ref (n 2), .ref (n 3), .ref (n 4), .int (nI mtaped), .ref (n 5), .int (nI msize), .int (nI mat), .int (nI mfrom), .int mtoken, .int mvalue, .int mfaultKind, .int mfaultPlace, .ref (n 6), .ref (n 7), .ref (n 8), .ref (n 9), .ref (n 10), .ref (n 11), .ref (n 12), .int (nI mmoreMany), .int mlawNow, .int mwetSet, .int moverAll, .ref (n 13), .ref (n 14), .ref (n 15), .int (u_199.1 0), .int (u_199.1 1), .int mgone, .ref (n 16), .ref (n 17), .int mroundNow, .ref (n 18), .long msampleFor, .long msampleAll, .ref (n 19), .int maskWorst, .long moftenAll, .long moftenView, .long moftenOnes, .ref (n 20), .ref (n 21), .ref (n 22), .ref (n 23)])), ((n 1), .inl (k 0, 99, .inl fworld)), ((n 11), .inl (k 0, 14, .inl fmoreHead)), ((n 12), .inl (k 0, 14, .inl fmoreView))] H := hP.sub [3, 0, 1, 2] rfl
                      have hD : va_D A [((n 0), .inr (11, [.int mthrown, .ref (n 1), .ref (n 2), .ref (n 3), .ref (n 4), .int (nI mtaped), .ref (n 5), .int (nI msize), .int (nI mat), .int (nI mfrom), .int mtoken, .int mvalue, .int mfaultKind, .int mfaultPlace, .ref (n 6), .ref (n 7), .ref (n 8), .ref (n 9), .ref (n 10), .ref (n 11), .ref (n 12), .int (nI mmoreMany), .int mlawNow, .int mwetSet, .int moverAll, .ref (n 13), .ref (n 14), .ref (n 15), .int (u_199.1 0), .int (u_199.1 1), .int mgone, .ref (n 16), .ref (n 17), .int mroundNow, .ref (n 18), .long msampleFor, .long msampleAll, .ref (n 19), .int maskWorst, .long moftenAll, .long moftenView, .long moftenOnes, .ref (n 20), .ref (n 21), .ref (n 22), .ref (n 23)])), ((n 1), .inl (k 0, 99, .inl fworld)), ((n 11), .inl (k 0, 14, .inl fmoreHead)), ((n 12), .inl (k 0, 14, .inl fmoreView))] := hD.sub [3, 0, 1, 2] (by decide) rfl
                      refine lv_iinc (v := (nI (j_72 + 1))) (lv' := [(2, .int (nI (j_72 + 1))), (0, .ref (n 0)), (1, .int p0)]) hx hb dX11_beginHour_153 hl (k := 0) rfl (ni_inc _) (by decide) rfl (fun ls hl => ?_)
                      refine lv_goto (tgt := 125) hx hb dX11_beginHour_156 (by decide) ?_
                      exact ihj_72 (j_72 + 1) (u_199.1 0) (u_199.1 1) _ _ _ (by omega) (by omega) hP hD hS (lv_sub hl [0, 1, 2] rfl)
              exact lp_75 (mmoreMany + 1) 0 x_51 x_52 _ _ _ (by omega) (by omega) hP hD hS (lv_sub hl [0, 1, 2] rfl)
            · skip
              have c_54 : ¬ wn fworld 7 ≤ j_50 := fun q => c_54 ((ni_le rfl rfl (by omega) (by omega)).mpr q)
              refine lv_aload_n hx hb dX11_beginHour_76 rfl (lv_at hl 1 rfl) ?_
              refine x_get S hK hP 0 rfl cfX11 1 lkX11_9 (by decide) rfl dX11_beginHour_77 ?_
              refine lv_bipush (v := 69) hx hb dX11_beginHour_80 (by decide) ?_
              refine lv_iload_n hx hb dX11_beginHour_82 rfl (lv_at hl 0 rfl) ?_
              refine lv_iadd hx hb dX11_beginHour_83 ?_
              refine x_is (nI (69 + j_50)) (ni_add (by decide) rfl) ?_
              refine x_iald S hK hP 1 rfl (vp_in_nI (by omega) (by decide)) dX11_beginHour_84 ?_
              refine lv_topi (fun v_200 ev_200 => ?_)
              refine lv_istore_n (lv' := [(3, .int v_200), (2, .int (nI j_50)), (0, .ref (n 0)), (1, .int p0)]) hx hb dX11_beginHour_85 rfl hl (by decide) rfl (fun ls hl => ?_)
              refine lv_iload_n hx hb dX11_beginHour_86 rfl (lv_at hl 0 rfl) ?_
              refine lv_sipush (v := 10000) hx hb dX11_beginHour_87 (by decide) ?_
              refine lv_icmp_lt (tgt := 117) hx hb dX11_beginHour_90 (by decide) (fun c_201 => ?_) (fun c_201 => ?_)
              · skip
                refine lv_iinc (v := (nI (j_50 + 1))) (lv' := [(2, .int (nI (j_50 + 1))), (3, .int v_200), (0, .ref (n 0)), (1, .int p0)]) hx hb dX11_beginHour_117 hl (k := 1) rfl (ni_inc _) (by decide) rfl (fun ls hl => ?_)
                refine lv_goto (tgt := 65) hx hb dX11_beginHour_120 (by decide) ?_
                exact ihj_50 (j_50 + 1) x_51 x_52 _ _ _ (by omega) (by omega) hP hD hS (lv_sub hl [0, 2, 3] rfl)
              · skip
                refine lv_iload_n hx hb dX11_beginHour_93 rfl (lv_at hl 0 rfl) ?_
                refine lv_bipush (v := 100) hx hb dX11_beginHour_94 (by decide) ?_
                refine lv_irem hx hb dX11_beginHour_96 (by decide) ?_
                refine lv_topi (fun v_202 ev_202 => ?_)
                refine lv_iload_n hx hb dX11_beginHour_97 rfl (lv_at hl 3 rfl) ?_
                refine lv_icmp_ne (tgt := 117) hx hb dX11_beginHour_98 (by decide) (fun c_203 => ?_) (fun c_203 => ?_)
                · skip
                  refine lv_iinc (v := (nI (j_50 + 1))) (lv' := [(2, .int (nI (j_50 + 1))), (3, .int v_200), (0, .ref (n 0)), (1, .int p0)]) hx hb dX11_beginHour_117 hl (k := 1) rfl (ni_inc _) (by decide) rfl (fun ls hl => ?_)
                  refine lv_goto (tgt := 65) hx hb dX11_beginHour_120 (by decide) ?_
                  exact ihj_50 (j_50 + 1) x_51 x_52 _ _ _ (by omega) (by omega) hP hD hS (lv_sub hl [0, 2, 3] rfl)
                · skip
                  refine lv_aload_n hx hb dX11_beginHour_101 rfl (lv_at hl 2 rfl) ?_
                  refine lv_iload_n hx hb dX11_beginHour_102 rfl (lv_at hl 0 rfl) ?_
                  refine lv_sipush (v := 10000) hx hb dX11_beginHour_103 (by decide) ?_
                  refine lv_idiv hx hb dX11_beginHour_106 (by decide) ?_
                  refine lv_topi (fun v_204 ev_204 => ?_)
                  refine lv_iload_n hx hb dX11_beginHour_107 rfl (lv_at hl 0 rfl) ?_
                  refine lv_bipush (v := 100) hx hb dX11_beginHour_108 (by decide) ?_
                  refine lv_idiv hx hb dX11_beginHour_110 (by decide) ?_
                  refine lv_topi (fun v_205 ev_205 => ?_)
                  refine lv_bipush (v := 100) hx hb dX11_beginHour_111 (by decide) ?_
                  refine lv_irem hx hb dX11_beginHour_113 (by decide) ?_
                  refine lv_topi (fun v_206 ev_206 => ?_)
                  refine x_muVv (wr := [((n 1), .inl (k 0, 99, .inl fworld)), ((n 11), .inl (k 0, 14, .inl fmoreHead)), ((n 12), .inl (k 0, 14, .inl fmoreView))]) (As := [.int v_204, .int v_206]) S hK hP hD hZ hS hA hl mwX11_isSaid lkX11_290 (ctX11_isSaid l D k z n mthrown mtaped msize mat mfrom mtoken mvalue mfaultKind mfaultPlace mmoreMany mlawNow mwetSet moverAll x_51 x_52 mgone mroundNow msampleFor msampleAll maskWorst moftenAll moftenView moftenOnes v_204 v_206 (by omega) (by omega) (by omega) (by omega) (by omega)) [0] [1, 2, 3] rfl rfl (by decide) (by decide) (by decide) rfl rfl rfl rfl rfl ⟨Nat.le_of_ble_eq_true rfl, Nat.le_of_ble_eq_true rfl, Nat.le_of_ble_eq_true rfl⟩ dX11_beginHour_114 ⟨Nat.le_of_ble_eq_true rfl, Nat.le_of_ble_eq_true rfl⟩ (fun u_208 H locs hr_207 hP hD hS => ?_)
                  have hP : va_P D vwCl [((n 0), .inr (11, [.int mthrown, .ref (n 1), .ref (n 2), .ref (n 3), .ref (n 4), .int (nI mtaped), .ref (n 5), .int (nI msize), .int (nI mat), .int (nI mfrom), .int mtoken, .int mvalue, .int mfaultKind, .int mfaultPlace, .ref (n 6), .ref (n 7), .ref (n 8), .ref (n 9), .ref (n 10), .ref (n 11), .ref (n 12), .int (nI mmoreMany), .int mlawNow, .int mwetSet, .int moverAll, .ref (n 13), .ref (n 14), .ref (n 15), .int (u_208.1 0), .int (u_208.1 1), .int mgone, .ref (n 16), .ref (n 17), .int mroundNow, .ref (n 18), .long msampleFor, .long msampleAll, .ref (n 19), .int maskWorst, .long moftenAll, .long moftenView, .long moftenOnes, .ref (n 20), .ref (n 21), .ref (n 22), .ref (n 23)])), ((n 1), .inl (k 0, 99, .inl fworld)), ((n 11), .inl (k 0, 14, .inl fmoreHead)), ((n 12), .inl (k 0, 14, .inl fmoreView))] H := hP.sub [3, 0, 1, 2] rfl
                  have hD : va_D A [((n 0), .inr (11, [.int mthrown, .ref (n 1), .ref (n 2), .ref (n 3), .ref (n 4), .int (nI mtaped), .ref (n 5), .int (nI msize), .int (nI mat), .int (nI mfrom), .int mtoken, .int mvalue, .int mfaultKind, .int mfaultPlace, .ref (n 6), .ref (n 7), .ref (n 8), .ref (n 9), .ref (n 10), .ref (n 11), .ref (n 12), .int (nI mmoreMany), .int mlawNow, .int mwetSet, .int moverAll, .ref (n 13), .ref (n 14), .ref (n 15), .int (u_208.1 0), .int (u_208.1 1), .int mgone, .ref (n 16), .ref (n 17), .int mroundNow, .ref (n 18), .long msampleFor, .long msampleAll, .ref (n 19), .int maskWorst, .long moftenAll, .long moftenView, .long moftenOnes, .ref (n 20), .ref (n 21), .ref (n 22), .ref (n 23)])), ((n 1), .inl (k 0, 99, .inl fworld)), ((n 11), .inl (k 0, 14, .inl fmoreHead)), ((n 12), .inl (k 0, 14, .inl fmoreView))] := hD.sub [3, 0, 1, 2] (by decide) rfl
                  refine lv_iinc (v := (nI (j_50 + 1))) (lv' := [(2, .int (nI (j_50 + 1))), (3, .int v_200), (0, .ref (n 0)), (1, .int p0)]) hx hb dX11_beginHour_117 hl (k := 1) rfl (ni_inc _) (by decide) rfl (fun ls hl => ?_)
                  refine lv_goto (tgt := 65) hx hb dX11_beginHour_120 (by decide) ?_
                  exact ihj_50 (j_50 + 1) (u_208.1 0) (u_208.1 1) _ _ _ (by omega) (by omega) hP hD hS (lv_sub hl [0, 2, 3] rfl)
        exact lp_53 (wn fworld 7 + 1) 0 x_21 x_22 _ _ _ (by omega) (by omega) hP hD hS (lv_sub hl [0, 1, 2] rfl)
      · skip
        have c_24 : ¬ wn fworld 5 ≤ j_20 := fun q => c_24 ((ni_le rfl rfl (by omega) (by omega)).mpr q)
        refine lv_aload_n hx hb dX11_beginHour_12 rfl (lv_at hl 1 rfl) ?_
        refine x_get S hK hP 0 rfl cfX11 1 lkX11_9 (by decide) rfl dX11_beginHour_13 ?_
        refine lv_bipush (v := 37) hx hb dX11_beginHour_16 (by decide) ?_
        refine lv_iconst (v := 3) hx hb dX11_beginHour_18 (by decide) ?_
        refine lv_iload_n hx hb dX11_beginHour_19 rfl (lv_at hl 0 rfl) ?_
        refine lv_imul hx hb dX11_beginHour_20 ?_
        refine x_is (nI (3 * j_20)) (ni_mul (by decide) rfl) ?_
        refine lv_iadd hx hb dX11_beginHour_21 ?_
        refine x_is (nI (37 + 3 * j_20)) (ni_add (by decide) rfl) ?_
        refine lv_iconst (v := 2) hx hb dX11_beginHour_22 (by decide) ?_
        refine lv_iadd hx hb dX11_beginHour_23 ?_
        refine x_is (nI (37 + 3 * j_20 + 2)) (ni_add rfl (by decide)) ?_
        refine x_iald S hK hP 1 rfl (vp_in_nI (by omega) (by decide)) dX11_beginHour_24 ?_
        refine lv_topi (fun v_209 ev_209 => ?_)
        refine lv_iload_n hx hb dX11_beginHour_25 rfl (lv_at hl 2 rfl) ?_
        refine lv_icmp_ne (tgt := 57) hx hb dX11_beginHour_26 (by decide) (fun c_210 => ?_) (fun c_210 => ?_)
        · skip
          refine lv_iinc (v := (nI (j_20 + 1))) (lv' := [(2, .int (nI (j_20 + 1))), (0, .ref (n 0)), (1, .int p0)]) hx hb dX11_beginHour_57 hl (k := 0) rfl (ni_inc _) (by decide) rfl (fun ls hl => ?_)
          refine lv_goto (tgt := 2) hx hb dX11_beginHour_60 (by decide) ?_
          exact ihj_20 (j_20 + 1) x_21 x_22 _ _ _ (by omega) (by omega) hP hD hS (lv_sub hl [0, 1, 2] rfl)
        · skip
          refine lv_aload_n hx hb dX11_beginHour_29 rfl (lv_at hl 1 rfl) ?_
          refine lv_aload_n hx hb dX11_beginHour_30 rfl (lv_at hl 1 rfl) ?_
          refine x_get S hK hP 0 rfl cfX11 1 lkX11_9 (by decide) rfl dX11_beginHour_31 ?_
          refine lv_bipush (v := 37) hx hb dX11_beginHour_34 (by decide) ?_
          refine lv_iconst (v := 3) hx hb dX11_beginHour_36 (by decide) ?_
          refine lv_iload_n hx hb dX11_beginHour_37 rfl (lv_at hl 0 rfl) ?_
          refine lv_imul hx hb dX11_beginHour_38 ?_
          refine x_is (nI (3 * j_20)) (ni_mul (by decide) rfl) ?_
          refine lv_iadd hx hb dX11_beginHour_39 ?_
          refine x_is (nI (37 + 3 * j_20)) (ni_add (by decide) rfl) ?_
          refine x_iald S hK hP 1 rfl (vp_in_nI (by omega) (by decide)) dX11_beginHour_40 ?_
          refine lv_topi (fun v_211 ev_211 => ?_)
          refine lv_aload_n hx hb dX11_beginHour_41 rfl (lv_at hl 1 rfl) ?_
          refine x_get S hK hP 0 rfl cfX11 1 lkX11_9 (by decide) rfl dX11_beginHour_42 ?_
          refine lv_bipush (v := 37) hx hb dX11_beginHour_45 (by decide) ?_
          refine lv_iconst (v := 3) hx hb dX11_beginHour_47 (by decide) ?_
          refine lv_iload_n hx hb dX11_beginHour_48 rfl (lv_at hl 0 rfl) ?_
          refine lv_imul hx hb dX11_beginHour_49 ?_
          refine x_is (nI (3 * j_20)) (ni_mul (by decide) rfl) ?_
          refine lv_iadd hx hb dX11_beginHour_50 ?_
          refine x_is (nI (37 + 3 * j_20)) (ni_add (by decide) rfl) ?_
          refine lv_iconst (v := 1) hx hb dX11_beginHour_51 (by decide) ?_
          refine lv_iadd hx hb dX11_beginHour_52 ?_
          refine x_is (nI (37 + 3 * j_20 + 1)) (ni_add rfl (by decide)) ?_
          refine x_iald S hK hP 1 rfl (vp_in_nI (by omega) (by decide)) dX11_beginHour_53 ?_
          refine lv_topi (fun v_212 ev_212 => ?_)
          refine x_muVv (wr := [((n 1), .inl (k 0, 99, .inl fworld)), ((n 11), .inl (k 0, 14, .inl fmoreHead)), ((n 12), .inl (k 0, 14, .inl fmoreView))]) (As := [.int v_211, .int v_212]) S hK hP hD hZ hS hA hl mwX11_isSaid lkX11_290 (ctX11_isSaid l D k z n mthrown mtaped msize mat mfrom mtoken mvalue mfaultKind mfaultPlace mmoreMany mlawNow mwetSet moverAll x_21 x_22 mgone mroundNow msampleFor msampleAll maskWorst moftenAll moftenView moftenOnes v_211 v_212 (by omega) (by omega) (by omega) (by omega) (by omega)) [0] [1, 2, 3] rfl rfl (by decide) (by decide) (by decide) rfl rfl rfl rfl rfl ⟨Nat.le_of_ble_eq_true rfl, Nat.le_of_ble_eq_true rfl, Nat.le_of_ble_eq_true rfl⟩ dX11_beginHour_54 ⟨Nat.le_of_ble_eq_true rfl, Nat.le_of_ble_eq_true rfl⟩ (fun u_214 H locs hr_213 hP hD hS => ?_)
          have hP : va_P D vwCl [((n 0), .inr (11, [.int mthrown, .ref (n 1), .ref (n 2), .ref (n 3), .ref (n 4), .int (nI mtaped), .ref (n 5), .int (nI msize), .int (nI mat), .int (nI mfrom), .int mtoken, .int mvalue, .int mfaultKind, .int mfaultPlace, .ref (n 6), .ref (n 7), .ref (n 8), .ref (n 9), .ref (n 10), .ref (n 11), .ref (n 12), .int (nI mmoreMany), .int mlawNow, .int mwetSet, .int moverAll, .ref (n 13), .ref (n 14), .ref (n 15), .int (u_214.1 0), .int (u_214.1 1), .int mgone, .ref (n 16), .ref (n 17), .int mroundNow, .ref (n 18), .long msampleFor, .long msampleAll, .ref (n 19), .int maskWorst, .long moftenAll, .long moftenView, .long moftenOnes, .ref (n 20), .ref (n 21), .ref (n 22), .ref (n 23)])), ((n 1), .inl (k 0, 99, .inl fworld)), ((n 11), .inl (k 0, 14, .inl fmoreHead)), ((n 12), .inl (k 0, 14, .inl fmoreView))] H := hP.sub [3, 0, 1, 2] rfl
          have hD : va_D A [((n 0), .inr (11, [.int mthrown, .ref (n 1), .ref (n 2), .ref (n 3), .ref (n 4), .int (nI mtaped), .ref (n 5), .int (nI msize), .int (nI mat), .int (nI mfrom), .int mtoken, .int mvalue, .int mfaultKind, .int mfaultPlace, .ref (n 6), .ref (n 7), .ref (n 8), .ref (n 9), .ref (n 10), .ref (n 11), .ref (n 12), .int (nI mmoreMany), .int mlawNow, .int mwetSet, .int moverAll, .ref (n 13), .ref (n 14), .ref (n 15), .int (u_214.1 0), .int (u_214.1 1), .int mgone, .ref (n 16), .ref (n 17), .int mroundNow, .ref (n 18), .long msampleFor, .long msampleAll, .ref (n 19), .int maskWorst, .long moftenAll, .long moftenView, .long moftenOnes, .ref (n 20), .ref (n 21), .ref (n 22), .ref (n 23)])), ((n 1), .inl (k 0, 99, .inl fworld)), ((n 11), .inl (k 0, 14, .inl fmoreHead)), ((n 12), .inl (k 0, 14, .inl fmoreView))] := hD.sub [3, 0, 1, 2] (by decide) rfl
          refine lv_iinc (v := (nI (j_20 + 1))) (lv' := [(2, .int (nI (j_20 + 1))), (0, .ref (n 0)), (1, .int p0)]) hx hb dX11_beginHour_57 hl (k := 0) rfl (ni_inc _) (by decide) rfl (fun ls hl => ?_)
          refine lv_goto (tgt := 2) hx hb dX11_beginHour_60 (by decide) ?_
          exact ihj_20 (j_20 + 1) (u_214.1 0) (u_214.1 1) _ _ _ (by omega) (by omega) hP hD hS (lv_sub hl [0, 1, 2] rfl)
  exact lp_23 (wn fworld 5 + 1) 0 mones mtwos _ _ _ (by omega) (by omega) hP hD hS (lv_sub hl [0, 1, 2] rfl)

set_option maxHeartbeats 4000000 in
set_option maxRecDepth 100000 in
theorem ctX11_pullOf (l : Launch) (D : va_G) (k : Nat → ClassId) (z : Nat → Nat) (n : Nat → Nat) (mthrown : Int32) (mtaped : Nat) (msize : Nat) (mat : Nat) (mfrom : Nat) (mtoken : Int32) (mvalue : Int32) (mfaultKind : Int32) (mfaultPlace : Int32) (mmoreMany : Nat) (mlawNow : Int32) (mwetSet : Int32) (moverAll : Int32) (mones : Int32) (mtwos : Int32) (mgone : Int32) (mroundNow : Int32) (msampleFor : Int64) (msampleAll : Int64) (maskWorst : Int32) (moftenAll : Int64) (moftenView : Int64) (moftenOnes : Int64) (fworld : Nat → Int32) (frowOf : Nat → Int32) (fplaceOf : Nat → Int32) (ffirstOf : Nat → Int32) (p0 : Nat) (p1 : Int32) (p2 : Int32) (hmtaped : mtaped ≤ 600) (hmsize : msize ≤ 600) (hmat : mat ≤ 600) (hmfrom : mfrom ≤ 600) (hmmoreMany : mmoreMany ≤ 14) (hkworld : okW fworld) (hp0 : p0 ≤ 11) : RO l yX11_pullOf cX11_pullOf 7 (some .int) 4 D k z [.ref (n 0), .int (nI p0), .int p1, .int p2] [((n 0), .inr (11, [.int mthrown, .ref (n 1), .ref (n 2), .ref (n 3), .ref (n 4), .int (nI mtaped), .ref (n 5), .int (nI msize), .int (nI mat), .int (nI mfrom), .int mtoken, .int mvalue, .int mfaultKind, .int mfaultPlace, .ref (n 6), .ref (n 7), .ref (n 8), .ref (n 9), .ref (n 10), .ref (n 11), .ref (n 12), .int (nI mmoreMany), .int mlawNow, .int mwetSet, .int moverAll, .ref (n 13), .ref (n 14), .ref (n 15), .int mones, .int mtwos, .int mgone, .ref (n 16), .ref (n 17), .int mroundNow, .ref (n 18), .long msampleFor, .long msampleAll, .ref (n 19), .int maskWorst, .long moftenAll, .long moftenView, .long moftenOnes, .ref (n 20), .ref (n 21), .ref (n 22), .ref (n 23)])), ((n 1), .inl (k 0, 99, .inl fworld)), ((n 7), .inl (k 0, 12, .inl frowOf)), ((n 8), .inl (k 0, 12, .inl fplaceOf)), ((n 9), .inl (k 0, 4, .inl ffirstOf))] (Qi (fun r : Int32 => True)) := by
  refine RO.of (by decide) (Nat.le_of_ble_eq_true rfl) ?_
  intro p e s m below meth c ls A B args Q S hr hlk hQ hK hP hDW hZ hAB hBA hA hS hl
  have hx := S.1
  have hb := S.2.1
  have hl : lv_has ls 7 [(0, .ref (n 0)), (1, .int (nI p0)), (2, .int p1), (3, .int p2)] := hl
  have hbfworld := okW_bd hkworld
  refine lv_aload_n hx hb dX11_pullOf_0 rfl (lv_at hl 0 rfl) ?_
  refine lv_iload_n hx hb dX11_pullOf_1 rfl (lv_at hl 1 rfl) ?_
  refine x_roVi (As := [.int (nI p0)]) S hK hP hDW hZ hAB hBA hS hA hl mwX11_besides lkX11_252 (ctX11_besides l D k z n mthrown mtaped msize mat mfrom mtoken mvalue mfaultKind mfaultPlace mmoreMany mlawNow mwetSet moverAll mones mtwos mgone mroundNow msampleFor msampleAll maskWorst moftenAll moftenView moftenOnes fworld frowOf fplaceOf ffirstOf p0 (by omega) (by omega) (by omega) (by omega) (by omega) (hkworld) (by omega)) [0, 1, 2, 3, 4] rfl (by decide) rfl rfl rfl rfl rfl ⟨Nat.le_of_ble_eq_true rfl, Nat.le_of_ble_eq_true rfl, Nat.le_of_ble_eq_true rfl⟩ dX11_pullOf_2 ⟨Nat.le_of_ble_eq_true rfl, Nat.le_of_ble_eq_true rfl⟩ (fun r_1 H locs hr_1 hP hS => ?_)
  refine lv_iload_n hx hb dX11_pullOf_5 rfl (lv_at hl 2 rfl) ?_
  refine lv_iand hx hb dX11_pullOf_6 ?_
  refine lv_topi (fun v_3 ev_3 => ?_)
  refine x_roSi (As := [.int v_3]) S hK hP hDW hZ hAB hBA hS hA hl mwX11_bits lkX11_296 (ctX11_bits l D k z v_3 ) [] rfl (by decide) rfl rfl ⟨Nat.le_of_ble_eq_true rfl, Nat.le_of_ble_eq_true rfl, Nat.le_of_ble_eq_true rfl⟩ dX11_pullOf_7 ⟨Nat.le_of_ble_eq_true rfl, Nat.le_of_ble_eq_true rfl⟩ (fun r_4 H locs hr_4 hP hS => ?_)
  obtain ⟨rfl, hg_6⟩ := hr_4
  refine lv_aload_n hx hb dX11_pullOf_10 rfl (lv_at hl 0 rfl) ?_
  refine lv_iload_n hx hb dX11_pullOf_11 rfl (lv_at hl 1 rfl) ?_
  refine x_roVi (As := [.int (nI p0)]) S hK hP hDW hZ hAB hBA hS hA hl mwX11_besides lkX11_252 (ctX11_besides l D k z n mthrown mtaped msize mat mfrom mtoken mvalue mfaultKind mfaultPlace mmoreMany mlawNow mwetSet moverAll mones mtwos mgone mroundNow msampleFor msampleAll maskWorst moftenAll moftenView moftenOnes fworld frowOf fplaceOf ffirstOf p0 (by omega) (by omega) (by omega) (by omega) (by omega) (hkworld) (by omega)) [0, 1, 2, 3, 4] rfl (by decide) rfl rfl rfl rfl rfl ⟨Nat.le_of_ble_eq_true rfl, Nat.le_of_ble_eq_true rfl, Nat.le_of_ble_eq_true rfl⟩ dX11_pullOf_12 ⟨Nat.le_of_ble_eq_true rfl, Nat.le_of_ble_eq_true rfl⟩ (fun r_7 H locs hr_7 hP hS => ?_)
  refine lv_iload_n hx hb dX11_pullOf_15 rfl (lv_at hl 3 rfl) ?_
  refine lv_iand hx hb dX11_pullOf_16 ?_
  refine lv_topi (fun v_9 ev_9 => ?_)
  refine x_roSi (As := [.int v_9]) S hK hP hDW hZ hAB hBA hS hA hl mwX11_bits lkX11_296 (ctX11_bits l D k z v_9 ) [] rfl (by decide) rfl rfl ⟨Nat.le_of_ble_eq_true rfl, Nat.le_of_ble_eq_true rfl, Nat.le_of_ble_eq_true rfl⟩ dX11_pullOf_17 ⟨Nat.le_of_ble_eq_true rfl, Nat.le_of_ble_eq_true rfl⟩ (fun r_10 H locs hr_10 hP hS => ?_)
  obtain ⟨rfl, hg_12⟩ := hr_10
  refine lv_isub hx hb dX11_pullOf_20 ?_
  refine lv_topi (fun v_13 ev_13 => ?_)
  refine lv_istore (lv' := [(4, .int v_13), (0, .ref (n 0)), (1, .int (nI p0)), (2, .int p1), (3, .int p2)]) hx hb dX11_pullOf_21 hl (by decide) rfl (fun ls hl => ?_)
  refine lv_aload_n hx hb dX11_pullOf_23 rfl (lv_at hl 1 rfl) ?_
  refine lv_iload_n hx hb dX11_pullOf_24 rfl (lv_at hl 2 rfl) ?_
  refine x_roVi (As := [.int (nI p0)]) S hK hP hDW hZ hAB hBA hS hA hl mwX11_across lkX11_255 (ctX11_across l D k z n mthrown mtaped msize mat mfrom mtoken mvalue mfaultKind mfaultPlace mmoreMany mlawNow mwetSet moverAll mones mtwos mgone mroundNow msampleFor msampleAll maskWorst moftenAll moftenView moftenOnes fworld frowOf fplaceOf ffirstOf p0 (by omega) (by omega) (by omega) (by omega) (by omega) (hkworld) (by omega)) [0, 1, 2, 3, 4] rfl (by decide) rfl rfl rfl rfl rfl ⟨Nat.le_of_ble_eq_true rfl, Nat.le_of_ble_eq_true rfl, Nat.le_of_ble_eq_true rfl⟩ dX11_pullOf_25 ⟨Nat.le_of_ble_eq_true rfl, Nat.le_of_ble_eq_true rfl⟩ (fun r_14 H locs hr_14 hP hS => ?_)
  refine lv_iload_n hx hb dX11_pullOf_28 rfl (lv_at hl 3 rfl) ?_
  refine lv_iand hx hb dX11_pullOf_29 ?_
  refine lv_topi (fun v_16 ev_16 => ?_)
  refine x_roSi (As := [.int v_16]) S hK hP hDW hZ hAB hBA hS hA hl mwX11_bits lkX11_296 (ctX11_bits l D k z v_16 ) [] rfl (by decide) rfl rfl ⟨Nat.le_of_ble_eq_true rfl, Nat.le_of_ble_eq_true rfl, Nat.le_of_ble_eq_true rfl⟩ dX11_pullOf_30 ⟨Nat.le_of_ble_eq_true rfl, Nat.le_of_ble_eq_true rfl⟩ (fun r_17 H locs hr_17 hP hS => ?_)
  obtain ⟨rfl, hg_19⟩ := hr_17
  refine lv_aload_n hx hb dX11_pullOf_33 rfl (lv_at hl 1 rfl) ?_
  refine lv_iload_n hx hb dX11_pullOf_34 rfl (lv_at hl 2 rfl) ?_
  refine x_roVi (As := [.int (nI p0)]) S hK hP hDW hZ hAB hBA hS hA hl mwX11_across lkX11_255 (ctX11_across l D k z n mthrown mtaped msize mat mfrom mtoken mvalue mfaultKind mfaultPlace mmoreMany mlawNow mwetSet moverAll mones mtwos mgone mroundNow msampleFor msampleAll maskWorst moftenAll moftenView moftenOnes fworld frowOf fplaceOf ffirstOf p0 (by omega) (by omega) (by omega) (by omega) (by omega) (hkworld) (by omega)) [0, 1, 2, 3, 4] rfl (by decide) rfl rfl rfl rfl rfl ⟨Nat.le_of_ble_eq_true rfl, Nat.le_of_ble_eq_true rfl, Nat.le_of_ble_eq_true rfl⟩ dX11_pullOf_35 ⟨Nat.le_of_ble_eq_true rfl, Nat.le_of_ble_eq_true rfl⟩ (fun r_20 H locs hr_20 hP hS => ?_)
  refine lv_iload_n hx hb dX11_pullOf_38 rfl (lv_at hl 4 rfl) ?_
  refine lv_iand hx hb dX11_pullOf_39 ?_
  refine lv_topi (fun v_22 ev_22 => ?_)
  refine x_roSi (As := [.int v_22]) S hK hP hDW hZ hAB hBA hS hA hl mwX11_bits lkX11_296 (ctX11_bits l D k z v_22 ) [] rfl (by decide) rfl rfl ⟨Nat.le_of_ble_eq_true rfl, Nat.le_of_ble_eq_true rfl, Nat.le_of_ble_eq_true rfl⟩ dX11_pullOf_40 ⟨Nat.le_of_ble_eq_true rfl, Nat.le_of_ble_eq_true rfl⟩ (fun r_23 H locs hr_23 hP hS => ?_)
  obtain ⟨rfl, hg_25⟩ := hr_23
  refine lv_isub hx hb dX11_pullOf_43 ?_
  refine lv_topi (fun v_26 ev_26 => ?_)
  refine lv_istore (lv' := [(5, .int v_26), (4, .int v_13), (0, .ref (n 0)), (1, .int (nI p0)), (2, .int p1), (3, .int p2)]) hx hb dX11_pullOf_44 hl (by decide) rfl (fun ls hl => ?_)
  refine lv_aload_n hx hb dX11_pullOf_46 rfl (lv_at hl 2 rfl) ?_
  refine x_get S hK hP 0 rfl cfX11 22 lkX11_261 (by decide) rfl dX11_pullOf_47 ?_
  refine lv_iconst (v := 3) hx hb dX11_pullOf_50 (by decide) ?_
  refine lv_icmp_ne (tgt := 68) hx hb dX11_pullOf_51 (by decide) (fun c_27 => ?_) (fun c_27 => ?_)
  · skip
    refine lv_iconst (v := 0) hx hb dX11_pullOf_68 (by decide) ?_
    refine lv_istore (lv' := [(6, .int 0), (5, .int v_26), (4, .int v_13), (0, .ref (n 0)), (1, .int (nI p0)), (2, .int p1), (3, .int p2)]) hx hb dX11_pullOf_69 hl (by decide) rfl (fun ls hl => ?_)
    refine lv_aload_n hx hb dX11_pullOf_71 rfl (lv_at hl 3 rfl) ?_
    refine x_get S hK hP 0 rfl cfX11 22 lkX11_261 (by decide) rfl dX11_pullOf_72 ?_
    refine lv_iconst (v := 1) hx hb dX11_pullOf_75 (by decide) ?_
    refine lv_icmp_ne (tgt := 86) hx hb dX11_pullOf_76 (by decide) (fun c_28 => ?_) (fun c_28 => ?_)
    · skip
      refine lv_iload hx hb dX11_pullOf_86 (lv_at hl 2 rfl) ?_
      refine lv_iload hx hb dX11_pullOf_88 (lv_at hl 1 rfl) ?_
      refine lv_iadd hx hb dX11_pullOf_90 ?_
      refine lv_topi (fun v_29 ev_29 => ?_)
      refine lv_iload hx hb dX11_pullOf_91 (lv_at hl 0 rfl) ?_
      refine lv_iadd hx hb dX11_pullOf_93 ?_
      refine lv_topi (fun v_30 ev_30 => ?_)
      exact x_reti S hr hlk hQ hS () trivial x_T dX11_pullOf_94
    · skip
      refine lv_iconst (v := 2) hx hb dX11_pullOf_79 (by decide) ?_
      refine lv_iload hx hb dX11_pullOf_80 (lv_at hl 2 rfl) ?_
      refine lv_imul hx hb dX11_pullOf_82 ?_
      refine lv_topi (fun v_31 ev_31 => ?_)
      refine lv_goto (tgt := 88) hx hb dX11_pullOf_83 (by decide) ?_
      refine lv_iload hx hb dX11_pullOf_88 (lv_at hl 1 rfl) ?_
      refine lv_iadd hx hb dX11_pullOf_90 ?_
      refine lv_topi (fun v_32 ev_32 => ?_)
      refine lv_iload hx hb dX11_pullOf_91 (lv_at hl 0 rfl) ?_
      refine lv_iadd hx hb dX11_pullOf_93 ?_
      refine lv_topi (fun v_33 ev_33 => ?_)
      exact x_reti S hr hlk hQ hS () trivial x_T dX11_pullOf_94
  · skip
    refine lv_iload_n hx hb dX11_pullOf_54 rfl (lv_at hl 4 rfl) ?_
    refine lv_iload_n hx hb dX11_pullOf_55 rfl (lv_at hl 3 rfl) ?_
    refine x_roSi (As := [.int p1, .int (nI p0)]) S hK hP hDW hZ hAB hBA hS hA hl mwX11_bit lkX11_274 (ctX11_bit l D k z p1 (nI p0) ) [] rfl (by decide) rfl rfl ⟨Nat.le_of_ble_eq_true rfl, Nat.le_of_ble_eq_true rfl, Nat.le_of_ble_eq_true rfl⟩ dX11_pullOf_56 ⟨Nat.le_of_ble_eq_true rfl, Nat.le_of_ble_eq_true rfl⟩ (fun r_34 H locs hr_34 hP hS => ?_)
    refine lv_iload_n hx hb dX11_pullOf_59 rfl (lv_at hl 5 rfl) ?_
    refine lv_iload_n hx hb dX11_pullOf_60 rfl (lv_at hl 3 rfl) ?_
    refine x_roSi (As := [.int p2, .int (nI p0)]) S hK hP hDW hZ hAB hBA hS hA hl mwX11_bit lkX11_274 (ctX11_bit l D k z p2 (nI p0) ) [] rfl (by decide) rfl rfl ⟨Nat.le_of_ble_eq_true rfl, Nat.le_of_ble_eq_true rfl, Nat.le_of_ble_eq_true rfl⟩ dX11_pullOf_61 ⟨Nat.le_of_ble_eq_true rfl, Nat.le_of_ble_eq_true rfl⟩ (fun r_36 H locs hr_36 hP hS => ?_)
    refine lv_isub hx hb dX11_pullOf_64 ?_
    refine lv_topi (fun v_38 ev_38 => ?_)
    refine lv_goto (tgt := 69) hx hb dX11_pullOf_65 (by decide) ?_
    refine lv_istore (lv' := [(6, .int v_38), (5, .int v_26), (4, .int v_13), (0, .ref (n 0)), (1, .int (nI p0)), (2, .int p1), (3, .int p2)]) hx hb dX11_pullOf_69 hl (by decide) rfl (fun ls hl => ?_)
    refine lv_aload_n hx hb dX11_pullOf_71 rfl (lv_at hl 3 rfl) ?_
    refine x_get S hK hP 0 rfl cfX11 22 lkX11_261 (by decide) rfl dX11_pullOf_72 ?_
    refine lv_iconst (v := 1) hx hb dX11_pullOf_75 (by decide) ?_
    refine lv_icmp_ne (tgt := 86) hx hb dX11_pullOf_76 (by decide) (fun c_39 => ?_) (fun c_39 => ?_)
    · skip
      refine lv_iload hx hb dX11_pullOf_86 (lv_at hl 2 rfl) ?_
      refine lv_iload hx hb dX11_pullOf_88 (lv_at hl 1 rfl) ?_
      refine lv_iadd hx hb dX11_pullOf_90 ?_
      refine lv_topi (fun v_40 ev_40 => ?_)
      refine lv_iload hx hb dX11_pullOf_91 (lv_at hl 0 rfl) ?_
      refine lv_iadd hx hb dX11_pullOf_93 ?_
      refine lv_topi (fun v_41 ev_41 => ?_)
      exact x_reti S hr hlk hQ hS () trivial x_T dX11_pullOf_94
    · skip
      refine lv_iconst (v := 2) hx hb dX11_pullOf_79 (by decide) ?_
      refine lv_iload hx hb dX11_pullOf_80 (lv_at hl 2 rfl) ?_
      refine lv_imul hx hb dX11_pullOf_82 ?_
      refine lv_topi (fun v_42 ev_42 => ?_)
      refine lv_goto (tgt := 88) hx hb dX11_pullOf_83 (by decide) ?_
      refine lv_iload hx hb dX11_pullOf_88 (lv_at hl 1 rfl) ?_
      refine lv_iadd hx hb dX11_pullOf_90 ?_
      refine lv_topi (fun v_43 ev_43 => ?_)
      refine lv_iload hx hb dX11_pullOf_91 (lv_at hl 0 rfl) ?_
      refine lv_iadd hx hb dX11_pullOf_93 ?_
      refine lv_topi (fun v_44 ev_44 => ?_)
      exact x_reti S hr hlk hQ hS () trivial x_T dX11_pullOf_94

set_option maxHeartbeats 4000000 in
set_option maxRecDepth 100000 in
theorem ctX11_passOn (l : Launch) (D : va_G) (k : Nat → ClassId) (z : Nat → Nat) (n : Nat → Nat) (mthrown : Int32) (mtaped : Nat) (msize : Nat) (mat : Nat) (mfrom : Nat) (mtoken : Int32) (mvalue : Int32) (mfaultKind : Int32) (mfaultPlace : Int32) (mmoreMany : Nat) (mlawNow : Int32) (mwetSet : Int32) (moverAll : Int32) (mones : Int32) (mtwos : Int32) (mgone : Int32) (mroundNow : Int32) (msampleFor : Int64) (msampleAll : Int64) (maskWorst : Int32) (moftenAll : Int64) (moftenView : Int64) (moftenOnes : Int64) (fworld : Nat → Int32) (frowOf : Nat → Int32) (fplaceOf : Nat → Int32) (ffirstOf : Nat → Int32) (fhardNow : Nat → Int32) (p0 : Int32) (hmtaped : mtaped ≤ 600) (hmsize : msize ≤ 600) (hmat : mat ≤ 600) (hmfrom : mfrom ≤ 600) (hmmoreMany : mmoreMany ≤ 14) (hkworld : okW fworld) : MU l yX11_passOn cX11_passOn 7 none 5 D k z [.ref (n 0), .int p0] [((n 0), .inr (11, [.int mthrown, .ref (n 1), .ref (n 2), .ref (n 3), .ref (n 4), .int (nI mtaped), .ref (n 5), .int (nI msize), .int (nI mat), .int (nI mfrom), .int mtoken, .int mvalue, .int mfaultKind, .int mfaultPlace, .ref (n 6), .ref (n 7), .ref (n 8), .ref (n 9), .ref (n 10), .ref (n 11), .ref (n 12), .int (nI mmoreMany), .int mlawNow, .int mwetSet, .int moverAll, .ref (n 13), .ref (n 14), .ref (n 15), .int mones, .int mtwos, .int mgone, .ref (n 16), .ref (n 17), .int mroundNow, .ref (n 18), .long msampleFor, .long msampleAll, .ref (n 19), .int maskWorst, .long moftenAll, .long moftenView, .long moftenOnes, .ref (n 20), .ref (n 21), .ref (n 22), .ref (n 23)])), ((n 1), .inl (k 0, 99, .inl fworld)), ((n 7), .inl (k 0, 12, .inl frowOf)), ((n 8), .inl (k 0, 12, .inl fplaceOf)), ((n 9), .inl (k 0, 4, .inl ffirstOf)), ((n 10), .inl (k 0, 12, .inl fhardNow))] 0 0 (Uv D (fun _ : (Nat → Int32) × (Nat → Nat) × (Nat → Nat → Int32) × (Nat → Nat → Int64) × (Nat → Int64) => True) (fun u : (Nat → Int32) × (Nat → Nat) × (Nat → Nat → Int32) × (Nat → Nat → Int64) × (Nat → Int64) => [((n 0), .inr (11, [.int mthrown, .ref (n 1), .ref (n 2), .ref (n 3), .ref (n 4), .int (nI mtaped), .ref (n 5), .int (nI msize), .int (nI mat), .int (nI mfrom), .int mtoken, .int mvalue, .int mfaultKind, .int mfaultPlace, .ref (n 6), .ref (n 7), .ref (n 8), .ref (n 9), .ref (n 10), .ref (n 11), .ref (n 12), .int (nI mmoreMany), .int mlawNow, .int mwetSet, .int moverAll, .ref (n 13), .ref (n 14), .ref (n 15), .int (u.1 0), .int (u.1 1), .int mgone, .ref (n 16), .ref (n 17), .int mroundNow, .ref (n 18), .long msampleFor, .long msampleAll, .ref (n 19), .int maskWorst, .long moftenAll, .long moftenView, .long moftenOnes, .ref (n 20), .ref (n 21), .ref (n 22), .ref (n 23)])), ((n 1), .inl (k 0, 99, .inl fworld)), ((n 7), .inl (k 0, 12, .inl frowOf)), ((n 8), .inl (k 0, 12, .inl fplaceOf)), ((n 9), .inl (k 0, 4, .inl ffirstOf)), ((n 10), .inl (k 0, 12, .inl fhardNow))])) := by
  refine MU.of (by decide) (Nat.le_of_ble_eq_true rfl) ?_
  intro p e s m below meth c ls A args Q S hr hlk hnm hQ hK hP hD hZ hA hS hl
  have hx := S.1
  have hb := S.2.1
  have hl : lv_has ls 7 [(0, .ref (n 0)), (1, .int p0)] := hl
  have hbfworld := okW_bd hkworld
  refine lv_aload_n hx hb dX11_passOn_0 rfl (lv_at hl 0 rfl) ?_
  refine x_get S hK hP 0 rfl cfX11 28 lkX11_284 (by decide) rfl dX11_passOn_1 ?_
  refine lv_istore_n (lv' := [(2, .int mones), (0, .ref (n 0)), (1, .int p0)]) hx hb dX11_passOn_4 rfl hl (by decide) rfl (fun ls hl => ?_)
  refine lv_aload_n hx hb dX11_passOn_5 rfl (lv_at hl 1 rfl) ?_
  refine x_get S hK hP 0 rfl cfX11 29 lkX11_287 (by decide) rfl dX11_passOn_6 ?_
  refine lv_istore_n (lv' := [(3, .int mtwos), (2, .int mones), (0, .ref (n 0)), (1, .int p0)]) hx hb dX11_passOn_9 rfl hl (by decide) rfl (fun ls hl => ?_)
  refine lv_iconst (v := 0) hx hb dX11_passOn_10 (by decide) ?_
  refine lv_istore (lv' := [(4, .int 0), (3, .int mtwos), (2, .int mones), (0, .ref (n 0)), (1, .int p0)]) hx hb dX11_passOn_11 hl (by decide) rfl (fun ls hl => ?_)
  have lp_427 : ∀ (nn j_424 : Nat) (x_425 : Int32) (x_426 : Int32) (H : Heap) (locs : List Loc) (ls : Array Slot), j_424 ≤ wn fworld 4 → wn fworld 4 - j_424 < nn → va_P D vwCl [((n 0), .inr (11, [.int mthrown, .ref (n 1), .ref (n 2), .ref (n 3), .ref (n 4), .int (nI mtaped), .ref (n 5), .int (nI msize), .int (nI mat), .int (nI mfrom), .int mtoken, .int mvalue, .int mfaultKind, .int mfaultPlace, .ref (n 6), .ref (n 7), .ref (n 8), .ref (n 9), .ref (n 10), .ref (n 11), .ref (n 12), .int (nI mmoreMany), .int mlawNow, .int mwetSet, .int moverAll, .ref (n 13), .ref (n 14), .ref (n 15), .int mones, .int mtwos, .int mgone, .ref (n 16), .ref (n 17), .int mroundNow, .ref (n 18), .long msampleFor, .long msampleAll, .ref (n 19), .int maskWorst, .long moftenAll, .long moftenView, .long moftenOnes, .ref (n 20), .ref (n 21), .ref (n 22), .ref (n 23)])), ((n 1), .inl (k 0, 99, .inl fworld)), ((n 7), .inl (k 0, 12, .inl frowOf)), ((n 8), .inl (k 0, 12, .inl fplaceOf)), ((n 9), .inl (k 0, 4, .inl ffirstOf)), ((n 10), .inl (k 0, 12, .inl fhardNow))] H → va_D A [((n 0), .inr (11, [.int mthrown, .ref (n 1), .ref (n 2), .ref (n 3), .ref (n 4), .int (nI mtaped), .ref (n 5), .int (nI msize), .int (nI mat), .int (nI mfrom), .int mtoken, .int mvalue, .int mfaultKind, .int mfaultPlace, .ref (n 6), .ref (n 7), .ref (n 8), .ref (n 9), .ref (n 10), .ref (n 11), .ref (n 12), .int (nI mmoreMany), .int mlawNow, .int mwetSet, .int moverAll, .ref (n 13), .ref (n 14), .ref (n 15), .int mones, .int mtwos, .int mgone, .ref (n 16), .ref (n 17), .int mroundNow, .ref (n 18), .long msampleFor, .long msampleAll, .ref (n 19), .int maskWorst, .long moftenAll, .long moftenView, .long moftenOnes, .ref (n 20), .ref (n 21), .ref (n 22), .ref (n 23)])), ((n 1), .inl (k 0, 99, .inl fworld)), ((n 7), .inl (k 0, 12, .inl frowOf)), ((n 8), .inl (k 0, 12, .inl fplaceOf)), ((n 9), .inl (k 0, 4, .inl ffirstOf)), ((n 10), .inl (k 0, 12, .inl fhardNow))] → va_S A s.heap H locs → lv_has ls 7 [(4, .int (nI j_424)), (3, .int x_425), (2, .int x_426), (0, .ref (n 0)), (1, .int p0)] → W p l e (Rm 5 0 0) s m args below meth c H locs 0 0 Q (F0 m 13 ls []) := by
    intro nn
    induction nn with
    | zero => intro j_424 x_425 x_426 H locs ls hjj_424 hnj_424; exact absurd hnj_424 (by omega)
    | succ nn ihj_424 =>
      intro j_424 x_425 x_426 H locs ls hjj_424 hnj_424 hP hD hS hl
      refine lv_iload hx hb dX11_passOn_13 (lv_at hl 0 rfl) ?_
      refine lv_aload_n hx hb dX11_passOn_15 rfl (lv_at hl 3 rfl) ?_
      refine x_roVi (As := []) S hK hP hD hZ (fun _ h => h) hA hS hA hl mwX11_headMany lkX11_95 (ctX11_headMany l D k z n mthrown mtaped msize mat mfrom mtoken mvalue mfaultKind mfaultPlace mmoreMany mlawNow mwetSet moverAll mones mtwos mgone mroundNow msampleFor msampleAll maskWorst moftenAll moftenView moftenOnes fworld (by omega) (by omega) (by omega) (by omega) (by omega) (hkworld)) [0, 1] rfl (by decide) rfl rfl rfl rfl rfl ⟨Nat.le_of_ble_eq_true rfl, Nat.le_of_ble_eq_true rfl, Nat.le_of_ble_eq_true rfl⟩ dX11_passOn_16 ⟨Nat.le_of_ble_eq_true rfl, Nat.le_of_ble_eq_true rfl⟩ (fun r_428 H locs hr_428 hP hS => ?_)
      obtain rfl := hr_428
      refine lv_icmp_ge (tgt := 184) hx hb dX11_passOn_19 (by decide) (fun c_430 => ?_) (fun c_430 => ?_)
      · skip
        have c_430 : wn fworld 4 ≤ j_424 := (ni_le rfl rfl (by omega) (by omega)).mp c_430
        refine lv_aload_n hx hb dX11_passOn_184 rfl (lv_at hl 3 rfl) ?_
        refine lv_iload_n hx hb dX11_passOn_185 rfl (lv_at hl 2 rfl) ?_
        refine x_put (ws' := [((n 0), .inr (11, [.int mthrown, .ref (n 1), .ref (n 2), .ref (n 3), .ref (n 4), .int (nI mtaped), .ref (n 5), .int (nI msize), .int (nI mat), .int (nI mfrom), .int mtoken, .int mvalue, .int mfaultKind, .int mfaultPlace, .ref (n 6), .ref (n 7), .ref (n 8), .ref (n 9), .ref (n 10), .ref (n 11), .ref (n 12), .int (nI mmoreMany), .int mlawNow, .int mwetSet, .int moverAll, .ref (n 13), .ref (n 14), .ref (n 15), .int x_426, .int mtwos, .int mgone, .ref (n 16), .ref (n 17), .int mroundNow, .ref (n 18), .long msampleFor, .long msampleAll, .ref (n 19), .int maskWorst, .long moftenAll, .long moftenView, .long moftenOnes, .ref (n 20), .ref (n 21), .ref (n 22), .ref (n 23)])), ((n 1), .inl (k 0, 99, .inl fworld)), ((n 7), .inl (k 0, 12, .inl frowOf)), ((n 8), .inl (k 0, 12, .inl fplaceOf)), ((n 9), .inl (k 0, 4, .inl ffirstOf)), ((n 10), .inl (k 0, 12, .inl fhardNow))]) S hK hP hD hS 0 rfl cfX11 28 lkX11_284 (by decide) rfl rfl rfl (Nat.le_of_ble_eq_true rfl) rfl dX11_passOn_186 (fun H locs hP hD hS => ?_)
        refine lv_aload_n hx hb dX11_passOn_189 rfl (lv_at hl 3 rfl) ?_
        refine lv_iload_n hx hb dX11_passOn_190 rfl (lv_at hl 1 rfl) ?_
        refine x_put (ws' := [((n 0), .inr (11, [.int mthrown, .ref (n 1), .ref (n 2), .ref (n 3), .ref (n 4), .int (nI mtaped), .ref (n 5), .int (nI msize), .int (nI mat), .int (nI mfrom), .int mtoken, .int mvalue, .int mfaultKind, .int mfaultPlace, .ref (n 6), .ref (n 7), .ref (n 8), .ref (n 9), .ref (n 10), .ref (n 11), .ref (n 12), .int (nI mmoreMany), .int mlawNow, .int mwetSet, .int moverAll, .ref (n 13), .ref (n 14), .ref (n 15), .int x_426, .int x_425, .int mgone, .ref (n 16), .ref (n 17), .int mroundNow, .ref (n 18), .long msampleFor, .long msampleAll, .ref (n 19), .int maskWorst, .long moftenAll, .long moftenView, .long moftenOnes, .ref (n 20), .ref (n 21), .ref (n 22), .ref (n 23)])), ((n 1), .inl (k 0, 99, .inl fworld)), ((n 7), .inl (k 0, 12, .inl frowOf)), ((n 8), .inl (k 0, 12, .inl fplaceOf)), ((n 9), .inl (k 0, 4, .inl ffirstOf)), ((n 10), .inl (k 0, 12, .inl fhardNow))]) S hK hP hD hS 0 rfl cfX11 29 lkX11_287 (by decide) rfl rfl rfl (Nat.le_of_ble_eq_true rfl) rfl dX11_passOn_191 (fun H locs hP hD hS => ?_)
        exact x_retv S hr hlk hQ hS ((fun i => ([x_426, x_425] : List (Int32)).getD i 0), (fun i => ([] : List (Nat)).getD i 0), (fun i => ([] : List (Nat → Int32)).getD i (fun _ => 0)), (fun i => ([] : List (Nat → Int64)).getD i (fun _ => 0)), (fun i => ([] : List (Int64)).getD i 0)) trivial (x_B hP hD) dX11_passOn_194
      · skip
        have c_430 : ¬ wn fworld 4 ≤ j_424 := fun q => c_430 ((ni_le rfl rfl (by omega) (by omega)).mpr q)
        refine lv_aload_n hx hb dX11_passOn_22 rfl (lv_at hl 3 rfl) ?_
        refine x_get S hK hP 0 rfl cfX11 30 lkX11_281 (by decide) rfl dX11_passOn_23 ?_
        refine lv_iload hx hb dX11_passOn_26 (lv_at hl 0 rfl) ?_
        refine x_roSi (As := [.int mgone, .int (nI j_424)]) S hK hP hD hZ (fun _ h => h) hA hS hA hl mwX11_bit lkX11_274 (ctX11_bit l D k z mgone (nI j_424) ) [] rfl (by decide) rfl rfl ⟨Nat.le_of_ble_eq_true rfl, Nat.le_of_ble_eq_true rfl, Nat.le_of_ble_eq_true rfl⟩ dX11_passOn_28 ⟨Nat.le_of_ble_eq_true rfl, Nat.le_of_ble_eq_true rfl⟩ (fun r_431 H locs hr_431 hP hS => ?_)
        refine lv_if_ne (tgt := 80) hx hb dX11_passOn_31 (by decide) (fun c_433 => ?_) (fun c_433 => ?_)
        · skip
          refine lv_iconst (v := 0) hx hb dX11_passOn_80 (by decide) ?_
          refine lv_istore (lv' := [(5, .int 0), (4, .int (nI j_424)), (3, .int x_425), (2, .int x_426), (0, .ref (n 0)), (1, .int p0)]) hx hb dX11_passOn_81 hl (by decide) rfl (fun ls hl => ?_)
          refine lv_aload_n hx hb dX11_passOn_83 rfl (lv_at hl 4 rfl) ?_
          refine lv_iload hx hb dX11_passOn_84 (lv_at hl 1 rfl) ?_
          refine lv_aload_n hx hb dX11_passOn_86 rfl (lv_at hl 4 rfl) ?_
          refine x_get S hK hP 0 rfl cfX11 28 lkX11_284 (by decide) rfl dX11_passOn_87 ?_
          refine lv_aload_n hx hb dX11_passOn_90 rfl (lv_at hl 4 rfl) ?_
          refine x_get S hK hP 0 rfl cfX11 29 lkX11_287 (by decide) rfl dX11_passOn_91 ?_
          refine x_roVi (As := [.int (nI j_424), .int mones, .int mtwos]) S hK hP hD hZ (fun _ h => h) hA hS hA hl mwX11_pullOf lkX11_299 (ctX11_pullOf l D k z n mthrown mtaped msize mat mfrom mtoken mvalue mfaultKind mfaultPlace mmoreMany mlawNow mwetSet moverAll mones mtwos mgone mroundNow msampleFor msampleAll maskWorst moftenAll moftenView moftenOnes fworld frowOf fplaceOf ffirstOf j_424 mones mtwos (by omega) (by omega) (by omega) (by omega) (by omega) (hkworld) (by omega)) [0, 1, 2, 3, 4] rfl (by decide) rfl rfl rfl rfl rfl ⟨Nat.le_of_ble_eq_true rfl, Nat.le_of_ble_eq_true rfl, Nat.le_of_ble_eq_true rfl⟩ dX11_passOn_94 ⟨Nat.le_of_ble_eq_true rfl, Nat.le_of_ble_eq_true rfl⟩ (fun r_434 H locs hr_434 hP hS => ?_)
          refine lv_istore (lv' := [(6, .int r_434), (5, .int 0), (4, .int (nI j_424)), (3, .int x_425), (2, .int x_426), (0, .ref (n 0)), (1, .int p0)]) hx hb dX11_passOn_97 hl (by decide) rfl (fun ls hl => ?_)
          refine lv_iload hx hb dX11_passOn_99 (lv_at hl 1 rfl) ?_
          refine lv_if_eq (tgt := 178) hx hb dX11_passOn_101 (by decide) (fun c_436 => ?_) (fun c_436 => absurd (by decide) c_436)
          refine lv_iinc (v := (nI (j_424 + 1))) (lv' := [(4, .int (nI (j_424 + 1))), (6, .int r_434), (5, .int 0), (3, .int x_425), (2, .int x_426), (0, .ref (n 0)), (1, .int p0)]) hx hb dX11_passOn_178 hl (k := 2) rfl (ni_inc _) (by decide) rfl (fun ls hl => ?_)
          refine lv_goto (tgt := 13) hx hb dX11_passOn_181 (by decide) ?_
          exact ihj_424 (j_424 + 1) x_425 x_426 _ _ _ (by omega) (by omega) hP hD hS (lv_sub hl [0, 3, 4, 5, 6] rfl)
        · skip
          refine lv_aload_n hx hb dX11_passOn_34 rfl (lv_at hl 3 rfl) ?_
          refine x_get S hK hP 0 rfl cfX11 24 lkX11_270 (by decide) rfl dX11_passOn_35 ?_
          refine lv_if_ne (tgt := 51) hx hb dX11_passOn_38 (by decide) (fun c_437 => ?_) (fun c_437 => ?_)
          · skip
            refine lv_aload_n hx hb dX11_passOn_51 rfl (lv_at hl 3 rfl) ?_
            refine x_get S hK hP 0 rfl cfX11 22 lkX11_261 (by decide) rfl dX11_passOn_52 ?_
            refine lv_iconst (v := 2) hx hb dX11_passOn_55 (by decide) ?_
            refine lv_icmp_ne (tgt := 76) hx hb dX11_passOn_56 (by decide) (fun c_438 => ?_) (fun c_438 => ?_)
            · skip
              refine lv_iconst (v := 1) hx hb dX11_passOn_76 (by decide) ?_
              refine lv_goto (tgt := 81) hx hb dX11_passOn_77 (by decide) ?_
              refine lv_istore (lv' := [(5, .int 1), (4, .int (nI j_424)), (3, .int x_425), (2, .int x_426), (0, .ref (n 0)), (1, .int p0)]) hx hb dX11_passOn_81 hl (by decide) rfl (fun ls hl => ?_)
              refine lv_aload_n hx hb dX11_passOn_83 rfl (lv_at hl 4 rfl) ?_
              refine lv_iload hx hb dX11_passOn_84 (lv_at hl 1 rfl) ?_
              refine lv_aload_n hx hb dX11_passOn_86 rfl (lv_at hl 4 rfl) ?_
              refine x_get S hK hP 0 rfl cfX11 28 lkX11_284 (by decide) rfl dX11_passOn_87 ?_
              refine lv_aload_n hx hb dX11_passOn_90 rfl (lv_at hl 4 rfl) ?_
              refine x_get S hK hP 0 rfl cfX11 29 lkX11_287 (by decide) rfl dX11_passOn_91 ?_
              refine x_roVi (As := [.int (nI j_424), .int mones, .int mtwos]) S hK hP hD hZ (fun _ h => h) hA hS hA hl mwX11_pullOf lkX11_299 (ctX11_pullOf l D k z n mthrown mtaped msize mat mfrom mtoken mvalue mfaultKind mfaultPlace mmoreMany mlawNow mwetSet moverAll mones mtwos mgone mroundNow msampleFor msampleAll maskWorst moftenAll moftenView moftenOnes fworld frowOf fplaceOf ffirstOf j_424 mones mtwos (by omega) (by omega) (by omega) (by omega) (by omega) (hkworld) (by omega)) [0, 1, 2, 3, 4] rfl (by decide) rfl rfl rfl rfl rfl ⟨Nat.le_of_ble_eq_true rfl, Nat.le_of_ble_eq_true rfl, Nat.le_of_ble_eq_true rfl⟩ dX11_passOn_94 ⟨Nat.le_of_ble_eq_true rfl, Nat.le_of_ble_eq_true rfl⟩ (fun r_439 H locs hr_439 hP hS => ?_)
              refine lv_istore (lv' := [(6, .int r_439), (5, .int 1), (4, .int (nI j_424)), (3, .int x_425), (2, .int x_426), (0, .ref (n 0)), (1, .int p0)]) hx hb dX11_passOn_97 hl (by decide) rfl (fun ls hl => ?_)
              refine lv_iload hx hb dX11_passOn_99 (lv_at hl 1 rfl) ?_
              refine lv_if_eq (tgt := 178) hx hb dX11_passOn_101 (by decide) (fun c_441 => absurd c_441 (by decide)) (fun c_441 => ?_)
              refine lv_iload hx hb dX11_passOn_104 (lv_at hl 0 rfl) ?_
              refine lv_aload_n hx hb dX11_passOn_106 rfl (lv_at hl 5 rfl) ?_
              refine x_get S hK hP 0 rfl cfX11 18 lkX11_43 (by decide) rfl dX11_passOn_107 ?_
              refine lv_iload hx hb dX11_passOn_110 (lv_at hl 2 rfl) ?_
              refine x_iald S hK hP 5 rfl (vp_in_nI (by omega) (by decide)) dX11_passOn_112 ?_
              refine lv_topi (fun v_442 ev_442 => ?_)
              refine lv_icmp_ge (tgt := 132) hx hb dX11_passOn_113 (by decide) (fun c_443 => ?_) (fun c_443 => ?_)
              · skip
                refine lv_iload hx hb dX11_passOn_132 (lv_at hl 0 rfl) ?_
                refine lv_if_le (tgt := 146) hx hb dX11_passOn_134 (by decide) (fun c_444 => ?_) (fun c_444 => ?_)
                · skip
                  refine lv_iload_n hx hb dX11_passOn_146 rfl (lv_at hl 4 rfl) ?_
                  refine lv_iconst (v := 1) hx hb dX11_passOn_147 (by decide) ?_
                  refine lv_iload hx hb dX11_passOn_148 (lv_at hl 2 rfl) ?_
                  refine lv_ishl hx hb dX11_passOn_150 ?_
                  refine lv_topi (fun v_445 ev_445 => ?_)
                  refine lv_iconst (v := (-1)) hx hb dX11_passOn_151 (by decide) ?_
                  refine lv_ixor hx hb dX11_passOn_152 ?_
                  refine lv_topi (fun v_446 ev_446 => ?_)
                  refine lv_iand hx hb dX11_passOn_153 ?_
                  refine lv_topi (fun v_447 ev_447 => ?_)
                  refine lv_istore_n (lv' := [(2, .int v_447), (6, .int r_439), (5, .int 1), (4, .int (nI j_424)), (3, .int x_425), (0, .ref (n 0)), (1, .int p0)]) hx hb dX11_passOn_154 rfl hl (by decide) rfl (fun ls hl => ?_)
                  refine lv_iload hx hb dX11_passOn_155 (lv_at hl 1 rfl) ?_
                  refine lv_if_ge (tgt := 169) hx hb dX11_passOn_157 (by decide) (fun c_448 => ?_) (fun c_448 => ?_)
                  · skip
                    refine lv_iload_n hx hb dX11_passOn_169 rfl (lv_at hl 4 rfl) ?_
                    refine lv_iconst (v := 1) hx hb dX11_passOn_170 (by decide) ?_
                    refine lv_iload hx hb dX11_passOn_171 (lv_at hl 3 rfl) ?_
                    refine lv_ishl hx hb dX11_passOn_173 ?_
                    refine lv_topi (fun v_449 ev_449 => ?_)
                    refine lv_iconst (v := (-1)) hx hb dX11_passOn_174 (by decide) ?_
                    refine lv_ixor hx hb dX11_passOn_175 ?_
                    refine lv_topi (fun v_450 ev_450 => ?_)
                    refine lv_iand hx hb dX11_passOn_176 ?_
                    refine lv_topi (fun v_451 ev_451 => ?_)
                    refine lv_istore_n (lv' := [(3, .int v_451), (2, .int v_447), (6, .int r_439), (5, .int 1), (4, .int (nI j_424)), (0, .ref (n 0)), (1, .int p0)]) hx hb dX11_passOn_177 rfl hl (by decide) rfl (fun ls hl => ?_)
                    refine lv_iinc (v := (nI (j_424 + 1))) (lv' := [(4, .int (nI (j_424 + 1))), (3, .int v_451), (2, .int v_447), (6, .int r_439), (5, .int 1), (0, .ref (n 0)), (1, .int p0)]) hx hb dX11_passOn_178 hl (k := 4) rfl (ni_inc _) (by decide) rfl (fun ls hl => ?_)
                    refine lv_goto (tgt := 13) hx hb dX11_passOn_181 (by decide) ?_
                    exact ihj_424 (j_424 + 1) v_451 v_447 _ _ _ (by omega) (by omega) hP hD hS (lv_sub hl [0, 1, 2, 5, 6] rfl)
                  · skip
                    refine lv_iload_n hx hb dX11_passOn_160 rfl (lv_at hl 4 rfl) ?_
                    refine lv_iconst (v := 1) hx hb dX11_passOn_161 (by decide) ?_
                    refine lv_iload hx hb dX11_passOn_162 (lv_at hl 3 rfl) ?_
                    refine lv_ishl hx hb dX11_passOn_164 ?_
                    refine lv_topi (fun v_452 ev_452 => ?_)
                    refine lv_ior hx hb dX11_passOn_165 ?_
                    refine lv_topi (fun v_453 ev_453 => ?_)
                    refine lv_goto (tgt := 177) hx hb dX11_passOn_166 (by decide) ?_
                    refine lv_istore_n (lv' := [(3, .int v_453), (2, .int v_447), (6, .int r_439), (5, .int 1), (4, .int (nI j_424)), (0, .ref (n 0)), (1, .int p0)]) hx hb dX11_passOn_177 rfl hl (by decide) rfl (fun ls hl => ?_)
                    refine lv_iinc (v := (nI (j_424 + 1))) (lv' := [(4, .int (nI (j_424 + 1))), (3, .int v_453), (2, .int v_447), (6, .int r_439), (5, .int 1), (0, .ref (n 0)), (1, .int p0)]) hx hb dX11_passOn_178 hl (k := 4) rfl (ni_inc _) (by decide) rfl (fun ls hl => ?_)
                    refine lv_goto (tgt := 13) hx hb dX11_passOn_181 (by decide) ?_
                    exact ihj_424 (j_424 + 1) v_453 v_447 _ _ _ (by omega) (by omega) hP hD hS (lv_sub hl [0, 1, 2, 5, 6] rfl)
                · skip
                  refine lv_iload_n hx hb dX11_passOn_137 rfl (lv_at hl 4 rfl) ?_
                  refine lv_iconst (v := 1) hx hb dX11_passOn_138 (by decide) ?_
                  refine lv_iload hx hb dX11_passOn_139 (lv_at hl 2 rfl) ?_
                  refine lv_ishl hx hb dX11_passOn_141 ?_
                  refine lv_topi (fun v_454 ev_454 => ?_)
                  refine lv_ior hx hb dX11_passOn_142 ?_
                  refine lv_topi (fun v_455 ev_455 => ?_)
                  refine lv_goto (tgt := 154) hx hb dX11_passOn_143 (by decide) ?_
                  refine lv_istore_n (lv' := [(2, .int v_455), (6, .int r_439), (5, .int 1), (4, .int (nI j_424)), (3, .int x_425), (0, .ref (n 0)), (1, .int p0)]) hx hb dX11_passOn_154 rfl hl (by decide) rfl (fun ls hl => ?_)
                  refine lv_iload hx hb dX11_passOn_155 (lv_at hl 1 rfl) ?_
                  refine lv_if_ge (tgt := 169) hx hb dX11_passOn_157 (by decide) (fun c_456 => ?_) (fun c_456 => ?_)
                  · skip
                    refine lv_iload_n hx hb dX11_passOn_169 rfl (lv_at hl 4 rfl) ?_
                    refine lv_iconst (v := 1) hx hb dX11_passOn_170 (by decide) ?_
                    refine lv_iload hx hb dX11_passOn_171 (lv_at hl 3 rfl) ?_
                    refine lv_ishl hx hb dX11_passOn_173 ?_
                    refine lv_topi (fun v_457 ev_457 => ?_)
                    refine lv_iconst (v := (-1)) hx hb dX11_passOn_174 (by decide) ?_
                    refine lv_ixor hx hb dX11_passOn_175 ?_
                    refine lv_topi (fun v_458 ev_458 => ?_)
                    refine lv_iand hx hb dX11_passOn_176 ?_
                    refine lv_topi (fun v_459 ev_459 => ?_)
                    refine lv_istore_n (lv' := [(3, .int v_459), (2, .int v_455), (6, .int r_439), (5, .int 1), (4, .int (nI j_424)), (0, .ref (n 0)), (1, .int p0)]) hx hb dX11_passOn_177 rfl hl (by decide) rfl (fun ls hl => ?_)
                    refine lv_iinc (v := (nI (j_424 + 1))) (lv' := [(4, .int (nI (j_424 + 1))), (3, .int v_459), (2, .int v_455), (6, .int r_439), (5, .int 1), (0, .ref (n 0)), (1, .int p0)]) hx hb dX11_passOn_178 hl (k := 4) rfl (ni_inc _) (by decide) rfl (fun ls hl => ?_)
                    refine lv_goto (tgt := 13) hx hb dX11_passOn_181 (by decide) ?_
                    exact ihj_424 (j_424 + 1) v_459 v_455 _ _ _ (by omega) (by omega) hP hD hS (lv_sub hl [0, 1, 2, 5, 6] rfl)
                  · skip
                    refine lv_iload_n hx hb dX11_passOn_160 rfl (lv_at hl 4 rfl) ?_
                    refine lv_iconst (v := 1) hx hb dX11_passOn_161 (by decide) ?_
                    refine lv_iload hx hb dX11_passOn_162 (lv_at hl 3 rfl) ?_
                    refine lv_ishl hx hb dX11_passOn_164 ?_
                    refine lv_topi (fun v_460 ev_460 => ?_)
                    refine lv_ior hx hb dX11_passOn_165 ?_
                    refine lv_topi (fun v_461 ev_461 => ?_)
                    refine lv_goto (tgt := 177) hx hb dX11_passOn_166 (by decide) ?_
                    refine lv_istore_n (lv' := [(3, .int v_461), (2, .int v_455), (6, .int r_439), (5, .int 1), (4, .int (nI j_424)), (0, .ref (n 0)), (1, .int p0)]) hx hb dX11_passOn_177 rfl hl (by decide) rfl (fun ls hl => ?_)
                    refine lv_iinc (v := (nI (j_424 + 1))) (lv' := [(4, .int (nI (j_424 + 1))), (3, .int v_461), (2, .int v_455), (6, .int r_439), (5, .int 1), (0, .ref (n 0)), (1, .int p0)]) hx hb dX11_passOn_178 hl (k := 4) rfl (ni_inc _) (by decide) rfl (fun ls hl => ?_)
                    refine lv_goto (tgt := 13) hx hb dX11_passOn_181 (by decide) ?_
                    exact ihj_424 (j_424 + 1) v_461 v_455 _ _ _ (by omega) (by omega) hP hD hS (lv_sub hl [0, 1, 2, 5, 6] rfl)
              · skip
                refine lv_iload hx hb dX11_passOn_116 (lv_at hl 0 rfl) ?_
                refine lv_ineg hx hb dX11_passOn_118 ?_
                refine lv_topi (fun v_462 ev_462 => ?_)
                refine lv_aload_n hx hb dX11_passOn_119 rfl (lv_at hl 5 rfl) ?_
                refine x_get S hK hP 0 rfl cfX11 18 lkX11_43 (by decide) rfl dX11_passOn_120 ?_
                refine lv_iload hx hb dX11_passOn_123 (lv_at hl 2 rfl) ?_
                refine x_iald S hK hP 5 rfl (vp_in_nI (by omega) (by decide)) dX11_passOn_125 ?_
                refine lv_topi (fun v_463 ev_463 => ?_)
                refine lv_icmp_ge (tgt := 132) hx hb dX11_passOn_126 (by decide) (fun c_464 => ?_) (fun c_464 => ?_)
                · skip
                  refine lv_iload hx hb dX11_passOn_132 (lv_at hl 0 rfl) ?_
                  refine lv_if_le (tgt := 146) hx hb dX11_passOn_134 (by decide) (fun c_465 => ?_) (fun c_465 => ?_)
                  · skip
                    refine lv_iload_n hx hb dX11_passOn_146 rfl (lv_at hl 4 rfl) ?_
                    refine lv_iconst (v := 1) hx hb dX11_passOn_147 (by decide) ?_
                    refine lv_iload hx hb dX11_passOn_148 (lv_at hl 2 rfl) ?_
                    refine lv_ishl hx hb dX11_passOn_150 ?_
                    refine lv_topi (fun v_466 ev_466 => ?_)
                    refine lv_iconst (v := (-1)) hx hb dX11_passOn_151 (by decide) ?_
                    refine lv_ixor hx hb dX11_passOn_152 ?_
                    refine lv_topi (fun v_467 ev_467 => ?_)
                    refine lv_iand hx hb dX11_passOn_153 ?_
                    refine lv_topi (fun v_468 ev_468 => ?_)
                    refine lv_istore_n (lv' := [(2, .int v_468), (6, .int r_439), (5, .int 1), (4, .int (nI j_424)), (3, .int x_425), (0, .ref (n 0)), (1, .int p0)]) hx hb dX11_passOn_154 rfl hl (by decide) rfl (fun ls hl => ?_)
                    refine lv_iload hx hb dX11_passOn_155 (lv_at hl 1 rfl) ?_
                    refine lv_if_ge (tgt := 169) hx hb dX11_passOn_157 (by decide) (fun c_469 => ?_) (fun c_469 => ?_)
                    · skip
                      refine lv_iload_n hx hb dX11_passOn_169 rfl (lv_at hl 4 rfl) ?_
                      refine lv_iconst (v := 1) hx hb dX11_passOn_170 (by decide) ?_
                      refine lv_iload hx hb dX11_passOn_171 (lv_at hl 3 rfl) ?_
                      refine lv_ishl hx hb dX11_passOn_173 ?_
                      refine lv_topi (fun v_470 ev_470 => ?_)
                      refine lv_iconst (v := (-1)) hx hb dX11_passOn_174 (by decide) ?_
                      refine lv_ixor hx hb dX11_passOn_175 ?_
                      refine lv_topi (fun v_471 ev_471 => ?_)
                      refine lv_iand hx hb dX11_passOn_176 ?_
                      refine lv_topi (fun v_472 ev_472 => ?_)
                      refine lv_istore_n (lv' := [(3, .int v_472), (2, .int v_468), (6, .int r_439), (5, .int 1), (4, .int (nI j_424)), (0, .ref (n 0)), (1, .int p0)]) hx hb dX11_passOn_177 rfl hl (by decide) rfl (fun ls hl => ?_)
                      refine lv_iinc (v := (nI (j_424 + 1))) (lv' := [(4, .int (nI (j_424 + 1))), (3, .int v_472), (2, .int v_468), (6, .int r_439), (5, .int 1), (0, .ref (n 0)), (1, .int p0)]) hx hb dX11_passOn_178 hl (k := 4) rfl (ni_inc _) (by decide) rfl (fun ls hl => ?_)
                      refine lv_goto (tgt := 13) hx hb dX11_passOn_181 (by decide) ?_
                      exact ihj_424 (j_424 + 1) v_472 v_468 _ _ _ (by omega) (by omega) hP hD hS (lv_sub hl [0, 1, 2, 5, 6] rfl)
                    · skip
                      refine lv_iload_n hx hb dX11_passOn_160 rfl (lv_at hl 4 rfl) ?_
                      refine lv_iconst (v := 1) hx hb dX11_passOn_161 (by decide) ?_
                      refine lv_iload hx hb dX11_passOn_162 (lv_at hl 3 rfl) ?_
                      refine lv_ishl hx hb dX11_passOn_164 ?_
                      refine lv_topi (fun v_473 ev_473 => ?_)
                      refine lv_ior hx hb dX11_passOn_165 ?_
                      refine lv_topi (fun v_474 ev_474 => ?_)
                      refine lv_goto (tgt := 177) hx hb dX11_passOn_166 (by decide) ?_
                      refine lv_istore_n (lv' := [(3, .int v_474), (2, .int v_468), (6, .int r_439), (5, .int 1), (4, .int (nI j_424)), (0, .ref (n 0)), (1, .int p0)]) hx hb dX11_passOn_177 rfl hl (by decide) rfl (fun ls hl => ?_)
                      refine lv_iinc (v := (nI (j_424 + 1))) (lv' := [(4, .int (nI (j_424 + 1))), (3, .int v_474), (2, .int v_468), (6, .int r_439), (5, .int 1), (0, .ref (n 0)), (1, .int p0)]) hx hb dX11_passOn_178 hl (k := 4) rfl (ni_inc _) (by decide) rfl (fun ls hl => ?_)
                      refine lv_goto (tgt := 13) hx hb dX11_passOn_181 (by decide) ?_
                      exact ihj_424 (j_424 + 1) v_474 v_468 _ _ _ (by omega) (by omega) hP hD hS (lv_sub hl [0, 1, 2, 5, 6] rfl)
                  · skip
                    refine lv_iload_n hx hb dX11_passOn_137 rfl (lv_at hl 4 rfl) ?_
                    refine lv_iconst (v := 1) hx hb dX11_passOn_138 (by decide) ?_
                    refine lv_iload hx hb dX11_passOn_139 (lv_at hl 2 rfl) ?_
                    refine lv_ishl hx hb dX11_passOn_141 ?_
                    refine lv_topi (fun v_475 ev_475 => ?_)
                    refine lv_ior hx hb dX11_passOn_142 ?_
                    refine lv_topi (fun v_476 ev_476 => ?_)
                    refine lv_goto (tgt := 154) hx hb dX11_passOn_143 (by decide) ?_
                    refine lv_istore_n (lv' := [(2, .int v_476), (6, .int r_439), (5, .int 1), (4, .int (nI j_424)), (3, .int x_425), (0, .ref (n 0)), (1, .int p0)]) hx hb dX11_passOn_154 rfl hl (by decide) rfl (fun ls hl => ?_)
                    refine lv_iload hx hb dX11_passOn_155 (lv_at hl 1 rfl) ?_
                    refine lv_if_ge (tgt := 169) hx hb dX11_passOn_157 (by decide) (fun c_477 => ?_) (fun c_477 => ?_)
                    · skip
                      refine lv_iload_n hx hb dX11_passOn_169 rfl (lv_at hl 4 rfl) ?_
                      refine lv_iconst (v := 1) hx hb dX11_passOn_170 (by decide) ?_
                      refine lv_iload hx hb dX11_passOn_171 (lv_at hl 3 rfl) ?_
                      refine lv_ishl hx hb dX11_passOn_173 ?_
                      refine lv_topi (fun v_478 ev_478 => ?_)
                      refine lv_iconst (v := (-1)) hx hb dX11_passOn_174 (by decide) ?_
                      refine lv_ixor hx hb dX11_passOn_175 ?_
                      refine lv_topi (fun v_479 ev_479 => ?_)
                      refine lv_iand hx hb dX11_passOn_176 ?_
                      refine lv_topi (fun v_480 ev_480 => ?_)
                      refine lv_istore_n (lv' := [(3, .int v_480), (2, .int v_476), (6, .int r_439), (5, .int 1), (4, .int (nI j_424)), (0, .ref (n 0)), (1, .int p0)]) hx hb dX11_passOn_177 rfl hl (by decide) rfl (fun ls hl => ?_)
                      refine lv_iinc (v := (nI (j_424 + 1))) (lv' := [(4, .int (nI (j_424 + 1))), (3, .int v_480), (2, .int v_476), (6, .int r_439), (5, .int 1), (0, .ref (n 0)), (1, .int p0)]) hx hb dX11_passOn_178 hl (k := 4) rfl (ni_inc _) (by decide) rfl (fun ls hl => ?_)
                      refine lv_goto (tgt := 13) hx hb dX11_passOn_181 (by decide) ?_
                      exact ihj_424 (j_424 + 1) v_480 v_476 _ _ _ (by omega) (by omega) hP hD hS (lv_sub hl [0, 1, 2, 5, 6] rfl)
                    · skip
                      refine lv_iload_n hx hb dX11_passOn_160 rfl (lv_at hl 4 rfl) ?_
                      refine lv_iconst (v := 1) hx hb dX11_passOn_161 (by decide) ?_
                      refine lv_iload hx hb dX11_passOn_162 (lv_at hl 3 rfl) ?_
                      refine lv_ishl hx hb dX11_passOn_164 ?_
                      refine lv_topi (fun v_481 ev_481 => ?_)
                      refine lv_ior hx hb dX11_passOn_165 ?_
                      refine lv_topi (fun v_482 ev_482 => ?_)
                      refine lv_goto (tgt := 177) hx hb dX11_passOn_166 (by decide) ?_
                      refine lv_istore_n (lv' := [(3, .int v_482), (2, .int v_476), (6, .int r_439), (5, .int 1), (4, .int (nI j_424)), (0, .ref (n 0)), (1, .int p0)]) hx hb dX11_passOn_177 rfl hl (by decide) rfl (fun ls hl => ?_)
                      refine lv_iinc (v := (nI (j_424 + 1))) (lv' := [(4, .int (nI (j_424 + 1))), (3, .int v_482), (2, .int v_476), (6, .int r_439), (5, .int 1), (0, .ref (n 0)), (1, .int p0)]) hx hb dX11_passOn_178 hl (k := 4) rfl (ni_inc _) (by decide) rfl (fun ls hl => ?_)
                      refine lv_goto (tgt := 13) hx hb dX11_passOn_181 (by decide) ?_
                      exact ihj_424 (j_424 + 1) v_482 v_476 _ _ _ (by omega) (by omega) hP hD hS (lv_sub hl [0, 1, 2, 5, 6] rfl)
                · skip
                  refine lv_goto (tgt := 178) hx hb dX11_passOn_129 (by decide) ?_
                  refine lv_iinc (v := (nI (j_424 + 1))) (lv' := [(4, .int (nI (j_424 + 1))), (6, .int r_439), (5, .int 1), (3, .int x_425), (2, .int x_426), (0, .ref (n 0)), (1, .int p0)]) hx hb dX11_passOn_178 hl (k := 2) rfl (ni_inc _) (by decide) rfl (fun ls hl => ?_)
                  refine lv_goto (tgt := 13) hx hb dX11_passOn_181 (by decide) ?_
                  exact ihj_424 (j_424 + 1) x_425 x_426 _ _ _ (by omega) (by omega) hP hD hS (lv_sub hl [0, 3, 4, 5, 6] rfl)
            · skip
              refine lv_aload_n hx hb dX11_passOn_59 rfl (lv_at hl 3 rfl) ?_
              refine x_get S hK hP 0 rfl cfX11 28 lkX11_284 (by decide) rfl dX11_passOn_60 ?_
              refine lv_aload_n hx hb dX11_passOn_63 rfl (lv_at hl 3 rfl) ?_
              refine x_get S hK hP 0 rfl cfX11 29 lkX11_287 (by decide) rfl dX11_passOn_64 ?_
              refine lv_ior hx hb dX11_passOn_67 ?_
              refine lv_topi (fun v_483 ev_483 => ?_)
              refine lv_iload hx hb dX11_passOn_68 (lv_at hl 0 rfl) ?_
              refine x_roSi (As := [.int v_483, .int (nI j_424)]) S hK hP hD hZ (fun _ h => h) hA hS hA hl mwX11_bit lkX11_274 (ctX11_bit l D k z v_483 (nI j_424) ) [] rfl (by decide) rfl rfl ⟨Nat.le_of_ble_eq_true rfl, Nat.le_of_ble_eq_true rfl, Nat.le_of_ble_eq_true rfl⟩ dX11_passOn_70 ⟨Nat.le_of_ble_eq_true rfl, Nat.le_of_ble_eq_true rfl⟩ (fun r_484 H locs hr_484 hP hS => ?_)
              refine lv_if_ne (tgt := 80) hx hb dX11_passOn_73 (by decide) (fun c_486 => ?_) (fun c_486 => ?_)
              · skip
                refine lv_iconst (v := 0) hx hb dX11_passOn_80 (by decide) ?_
                refine lv_istore (lv' := [(5, .int 0), (4, .int (nI j_424)), (3, .int x_425), (2, .int x_426), (0, .ref (n 0)), (1, .int p0)]) hx hb dX11_passOn_81 hl (by decide) rfl (fun ls hl => ?_)
                refine lv_aload_n hx hb dX11_passOn_83 rfl (lv_at hl 4 rfl) ?_
                refine lv_iload hx hb dX11_passOn_84 (lv_at hl 1 rfl) ?_
                refine lv_aload_n hx hb dX11_passOn_86 rfl (lv_at hl 4 rfl) ?_
                refine x_get S hK hP 0 rfl cfX11 28 lkX11_284 (by decide) rfl dX11_passOn_87 ?_
                refine lv_aload_n hx hb dX11_passOn_90 rfl (lv_at hl 4 rfl) ?_
                refine x_get S hK hP 0 rfl cfX11 29 lkX11_287 (by decide) rfl dX11_passOn_91 ?_
                refine x_roVi (As := [.int (nI j_424), .int mones, .int mtwos]) S hK hP hD hZ (fun _ h => h) hA hS hA hl mwX11_pullOf lkX11_299 (ctX11_pullOf l D k z n mthrown mtaped msize mat mfrom mtoken mvalue mfaultKind mfaultPlace mmoreMany mlawNow mwetSet moverAll mones mtwos mgone mroundNow msampleFor msampleAll maskWorst moftenAll moftenView moftenOnes fworld frowOf fplaceOf ffirstOf j_424 mones mtwos (by omega) (by omega) (by omega) (by omega) (by omega) (hkworld) (by omega)) [0, 1, 2, 3, 4] rfl (by decide) rfl rfl rfl rfl rfl ⟨Nat.le_of_ble_eq_true rfl, Nat.le_of_ble_eq_true rfl, Nat.le_of_ble_eq_true rfl⟩ dX11_passOn_94 ⟨Nat.le_of_ble_eq_true rfl, Nat.le_of_ble_eq_true rfl⟩ (fun r_487 H locs hr_487 hP hS => ?_)
                refine lv_istore (lv' := [(6, .int r_487), (5, .int 0), (4, .int (nI j_424)), (3, .int x_425), (2, .int x_426), (0, .ref (n 0)), (1, .int p0)]) hx hb dX11_passOn_97 hl (by decide) rfl (fun ls hl => ?_)
                refine lv_iload hx hb dX11_passOn_99 (lv_at hl 1 rfl) ?_
                refine lv_if_eq (tgt := 178) hx hb dX11_passOn_101 (by decide) (fun c_489 => ?_) (fun c_489 => absurd (by decide) c_489)
                refine lv_iinc (v := (nI (j_424 + 1))) (lv' := [(4, .int (nI (j_424 + 1))), (6, .int r_487), (5, .int 0), (3, .int x_425), (2, .int x_426), (0, .ref (n 0)), (1, .int p0)]) hx hb dX11_passOn_178 hl (k := 2) rfl (ni_inc _) (by decide) rfl (fun ls hl => ?_)
                refine lv_goto (tgt := 13) hx hb dX11_passOn_181 (by decide) ?_
                exact ihj_424 (j_424 + 1) x_425 x_426 _ _ _ (by omega) (by omega) hP hD hS (lv_sub hl [0, 3, 4, 5, 6] rfl)
              · skip
                refine lv_iconst (v := 1) hx hb dX11_passOn_76 (by decide) ?_
                refine lv_goto (tgt := 81) hx hb dX11_passOn_77 (by decide) ?_
                refine lv_istore (lv' := [(5, .int 1), (4, .int (nI j_424)), (3, .int x_425), (2, .int x_426), (0, .ref (n 0)), (1, .int p0)]) hx hb dX11_passOn_81 hl (by decide) rfl (fun ls hl => ?_)
                refine lv_aload_n hx hb dX11_passOn_83 rfl (lv_at hl 4 rfl) ?_
                refine lv_iload hx hb dX11_passOn_84 (lv_at hl 1 rfl) ?_
                refine lv_aload_n hx hb dX11_passOn_86 rfl (lv_at hl 4 rfl) ?_
                refine x_get S hK hP 0 rfl cfX11 28 lkX11_284 (by decide) rfl dX11_passOn_87 ?_
                refine lv_aload_n hx hb dX11_passOn_90 rfl (lv_at hl 4 rfl) ?_
                refine x_get S hK hP 0 rfl cfX11 29 lkX11_287 (by decide) rfl dX11_passOn_91 ?_
                refine x_roVi (As := [.int (nI j_424), .int mones, .int mtwos]) S hK hP hD hZ (fun _ h => h) hA hS hA hl mwX11_pullOf lkX11_299 (ctX11_pullOf l D k z n mthrown mtaped msize mat mfrom mtoken mvalue mfaultKind mfaultPlace mmoreMany mlawNow mwetSet moverAll mones mtwos mgone mroundNow msampleFor msampleAll maskWorst moftenAll moftenView moftenOnes fworld frowOf fplaceOf ffirstOf j_424 mones mtwos (by omega) (by omega) (by omega) (by omega) (by omega) (hkworld) (by omega)) [0, 1, 2, 3, 4] rfl (by decide) rfl rfl rfl rfl rfl ⟨Nat.le_of_ble_eq_true rfl, Nat.le_of_ble_eq_true rfl, Nat.le_of_ble_eq_true rfl⟩ dX11_passOn_94 ⟨Nat.le_of_ble_eq_true rfl, Nat.le_of_ble_eq_true rfl⟩ (fun r_490 H locs hr_490 hP hS => ?_)
                refine lv_istore (lv' := [(6, .int r_490), (5, .int 1), (4, .int (nI j_424)), (3, .int x_425), (2, .int x_426), (0, .ref (n 0)), (1, .int p0)]) hx hb dX11_passOn_97 hl (by decide) rfl (fun ls hl => ?_)
                refine lv_iload hx hb dX11_passOn_99 (lv_at hl 1 rfl) ?_
                refine lv_if_eq (tgt := 178) hx hb dX11_passOn_101 (by decide) (fun c_492 => absurd c_492 (by decide)) (fun c_492 => ?_)
                refine lv_iload hx hb dX11_passOn_104 (lv_at hl 0 rfl) ?_
                refine lv_aload_n hx hb dX11_passOn_106 rfl (lv_at hl 5 rfl) ?_
                refine x_get S hK hP 0 rfl cfX11 18 lkX11_43 (by decide) rfl dX11_passOn_107 ?_
                refine lv_iload hx hb dX11_passOn_110 (lv_at hl 2 rfl) ?_
                refine x_iald S hK hP 5 rfl (vp_in_nI (by omega) (by decide)) dX11_passOn_112 ?_
                refine lv_topi (fun v_493 ev_493 => ?_)
                refine lv_icmp_ge (tgt := 132) hx hb dX11_passOn_113 (by decide) (fun c_494 => ?_) (fun c_494 => ?_)
                · skip
                  refine lv_iload hx hb dX11_passOn_132 (lv_at hl 0 rfl) ?_
                  refine lv_if_le (tgt := 146) hx hb dX11_passOn_134 (by decide) (fun c_495 => ?_) (fun c_495 => ?_)
                  · skip
                    refine lv_iload_n hx hb dX11_passOn_146 rfl (lv_at hl 4 rfl) ?_
                    refine lv_iconst (v := 1) hx hb dX11_passOn_147 (by decide) ?_
                    refine lv_iload hx hb dX11_passOn_148 (lv_at hl 2 rfl) ?_
                    refine lv_ishl hx hb dX11_passOn_150 ?_
                    refine lv_topi (fun v_496 ev_496 => ?_)
                    refine lv_iconst (v := (-1)) hx hb dX11_passOn_151 (by decide) ?_
                    refine lv_ixor hx hb dX11_passOn_152 ?_
                    refine lv_topi (fun v_497 ev_497 => ?_)
                    refine lv_iand hx hb dX11_passOn_153 ?_
                    refine lv_topi (fun v_498 ev_498 => ?_)
                    refine lv_istore_n (lv' := [(2, .int v_498), (6, .int r_490), (5, .int 1), (4, .int (nI j_424)), (3, .int x_425), (0, .ref (n 0)), (1, .int p0)]) hx hb dX11_passOn_154 rfl hl (by decide) rfl (fun ls hl => ?_)
                    refine lv_iload hx hb dX11_passOn_155 (lv_at hl 1 rfl) ?_
                    refine lv_if_ge (tgt := 169) hx hb dX11_passOn_157 (by decide) (fun c_499 => ?_) (fun c_499 => ?_)
                    · skip
                      refine lv_iload_n hx hb dX11_passOn_169 rfl (lv_at hl 4 rfl) ?_
                      refine lv_iconst (v := 1) hx hb dX11_passOn_170 (by decide) ?_
                      refine lv_iload hx hb dX11_passOn_171 (lv_at hl 3 rfl) ?_
                      refine lv_ishl hx hb dX11_passOn_173 ?_
                      refine lv_topi (fun v_500 ev_500 => ?_)
                      refine lv_iconst (v := (-1)) hx hb dX11_passOn_174 (by decide) ?_
                      refine lv_ixor hx hb dX11_passOn_175 ?_
                      refine lv_topi (fun v_501 ev_501 => ?_)
                      refine lv_iand hx hb dX11_passOn_176 ?_
                      refine lv_topi (fun v_502 ev_502 => ?_)
                      refine lv_istore_n (lv' := [(3, .int v_502), (2, .int v_498), (6, .int r_490), (5, .int 1), (4, .int (nI j_424)), (0, .ref (n 0)), (1, .int p0)]) hx hb dX11_passOn_177 rfl hl (by decide) rfl (fun ls hl => ?_)
                      refine lv_iinc (v := (nI (j_424 + 1))) (lv' := [(4, .int (nI (j_424 + 1))), (3, .int v_502), (2, .int v_498), (6, .int r_490), (5, .int 1), (0, .ref (n 0)), (1, .int p0)]) hx hb dX11_passOn_178 hl (k := 4) rfl (ni_inc _) (by decide) rfl (fun ls hl => ?_)
                      refine lv_goto (tgt := 13) hx hb dX11_passOn_181 (by decide) ?_
                      exact ihj_424 (j_424 + 1) v_502 v_498 _ _ _ (by omega) (by omega) hP hD hS (lv_sub hl [0, 1, 2, 5, 6] rfl)
                    · skip
                      refine lv_iload_n hx hb dX11_passOn_160 rfl (lv_at hl 4 rfl) ?_
                      refine lv_iconst (v := 1) hx hb dX11_passOn_161 (by decide) ?_
                      refine lv_iload hx hb dX11_passOn_162 (lv_at hl 3 rfl) ?_
                      refine lv_ishl hx hb dX11_passOn_164 ?_
                      refine lv_topi (fun v_503 ev_503 => ?_)
                      refine lv_ior hx hb dX11_passOn_165 ?_
                      refine lv_topi (fun v_504 ev_504 => ?_)
                      refine lv_goto (tgt := 177) hx hb dX11_passOn_166 (by decide) ?_
                      refine lv_istore_n (lv' := [(3, .int v_504), (2, .int v_498), (6, .int r_490), (5, .int 1), (4, .int (nI j_424)), (0, .ref (n 0)), (1, .int p0)]) hx hb dX11_passOn_177 rfl hl (by decide) rfl (fun ls hl => ?_)
                      refine lv_iinc (v := (nI (j_424 + 1))) (lv' := [(4, .int (nI (j_424 + 1))), (3, .int v_504), (2, .int v_498), (6, .int r_490), (5, .int 1), (0, .ref (n 0)), (1, .int p0)]) hx hb dX11_passOn_178 hl (k := 4) rfl (ni_inc _) (by decide) rfl (fun ls hl => ?_)
                      refine lv_goto (tgt := 13) hx hb dX11_passOn_181 (by decide) ?_
                      exact ihj_424 (j_424 + 1) v_504 v_498 _ _ _ (by omega) (by omega) hP hD hS (lv_sub hl [0, 1, 2, 5, 6] rfl)
                  · skip
                    refine lv_iload_n hx hb dX11_passOn_137 rfl (lv_at hl 4 rfl) ?_
                    refine lv_iconst (v := 1) hx hb dX11_passOn_138 (by decide) ?_
                    refine lv_iload hx hb dX11_passOn_139 (lv_at hl 2 rfl) ?_
                    refine lv_ishl hx hb dX11_passOn_141 ?_
                    refine lv_topi (fun v_505 ev_505 => ?_)
                    refine lv_ior hx hb dX11_passOn_142 ?_
                    refine lv_topi (fun v_506 ev_506 => ?_)
                    refine lv_goto (tgt := 154) hx hb dX11_passOn_143 (by decide) ?_
                    refine lv_istore_n (lv' := [(2, .int v_506), (6, .int r_490), (5, .int 1), (4, .int (nI j_424)), (3, .int x_425), (0, .ref (n 0)), (1, .int p0)]) hx hb dX11_passOn_154 rfl hl (by decide) rfl (fun ls hl => ?_)
                    refine lv_iload hx hb dX11_passOn_155 (lv_at hl 1 rfl) ?_
                    refine lv_if_ge (tgt := 169) hx hb dX11_passOn_157 (by decide) (fun c_507 => ?_) (fun c_507 => ?_)
                    · skip
                      refine lv_iload_n hx hb dX11_passOn_169 rfl (lv_at hl 4 rfl) ?_
                      refine lv_iconst (v := 1) hx hb dX11_passOn_170 (by decide) ?_
                      refine lv_iload hx hb dX11_passOn_171 (lv_at hl 3 rfl) ?_
                      refine lv_ishl hx hb dX11_passOn_173 ?_
                      refine lv_topi (fun v_508 ev_508 => ?_)
                      refine lv_iconst (v := (-1)) hx hb dX11_passOn_174 (by decide) ?_
                      refine lv_ixor hx hb dX11_passOn_175 ?_
                      refine lv_topi (fun v_509 ev_509 => ?_)
                      refine lv_iand hx hb dX11_passOn_176 ?_
                      refine lv_topi (fun v_510 ev_510 => ?_)
                      refine lv_istore_n (lv' := [(3, .int v_510), (2, .int v_506), (6, .int r_490), (5, .int 1), (4, .int (nI j_424)), (0, .ref (n 0)), (1, .int p0)]) hx hb dX11_passOn_177 rfl hl (by decide) rfl (fun ls hl => ?_)
                      refine lv_iinc (v := (nI (j_424 + 1))) (lv' := [(4, .int (nI (j_424 + 1))), (3, .int v_510), (2, .int v_506), (6, .int r_490), (5, .int 1), (0, .ref (n 0)), (1, .int p0)]) hx hb dX11_passOn_178 hl (k := 4) rfl (ni_inc _) (by decide) rfl (fun ls hl => ?_)
                      refine lv_goto (tgt := 13) hx hb dX11_passOn_181 (by decide) ?_
                      exact ihj_424 (j_424 + 1) v_510 v_506 _ _ _ (by omega) (by omega) hP hD hS (lv_sub hl [0, 1, 2, 5, 6] rfl)
                    · skip
                      refine lv_iload_n hx hb dX11_passOn_160 rfl (lv_at hl 4 rfl) ?_
                      refine lv_iconst (v := 1) hx hb dX11_passOn_161 (by decide) ?_
                      refine lv_iload hx hb dX11_passOn_162 (lv_at hl 3 rfl) ?_
                      refine lv_ishl hx hb dX11_passOn_164 ?_
                      refine lv_topi (fun v_511 ev_511 => ?_)
                      refine lv_ior hx hb dX11_passOn_165 ?_
                      refine lv_topi (fun v_512 ev_512 => ?_)
                      refine lv_goto (tgt := 177) hx hb dX11_passOn_166 (by decide) ?_
                      refine lv_istore_n (lv' := [(3, .int v_512), (2, .int v_506), (6, .int r_490), (5, .int 1), (4, .int (nI j_424)), (0, .ref (n 0)), (1, .int p0)]) hx hb dX11_passOn_177 rfl hl (by decide) rfl (fun ls hl => ?_)
                      refine lv_iinc (v := (nI (j_424 + 1))) (lv' := [(4, .int (nI (j_424 + 1))), (3, .int v_512), (2, .int v_506), (6, .int r_490), (5, .int 1), (0, .ref (n 0)), (1, .int p0)]) hx hb dX11_passOn_178 hl (k := 4) rfl (ni_inc _) (by decide) rfl (fun ls hl => ?_)
                      refine lv_goto (tgt := 13) hx hb dX11_passOn_181 (by decide) ?_
                      exact ihj_424 (j_424 + 1) v_512 v_506 _ _ _ (by omega) (by omega) hP hD hS (lv_sub hl [0, 1, 2, 5, 6] rfl)
                · skip
                  refine lv_iload hx hb dX11_passOn_116 (lv_at hl 0 rfl) ?_
                  refine lv_ineg hx hb dX11_passOn_118 ?_
                  refine lv_topi (fun v_513 ev_513 => ?_)
                  refine lv_aload_n hx hb dX11_passOn_119 rfl (lv_at hl 5 rfl) ?_
                  refine x_get S hK hP 0 rfl cfX11 18 lkX11_43 (by decide) rfl dX11_passOn_120 ?_
                  refine lv_iload hx hb dX11_passOn_123 (lv_at hl 2 rfl) ?_
                  refine x_iald S hK hP 5 rfl (vp_in_nI (by omega) (by decide)) dX11_passOn_125 ?_
                  refine lv_topi (fun v_514 ev_514 => ?_)
                  refine lv_icmp_ge (tgt := 132) hx hb dX11_passOn_126 (by decide) (fun c_515 => ?_) (fun c_515 => ?_)
                  · skip
                    refine lv_iload hx hb dX11_passOn_132 (lv_at hl 0 rfl) ?_
                    refine lv_if_le (tgt := 146) hx hb dX11_passOn_134 (by decide) (fun c_516 => ?_) (fun c_516 => ?_)
                    · skip
                      refine lv_iload_n hx hb dX11_passOn_146 rfl (lv_at hl 4 rfl) ?_
                      refine lv_iconst (v := 1) hx hb dX11_passOn_147 (by decide) ?_
                      refine lv_iload hx hb dX11_passOn_148 (lv_at hl 2 rfl) ?_
                      refine lv_ishl hx hb dX11_passOn_150 ?_
                      refine lv_topi (fun v_517 ev_517 => ?_)
                      refine lv_iconst (v := (-1)) hx hb dX11_passOn_151 (by decide) ?_
                      refine lv_ixor hx hb dX11_passOn_152 ?_
                      refine lv_topi (fun v_518 ev_518 => ?_)
                      refine lv_iand hx hb dX11_passOn_153 ?_
                      refine lv_topi (fun v_519 ev_519 => ?_)
                      refine lv_istore_n (lv' := [(2, .int v_519), (6, .int r_490), (5, .int 1), (4, .int (nI j_424)), (3, .int x_425), (0, .ref (n 0)), (1, .int p0)]) hx hb dX11_passOn_154 rfl hl (by decide) rfl (fun ls hl => ?_)
                      refine lv_iload hx hb dX11_passOn_155 (lv_at hl 1 rfl) ?_
                      refine lv_if_ge (tgt := 169) hx hb dX11_passOn_157 (by decide) (fun c_520 => ?_) (fun c_520 => ?_)
                      · skip
                        refine lv_iload_n hx hb dX11_passOn_169 rfl (lv_at hl 4 rfl) ?_
                        refine lv_iconst (v := 1) hx hb dX11_passOn_170 (by decide) ?_
                        refine lv_iload hx hb dX11_passOn_171 (lv_at hl 3 rfl) ?_
                        refine lv_ishl hx hb dX11_passOn_173 ?_
                        refine lv_topi (fun v_521 ev_521 => ?_)
                        refine lv_iconst (v := (-1)) hx hb dX11_passOn_174 (by decide) ?_
                        refine lv_ixor hx hb dX11_passOn_175 ?_
                        refine lv_topi (fun v_522 ev_522 => ?_)
                        refine lv_iand hx hb dX11_passOn_176 ?_
                        refine lv_topi (fun v_523 ev_523 => ?_)
                        refine lv_istore_n (lv' := [(3, .int v_523), (2, .int v_519), (6, .int r_490), (5, .int 1), (4, .int (nI j_424)), (0, .ref (n 0)), (1, .int p0)]) hx hb dX11_passOn_177 rfl hl (by decide) rfl (fun ls hl => ?_)
                        refine lv_iinc (v := (nI (j_424 + 1))) (lv' := [(4, .int (nI (j_424 + 1))), (3, .int v_523), (2, .int v_519), (6, .int r_490), (5, .int 1), (0, .ref (n 0)), (1, .int p0)]) hx hb dX11_passOn_178 hl (k := 4) rfl (ni_inc _) (by decide) rfl (fun ls hl => ?_)
                        refine lv_goto (tgt := 13) hx hb dX11_passOn_181 (by decide) ?_
                        exact ihj_424 (j_424 + 1) v_523 v_519 _ _ _ (by omega) (by omega) hP hD hS (lv_sub hl [0, 1, 2, 5, 6] rfl)
                      · skip
                        refine lv_iload_n hx hb dX11_passOn_160 rfl (lv_at hl 4 rfl) ?_
                        refine lv_iconst (v := 1) hx hb dX11_passOn_161 (by decide) ?_
                        refine lv_iload hx hb dX11_passOn_162 (lv_at hl 3 rfl) ?_
                        refine lv_ishl hx hb dX11_passOn_164 ?_
                        refine lv_topi (fun v_524 ev_524 => ?_)
                        refine lv_ior hx hb dX11_passOn_165 ?_
                        refine lv_topi (fun v_525 ev_525 => ?_)
                        refine lv_goto (tgt := 177) hx hb dX11_passOn_166 (by decide) ?_
                        refine lv_istore_n (lv' := [(3, .int v_525), (2, .int v_519), (6, .int r_490), (5, .int 1), (4, .int (nI j_424)), (0, .ref (n 0)), (1, .int p0)]) hx hb dX11_passOn_177 rfl hl (by decide) rfl (fun ls hl => ?_)
                        refine lv_iinc (v := (nI (j_424 + 1))) (lv' := [(4, .int (nI (j_424 + 1))), (3, .int v_525), (2, .int v_519), (6, .int r_490), (5, .int 1), (0, .ref (n 0)), (1, .int p0)]) hx hb dX11_passOn_178 hl (k := 4) rfl (ni_inc _) (by decide) rfl (fun ls hl => ?_)
                        refine lv_goto (tgt := 13) hx hb dX11_passOn_181 (by decide) ?_
                        exact ihj_424 (j_424 + 1) v_525 v_519 _ _ _ (by omega) (by omega) hP hD hS (lv_sub hl [0, 1, 2, 5, 6] rfl)
                    · skip
                      refine lv_iload_n hx hb dX11_passOn_137 rfl (lv_at hl 4 rfl) ?_
                      refine lv_iconst (v := 1) hx hb dX11_passOn_138 (by decide) ?_
                      refine lv_iload hx hb dX11_passOn_139 (lv_at hl 2 rfl) ?_
                      refine lv_ishl hx hb dX11_passOn_141 ?_
                      refine lv_topi (fun v_526 ev_526 => ?_)
                      refine lv_ior hx hb dX11_passOn_142 ?_
                      refine lv_topi (fun v_527 ev_527 => ?_)
                      refine lv_goto (tgt := 154) hx hb dX11_passOn_143 (by decide) ?_
                      refine lv_istore_n (lv' := [(2, .int v_527), (6, .int r_490), (5, .int 1), (4, .int (nI j_424)), (3, .int x_425), (0, .ref (n 0)), (1, .int p0)]) hx hb dX11_passOn_154 rfl hl (by decide) rfl (fun ls hl => ?_)
                      refine lv_iload hx hb dX11_passOn_155 (lv_at hl 1 rfl) ?_
                      refine lv_if_ge (tgt := 169) hx hb dX11_passOn_157 (by decide) (fun c_528 => ?_) (fun c_528 => ?_)
                      · skip
                        refine lv_iload_n hx hb dX11_passOn_169 rfl (lv_at hl 4 rfl) ?_
                        refine lv_iconst (v := 1) hx hb dX11_passOn_170 (by decide) ?_
                        refine lv_iload hx hb dX11_passOn_171 (lv_at hl 3 rfl) ?_
                        refine lv_ishl hx hb dX11_passOn_173 ?_
                        refine lv_topi (fun v_529 ev_529 => ?_)
                        refine lv_iconst (v := (-1)) hx hb dX11_passOn_174 (by decide) ?_
                        refine lv_ixor hx hb dX11_passOn_175 ?_
                        refine lv_topi (fun v_530 ev_530 => ?_)
                        refine lv_iand hx hb dX11_passOn_176 ?_
                        refine lv_topi (fun v_531 ev_531 => ?_)
                        refine lv_istore_n (lv' := [(3, .int v_531), (2, .int v_527), (6, .int r_490), (5, .int 1), (4, .int (nI j_424)), (0, .ref (n 0)), (1, .int p0)]) hx hb dX11_passOn_177 rfl hl (by decide) rfl (fun ls hl => ?_)
                        refine lv_iinc (v := (nI (j_424 + 1))) (lv' := [(4, .int (nI (j_424 + 1))), (3, .int v_531), (2, .int v_527), (6, .int r_490), (5, .int 1), (0, .ref (n 0)), (1, .int p0)]) hx hb dX11_passOn_178 hl (k := 4) rfl (ni_inc _) (by decide) rfl (fun ls hl => ?_)
                        refine lv_goto (tgt := 13) hx hb dX11_passOn_181 (by decide) ?_
                        exact ihj_424 (j_424 + 1) v_531 v_527 _ _ _ (by omega) (by omega) hP hD hS (lv_sub hl [0, 1, 2, 5, 6] rfl)
                      · skip
                        refine lv_iload_n hx hb dX11_passOn_160 rfl (lv_at hl 4 rfl) ?_
                        refine lv_iconst (v := 1) hx hb dX11_passOn_161 (by decide) ?_
                        refine lv_iload hx hb dX11_passOn_162 (lv_at hl 3 rfl) ?_
                        refine lv_ishl hx hb dX11_passOn_164 ?_
                        refine lv_topi (fun v_532 ev_532 => ?_)
                        refine lv_ior hx hb dX11_passOn_165 ?_
                        refine lv_topi (fun v_533 ev_533 => ?_)
                        refine lv_goto (tgt := 177) hx hb dX11_passOn_166 (by decide) ?_
                        refine lv_istore_n (lv' := [(3, .int v_533), (2, .int v_527), (6, .int r_490), (5, .int 1), (4, .int (nI j_424)), (0, .ref (n 0)), (1, .int p0)]) hx hb dX11_passOn_177 rfl hl (by decide) rfl (fun ls hl => ?_)
                        refine lv_iinc (v := (nI (j_424 + 1))) (lv' := [(4, .int (nI (j_424 + 1))), (3, .int v_533), (2, .int v_527), (6, .int r_490), (5, .int 1), (0, .ref (n 0)), (1, .int p0)]) hx hb dX11_passOn_178 hl (k := 4) rfl (ni_inc _) (by decide) rfl (fun ls hl => ?_)
                        refine lv_goto (tgt := 13) hx hb dX11_passOn_181 (by decide) ?_
                        exact ihj_424 (j_424 + 1) v_533 v_527 _ _ _ (by omega) (by omega) hP hD hS (lv_sub hl [0, 1, 2, 5, 6] rfl)
                  · skip
                    refine lv_goto (tgt := 178) hx hb dX11_passOn_129 (by decide) ?_
                    refine lv_iinc (v := (nI (j_424 + 1))) (lv' := [(4, .int (nI (j_424 + 1))), (6, .int r_490), (5, .int 1), (3, .int x_425), (2, .int x_426), (0, .ref (n 0)), (1, .int p0)]) hx hb dX11_passOn_178 hl (k := 2) rfl (ni_inc _) (by decide) rfl (fun ls hl => ?_)
                    refine lv_goto (tgt := 13) hx hb dX11_passOn_181 (by decide) ?_
                    exact ihj_424 (j_424 + 1) x_425 x_426 _ _ _ (by omega) (by omega) hP hD hS (lv_sub hl [0, 3, 4, 5, 6] rfl)
          · skip
            refine lv_iload_n hx hb dX11_passOn_41 rfl (lv_at hl 4 rfl) ?_
            refine lv_aload_n hx hb dX11_passOn_42 rfl (lv_at hl 3 rfl) ?_
            refine lv_iload hx hb dX11_passOn_43 (lv_at hl 0 rfl) ?_
            refine x_roVi (As := [.int (nI j_424)]) S hK hP hD hZ (fun _ h => h) hA hS hA hl mwX11_holdsOf lkX11_249 (ctX11_holdsOf l D k z n mthrown mtaped msize mat mfrom mtoken mvalue mfaultKind mfaultPlace mmoreMany mlawNow mwetSet moverAll mones mtwos mgone mroundNow msampleFor msampleAll maskWorst moftenAll moftenView moftenOnes fworld j_424 (by omega) (by omega) (by omega) (by omega) (by omega) (hkworld) (by omega)) [0, 1] rfl (by decide) rfl rfl rfl rfl rfl ⟨Nat.le_of_ble_eq_true rfl, Nat.le_of_ble_eq_true rfl, Nat.le_of_ble_eq_true rfl⟩ dX11_passOn_45 ⟨Nat.le_of_ble_eq_true rfl, Nat.le_of_ble_eq_true rfl⟩ (fun r_534 H locs hr_534 hP hS => ?_)
            refine lv_icmp_lt (tgt := 80) hx hb dX11_passOn_48 (by decide) (fun c_536 => ?_) (fun c_536 => ?_)
            · skip
              refine lv_iconst (v := 0) hx hb dX11_passOn_80 (by decide) ?_
              refine lv_istore (lv' := [(5, .int 0), (4, .int (nI j_424)), (3, .int x_425), (2, .int x_426), (0, .ref (n 0)), (1, .int p0)]) hx hb dX11_passOn_81 hl (by decide) rfl (fun ls hl => ?_)
              refine lv_aload_n hx hb dX11_passOn_83 rfl (lv_at hl 4 rfl) ?_
              refine lv_iload hx hb dX11_passOn_84 (lv_at hl 1 rfl) ?_
              refine lv_aload_n hx hb dX11_passOn_86 rfl (lv_at hl 4 rfl) ?_
              refine x_get S hK hP 0 rfl cfX11 28 lkX11_284 (by decide) rfl dX11_passOn_87 ?_
              refine lv_aload_n hx hb dX11_passOn_90 rfl (lv_at hl 4 rfl) ?_
              refine x_get S hK hP 0 rfl cfX11 29 lkX11_287 (by decide) rfl dX11_passOn_91 ?_
              refine x_roVi (As := [.int (nI j_424), .int mones, .int mtwos]) S hK hP hD hZ (fun _ h => h) hA hS hA hl mwX11_pullOf lkX11_299 (ctX11_pullOf l D k z n mthrown mtaped msize mat mfrom mtoken mvalue mfaultKind mfaultPlace mmoreMany mlawNow mwetSet moverAll mones mtwos mgone mroundNow msampleFor msampleAll maskWorst moftenAll moftenView moftenOnes fworld frowOf fplaceOf ffirstOf j_424 mones mtwos (by omega) (by omega) (by omega) (by omega) (by omega) (hkworld) (by omega)) [0, 1, 2, 3, 4] rfl (by decide) rfl rfl rfl rfl rfl ⟨Nat.le_of_ble_eq_true rfl, Nat.le_of_ble_eq_true rfl, Nat.le_of_ble_eq_true rfl⟩ dX11_passOn_94 ⟨Nat.le_of_ble_eq_true rfl, Nat.le_of_ble_eq_true rfl⟩ (fun r_537 H locs hr_537 hP hS => ?_)
              refine lv_istore (lv' := [(6, .int r_537), (5, .int 0), (4, .int (nI j_424)), (3, .int x_425), (2, .int x_426), (0, .ref (n 0)), (1, .int p0)]) hx hb dX11_passOn_97 hl (by decide) rfl (fun ls hl => ?_)
              refine lv_iload hx hb dX11_passOn_99 (lv_at hl 1 rfl) ?_
              refine lv_if_eq (tgt := 178) hx hb dX11_passOn_101 (by decide) (fun c_539 => ?_) (fun c_539 => absurd (by decide) c_539)
              refine lv_iinc (v := (nI (j_424 + 1))) (lv' := [(4, .int (nI (j_424 + 1))), (6, .int r_537), (5, .int 0), (3, .int x_425), (2, .int x_426), (0, .ref (n 0)), (1, .int p0)]) hx hb dX11_passOn_178 hl (k := 2) rfl (ni_inc _) (by decide) rfl (fun ls hl => ?_)
              refine lv_goto (tgt := 13) hx hb dX11_passOn_181 (by decide) ?_
              exact ihj_424 (j_424 + 1) x_425 x_426 _ _ _ (by omega) (by omega) hP hD hS (lv_sub hl [0, 3, 4, 5, 6] rfl)
            · skip
              refine lv_aload_n hx hb dX11_passOn_51 rfl (lv_at hl 3 rfl) ?_
              refine x_get S hK hP 0 rfl cfX11 22 lkX11_261 (by decide) rfl dX11_passOn_52 ?_
              refine lv_iconst (v := 2) hx hb dX11_passOn_55 (by decide) ?_
              refine lv_icmp_ne (tgt := 76) hx hb dX11_passOn_56 (by decide) (fun c_540 => ?_) (fun c_540 => ?_)
              · skip
                refine lv_iconst (v := 1) hx hb dX11_passOn_76 (by decide) ?_
                refine lv_goto (tgt := 81) hx hb dX11_passOn_77 (by decide) ?_
                refine lv_istore (lv' := [(5, .int 1), (4, .int (nI j_424)), (3, .int x_425), (2, .int x_426), (0, .ref (n 0)), (1, .int p0)]) hx hb dX11_passOn_81 hl (by decide) rfl (fun ls hl => ?_)
                refine lv_aload_n hx hb dX11_passOn_83 rfl (lv_at hl 4 rfl) ?_
                refine lv_iload hx hb dX11_passOn_84 (lv_at hl 1 rfl) ?_
                refine lv_aload_n hx hb dX11_passOn_86 rfl (lv_at hl 4 rfl) ?_
                refine x_get S hK hP 0 rfl cfX11 28 lkX11_284 (by decide) rfl dX11_passOn_87 ?_
                refine lv_aload_n hx hb dX11_passOn_90 rfl (lv_at hl 4 rfl) ?_
                refine x_get S hK hP 0 rfl cfX11 29 lkX11_287 (by decide) rfl dX11_passOn_91 ?_
                refine x_roVi (As := [.int (nI j_424), .int mones, .int mtwos]) S hK hP hD hZ (fun _ h => h) hA hS hA hl mwX11_pullOf lkX11_299 (ctX11_pullOf l D k z n mthrown mtaped msize mat mfrom mtoken mvalue mfaultKind mfaultPlace mmoreMany mlawNow mwetSet moverAll mones mtwos mgone mroundNow msampleFor msampleAll maskWorst moftenAll moftenView moftenOnes fworld frowOf fplaceOf ffirstOf j_424 mones mtwos (by omega) (by omega) (by omega) (by omega) (by omega) (hkworld) (by omega)) [0, 1, 2, 3, 4] rfl (by decide) rfl rfl rfl rfl rfl ⟨Nat.le_of_ble_eq_true rfl, Nat.le_of_ble_eq_true rfl, Nat.le_of_ble_eq_true rfl⟩ dX11_passOn_94 ⟨Nat.le_of_ble_eq_true rfl, Nat.le_of_ble_eq_true rfl⟩ (fun r_541 H locs hr_541 hP hS => ?_)
                refine lv_istore (lv' := [(6, .int r_541), (5, .int 1), (4, .int (nI j_424)), (3, .int x_425), (2, .int x_426), (0, .ref (n 0)), (1, .int p0)]) hx hb dX11_passOn_97 hl (by decide) rfl (fun ls hl => ?_)
                refine lv_iload hx hb dX11_passOn_99 (lv_at hl 1 rfl) ?_
                refine lv_if_eq (tgt := 178) hx hb dX11_passOn_101 (by decide) (fun c_543 => absurd c_543 (by decide)) (fun c_543 => ?_)
                refine lv_iload hx hb dX11_passOn_104 (lv_at hl 0 rfl) ?_
                refine lv_aload_n hx hb dX11_passOn_106 rfl (lv_at hl 5 rfl) ?_
                refine x_get S hK hP 0 rfl cfX11 18 lkX11_43 (by decide) rfl dX11_passOn_107 ?_
                refine lv_iload hx hb dX11_passOn_110 (lv_at hl 2 rfl) ?_
                refine x_iald S hK hP 5 rfl (vp_in_nI (by omega) (by decide)) dX11_passOn_112 ?_
                refine lv_topi (fun v_544 ev_544 => ?_)
                refine lv_icmp_ge (tgt := 132) hx hb dX11_passOn_113 (by decide) (fun c_545 => ?_) (fun c_545 => ?_)
                · skip
                  refine lv_iload hx hb dX11_passOn_132 (lv_at hl 0 rfl) ?_
                  refine lv_if_le (tgt := 146) hx hb dX11_passOn_134 (by decide) (fun c_546 => ?_) (fun c_546 => ?_)
                  · skip
                    refine lv_iload_n hx hb dX11_passOn_146 rfl (lv_at hl 4 rfl) ?_
                    refine lv_iconst (v := 1) hx hb dX11_passOn_147 (by decide) ?_
                    refine lv_iload hx hb dX11_passOn_148 (lv_at hl 2 rfl) ?_
                    refine lv_ishl hx hb dX11_passOn_150 ?_
                    refine lv_topi (fun v_547 ev_547 => ?_)
                    refine lv_iconst (v := (-1)) hx hb dX11_passOn_151 (by decide) ?_
                    refine lv_ixor hx hb dX11_passOn_152 ?_
                    refine lv_topi (fun v_548 ev_548 => ?_)
                    refine lv_iand hx hb dX11_passOn_153 ?_
                    refine lv_topi (fun v_549 ev_549 => ?_)
                    refine lv_istore_n (lv' := [(2, .int v_549), (6, .int r_541), (5, .int 1), (4, .int (nI j_424)), (3, .int x_425), (0, .ref (n 0)), (1, .int p0)]) hx hb dX11_passOn_154 rfl hl (by decide) rfl (fun ls hl => ?_)
                    refine lv_iload hx hb dX11_passOn_155 (lv_at hl 1 rfl) ?_
                    refine lv_if_ge (tgt := 169) hx hb dX11_passOn_157 (by decide) (fun c_550 => ?_) (fun c_550 => ?_)
                    · skip
                      refine lv_iload_n hx hb dX11_passOn_169 rfl (lv_at hl 4 rfl) ?_
                      refine lv_iconst (v := 1) hx hb dX11_passOn_170 (by decide) ?_
                      refine lv_iload hx hb dX11_passOn_171 (lv_at hl 3 rfl) ?_
                      refine lv_ishl hx hb dX11_passOn_173 ?_
                      refine lv_topi (fun v_551 ev_551 => ?_)
                      refine lv_iconst (v := (-1)) hx hb dX11_passOn_174 (by decide) ?_
                      refine lv_ixor hx hb dX11_passOn_175 ?_
                      refine lv_topi (fun v_552 ev_552 => ?_)
                      refine lv_iand hx hb dX11_passOn_176 ?_
                      refine lv_topi (fun v_553 ev_553 => ?_)
                      refine lv_istore_n (lv' := [(3, .int v_553), (2, .int v_549), (6, .int r_541), (5, .int 1), (4, .int (nI j_424)), (0, .ref (n 0)), (1, .int p0)]) hx hb dX11_passOn_177 rfl hl (by decide) rfl (fun ls hl => ?_)
                      refine lv_iinc (v := (nI (j_424 + 1))) (lv' := [(4, .int (nI (j_424 + 1))), (3, .int v_553), (2, .int v_549), (6, .int r_541), (5, .int 1), (0, .ref (n 0)), (1, .int p0)]) hx hb dX11_passOn_178 hl (k := 4) rfl (ni_inc _) (by decide) rfl (fun ls hl => ?_)
                      refine lv_goto (tgt := 13) hx hb dX11_passOn_181 (by decide) ?_
                      exact ihj_424 (j_424 + 1) v_553 v_549 _ _ _ (by omega) (by omega) hP hD hS (lv_sub hl [0, 1, 2, 5, 6] rfl)
                    · skip
                      refine lv_iload_n hx hb dX11_passOn_160 rfl (lv_at hl 4 rfl) ?_
                      refine lv_iconst (v := 1) hx hb dX11_passOn_161 (by decide) ?_
                      refine lv_iload hx hb dX11_passOn_162 (lv_at hl 3 rfl) ?_
                      refine lv_ishl hx hb dX11_passOn_164 ?_
                      refine lv_topi (fun v_554 ev_554 => ?_)
                      refine lv_ior hx hb dX11_passOn_165 ?_
                      refine lv_topi (fun v_555 ev_555 => ?_)
                      refine lv_goto (tgt := 177) hx hb dX11_passOn_166 (by decide) ?_
                      refine lv_istore_n (lv' := [(3, .int v_555), (2, .int v_549), (6, .int r_541), (5, .int 1), (4, .int (nI j_424)), (0, .ref (n 0)), (1, .int p0)]) hx hb dX11_passOn_177 rfl hl (by decide) rfl (fun ls hl => ?_)
                      refine lv_iinc (v := (nI (j_424 + 1))) (lv' := [(4, .int (nI (j_424 + 1))), (3, .int v_555), (2, .int v_549), (6, .int r_541), (5, .int 1), (0, .ref (n 0)), (1, .int p0)]) hx hb dX11_passOn_178 hl (k := 4) rfl (ni_inc _) (by decide) rfl (fun ls hl => ?_)
                      refine lv_goto (tgt := 13) hx hb dX11_passOn_181 (by decide) ?_
                      exact ihj_424 (j_424 + 1) v_555 v_549 _ _ _ (by omega) (by omega) hP hD hS (lv_sub hl [0, 1, 2, 5, 6] rfl)
                  · skip
                    refine lv_iload_n hx hb dX11_passOn_137 rfl (lv_at hl 4 rfl) ?_
                    refine lv_iconst (v := 1) hx hb dX11_passOn_138 (by decide) ?_
                    refine lv_iload hx hb dX11_passOn_139 (lv_at hl 2 rfl) ?_
                    refine lv_ishl hx hb dX11_passOn_141 ?_
                    refine lv_topi (fun v_556 ev_556 => ?_)
                    refine lv_ior hx hb dX11_passOn_142 ?_
                    refine lv_topi (fun v_557 ev_557 => ?_)
                    refine lv_goto (tgt := 154) hx hb dX11_passOn_143 (by decide) ?_
                    refine lv_istore_n (lv' := [(2, .int v_557), (6, .int r_541), (5, .int 1), (4, .int (nI j_424)), (3, .int x_425), (0, .ref (n 0)), (1, .int p0)]) hx hb dX11_passOn_154 rfl hl (by decide) rfl (fun ls hl => ?_)
                    refine lv_iload hx hb dX11_passOn_155 (lv_at hl 1 rfl) ?_
                    refine lv_if_ge (tgt := 169) hx hb dX11_passOn_157 (by decide) (fun c_558 => ?_) (fun c_558 => ?_)
                    · skip
                      refine lv_iload_n hx hb dX11_passOn_169 rfl (lv_at hl 4 rfl) ?_
                      refine lv_iconst (v := 1) hx hb dX11_passOn_170 (by decide) ?_
                      refine lv_iload hx hb dX11_passOn_171 (lv_at hl 3 rfl) ?_
                      refine lv_ishl hx hb dX11_passOn_173 ?_
                      refine lv_topi (fun v_559 ev_559 => ?_)
                      refine lv_iconst (v := (-1)) hx hb dX11_passOn_174 (by decide) ?_
                      refine lv_ixor hx hb dX11_passOn_175 ?_
                      refine lv_topi (fun v_560 ev_560 => ?_)
                      refine lv_iand hx hb dX11_passOn_176 ?_
                      refine lv_topi (fun v_561 ev_561 => ?_)
                      refine lv_istore_n (lv' := [(3, .int v_561), (2, .int v_557), (6, .int r_541), (5, .int 1), (4, .int (nI j_424)), (0, .ref (n 0)), (1, .int p0)]) hx hb dX11_passOn_177 rfl hl (by decide) rfl (fun ls hl => ?_)
                      refine lv_iinc (v := (nI (j_424 + 1))) (lv' := [(4, .int (nI (j_424 + 1))), (3, .int v_561), (2, .int v_557), (6, .int r_541), (5, .int 1), (0, .ref (n 0)), (1, .int p0)]) hx hb dX11_passOn_178 hl (k := 4) rfl (ni_inc _) (by decide) rfl (fun ls hl => ?_)
                      refine lv_goto (tgt := 13) hx hb dX11_passOn_181 (by decide) ?_
                      exact ihj_424 (j_424 + 1) v_561 v_557 _ _ _ (by omega) (by omega) hP hD hS (lv_sub hl [0, 1, 2, 5, 6] rfl)
                    · skip
                      refine lv_iload_n hx hb dX11_passOn_160 rfl (lv_at hl 4 rfl) ?_
                      refine lv_iconst (v := 1) hx hb dX11_passOn_161 (by decide) ?_
                      refine lv_iload hx hb dX11_passOn_162 (lv_at hl 3 rfl) ?_
                      refine lv_ishl hx hb dX11_passOn_164 ?_
                      refine lv_topi (fun v_562 ev_562 => ?_)
                      refine lv_ior hx hb dX11_passOn_165 ?_
                      refine lv_topi (fun v_563 ev_563 => ?_)
                      refine lv_goto (tgt := 177) hx hb dX11_passOn_166 (by decide) ?_
                      refine lv_istore_n (lv' := [(3, .int v_563), (2, .int v_557), (6, .int r_541), (5, .int 1), (4, .int (nI j_424)), (0, .ref (n 0)), (1, .int p0)]) hx hb dX11_passOn_177 rfl hl (by decide) rfl (fun ls hl => ?_)
                      refine lv_iinc (v := (nI (j_424 + 1))) (lv' := [(4, .int (nI (j_424 + 1))), (3, .int v_563), (2, .int v_557), (6, .int r_541), (5, .int 1), (0, .ref (n 0)), (1, .int p0)]) hx hb dX11_passOn_178 hl (k := 4) rfl (ni_inc _) (by decide) rfl (fun ls hl => ?_)
                      refine lv_goto (tgt := 13) hx hb dX11_passOn_181 (by decide) ?_
                      exact ihj_424 (j_424 + 1) v_563 v_557 _ _ _ (by omega) (by omega) hP hD hS (lv_sub hl [0, 1, 2, 5, 6] rfl)
                · skip
                  refine lv_iload hx hb dX11_passOn_116 (lv_at hl 0 rfl) ?_
                  refine lv_ineg hx hb dX11_passOn_118 ?_
                  refine lv_topi (fun v_564 ev_564 => ?_)
                  refine lv_aload_n hx hb dX11_passOn_119 rfl (lv_at hl 5 rfl) ?_
                  refine x_get S hK hP 0 rfl cfX11 18 lkX11_43 (by decide) rfl dX11_passOn_120 ?_
                  refine lv_iload hx hb dX11_passOn_123 (lv_at hl 2 rfl) ?_
                  refine x_iald S hK hP 5 rfl (vp_in_nI (by omega) (by decide)) dX11_passOn_125 ?_
                  refine lv_topi (fun v_565 ev_565 => ?_)
                  refine lv_icmp_ge (tgt := 132) hx hb dX11_passOn_126 (by decide) (fun c_566 => ?_) (fun c_566 => ?_)
                  · skip
                    refine lv_iload hx hb dX11_passOn_132 (lv_at hl 0 rfl) ?_
                    refine lv_if_le (tgt := 146) hx hb dX11_passOn_134 (by decide) (fun c_567 => ?_) (fun c_567 => ?_)
                    · skip
                      refine lv_iload_n hx hb dX11_passOn_146 rfl (lv_at hl 4 rfl) ?_
                      refine lv_iconst (v := 1) hx hb dX11_passOn_147 (by decide) ?_
                      refine lv_iload hx hb dX11_passOn_148 (lv_at hl 2 rfl) ?_
                      refine lv_ishl hx hb dX11_passOn_150 ?_
                      refine lv_topi (fun v_568 ev_568 => ?_)
                      refine lv_iconst (v := (-1)) hx hb dX11_passOn_151 (by decide) ?_
                      refine lv_ixor hx hb dX11_passOn_152 ?_
                      refine lv_topi (fun v_569 ev_569 => ?_)
                      refine lv_iand hx hb dX11_passOn_153 ?_
                      refine lv_topi (fun v_570 ev_570 => ?_)
                      refine lv_istore_n (lv' := [(2, .int v_570), (6, .int r_541), (5, .int 1), (4, .int (nI j_424)), (3, .int x_425), (0, .ref (n 0)), (1, .int p0)]) hx hb dX11_passOn_154 rfl hl (by decide) rfl (fun ls hl => ?_)
                      refine lv_iload hx hb dX11_passOn_155 (lv_at hl 1 rfl) ?_
                      refine lv_if_ge (tgt := 169) hx hb dX11_passOn_157 (by decide) (fun c_571 => ?_) (fun c_571 => ?_)
                      · skip
                        refine lv_iload_n hx hb dX11_passOn_169 rfl (lv_at hl 4 rfl) ?_
                        refine lv_iconst (v := 1) hx hb dX11_passOn_170 (by decide) ?_
                        refine lv_iload hx hb dX11_passOn_171 (lv_at hl 3 rfl) ?_
                        refine lv_ishl hx hb dX11_passOn_173 ?_
                        refine lv_topi (fun v_572 ev_572 => ?_)
                        refine lv_iconst (v := (-1)) hx hb dX11_passOn_174 (by decide) ?_
                        refine lv_ixor hx hb dX11_passOn_175 ?_
                        refine lv_topi (fun v_573 ev_573 => ?_)
                        refine lv_iand hx hb dX11_passOn_176 ?_
                        refine lv_topi (fun v_574 ev_574 => ?_)
                        refine lv_istore_n (lv' := [(3, .int v_574), (2, .int v_570), (6, .int r_541), (5, .int 1), (4, .int (nI j_424)), (0, .ref (n 0)), (1, .int p0)]) hx hb dX11_passOn_177 rfl hl (by decide) rfl (fun ls hl => ?_)
                        refine lv_iinc (v := (nI (j_424 + 1))) (lv' := [(4, .int (nI (j_424 + 1))), (3, .int v_574), (2, .int v_570), (6, .int r_541), (5, .int 1), (0, .ref (n 0)), (1, .int p0)]) hx hb dX11_passOn_178 hl (k := 4) rfl (ni_inc _) (by decide) rfl (fun ls hl => ?_)
                        refine lv_goto (tgt := 13) hx hb dX11_passOn_181 (by decide) ?_
                        exact ihj_424 (j_424 + 1) v_574 v_570 _ _ _ (by omega) (by omega) hP hD hS (lv_sub hl [0, 1, 2, 5, 6] rfl)
                      · skip
                        refine lv_iload_n hx hb dX11_passOn_160 rfl (lv_at hl 4 rfl) ?_
                        refine lv_iconst (v := 1) hx hb dX11_passOn_161 (by decide) ?_
                        refine lv_iload hx hb dX11_passOn_162 (lv_at hl 3 rfl) ?_
                        refine lv_ishl hx hb dX11_passOn_164 ?_
                        refine lv_topi (fun v_575 ev_575 => ?_)
                        refine lv_ior hx hb dX11_passOn_165 ?_
                        refine lv_topi (fun v_576 ev_576 => ?_)
                        refine lv_goto (tgt := 177) hx hb dX11_passOn_166 (by decide) ?_
                        refine lv_istore_n (lv' := [(3, .int v_576), (2, .int v_570), (6, .int r_541), (5, .int 1), (4, .int (nI j_424)), (0, .ref (n 0)), (1, .int p0)]) hx hb dX11_passOn_177 rfl hl (by decide) rfl (fun ls hl => ?_)
                        refine lv_iinc (v := (nI (j_424 + 1))) (lv' := [(4, .int (nI (j_424 + 1))), (3, .int v_576), (2, .int v_570), (6, .int r_541), (5, .int 1), (0, .ref (n 0)), (1, .int p0)]) hx hb dX11_passOn_178 hl (k := 4) rfl (ni_inc _) (by decide) rfl (fun ls hl => ?_)
                        refine lv_goto (tgt := 13) hx hb dX11_passOn_181 (by decide) ?_
                        exact ihj_424 (j_424 + 1) v_576 v_570 _ _ _ (by omega) (by omega) hP hD hS (lv_sub hl [0, 1, 2, 5, 6] rfl)
                    · skip
                      refine lv_iload_n hx hb dX11_passOn_137 rfl (lv_at hl 4 rfl) ?_
                      refine lv_iconst (v := 1) hx hb dX11_passOn_138 (by decide) ?_
                      refine lv_iload hx hb dX11_passOn_139 (lv_at hl 2 rfl) ?_
                      refine lv_ishl hx hb dX11_passOn_141 ?_
                      refine lv_topi (fun v_577 ev_577 => ?_)
                      refine lv_ior hx hb dX11_passOn_142 ?_
                      refine lv_topi (fun v_578 ev_578 => ?_)
                      refine lv_goto (tgt := 154) hx hb dX11_passOn_143 (by decide) ?_
                      refine lv_istore_n (lv' := [(2, .int v_578), (6, .int r_541), (5, .int 1), (4, .int (nI j_424)), (3, .int x_425), (0, .ref (n 0)), (1, .int p0)]) hx hb dX11_passOn_154 rfl hl (by decide) rfl (fun ls hl => ?_)
                      refine lv_iload hx hb dX11_passOn_155 (lv_at hl 1 rfl) ?_
                      refine lv_if_ge (tgt := 169) hx hb dX11_passOn_157 (by decide) (fun c_579 => ?_) (fun c_579 => ?_)
                      · skip
                        refine lv_iload_n hx hb dX11_passOn_169 rfl (lv_at hl 4 rfl) ?_
                        refine lv_iconst (v := 1) hx hb dX11_passOn_170 (by decide) ?_
                        refine lv_iload hx hb dX11_passOn_171 (lv_at hl 3 rfl) ?_
                        refine lv_ishl hx hb dX11_passOn_173 ?_
                        refine lv_topi (fun v_580 ev_580 => ?_)
                        refine lv_iconst (v := (-1)) hx hb dX11_passOn_174 (by decide) ?_
                        refine lv_ixor hx hb dX11_passOn_175 ?_
                        refine lv_topi (fun v_581 ev_581 => ?_)
                        refine lv_iand hx hb dX11_passOn_176 ?_
                        refine lv_topi (fun v_582 ev_582 => ?_)
                        refine lv_istore_n (lv' := [(3, .int v_582), (2, .int v_578), (6, .int r_541), (5, .int 1), (4, .int (nI j_424)), (0, .ref (n 0)), (1, .int p0)]) hx hb dX11_passOn_177 rfl hl (by decide) rfl (fun ls hl => ?_)
                        refine lv_iinc (v := (nI (j_424 + 1))) (lv' := [(4, .int (nI (j_424 + 1))), (3, .int v_582), (2, .int v_578), (6, .int r_541), (5, .int 1), (0, .ref (n 0)), (1, .int p0)]) hx hb dX11_passOn_178 hl (k := 4) rfl (ni_inc _) (by decide) rfl (fun ls hl => ?_)
                        refine lv_goto (tgt := 13) hx hb dX11_passOn_181 (by decide) ?_
                        exact ihj_424 (j_424 + 1) v_582 v_578 _ _ _ (by omega) (by omega) hP hD hS (lv_sub hl [0, 1, 2, 5, 6] rfl)
                      · skip
                        refine lv_iload_n hx hb dX11_passOn_160 rfl (lv_at hl 4 rfl) ?_
                        refine lv_iconst (v := 1) hx hb dX11_passOn_161 (by decide) ?_
                        refine lv_iload hx hb dX11_passOn_162 (lv_at hl 3 rfl) ?_
                        refine lv_ishl hx hb dX11_passOn_164 ?_
                        refine lv_topi (fun v_583 ev_583 => ?_)
                        refine lv_ior hx hb dX11_passOn_165 ?_
                        refine lv_topi (fun v_584 ev_584 => ?_)
                        refine lv_goto (tgt := 177) hx hb dX11_passOn_166 (by decide) ?_
                        refine lv_istore_n (lv' := [(3, .int v_584), (2, .int v_578), (6, .int r_541), (5, .int 1), (4, .int (nI j_424)), (0, .ref (n 0)), (1, .int p0)]) hx hb dX11_passOn_177 rfl hl (by decide) rfl (fun ls hl => ?_)
                        refine lv_iinc (v := (nI (j_424 + 1))) (lv' := [(4, .int (nI (j_424 + 1))), (3, .int v_584), (2, .int v_578), (6, .int r_541), (5, .int 1), (0, .ref (n 0)), (1, .int p0)]) hx hb dX11_passOn_178 hl (k := 4) rfl (ni_inc _) (by decide) rfl (fun ls hl => ?_)
                        refine lv_goto (tgt := 13) hx hb dX11_passOn_181 (by decide) ?_
                        exact ihj_424 (j_424 + 1) v_584 v_578 _ _ _ (by omega) (by omega) hP hD hS (lv_sub hl [0, 1, 2, 5, 6] rfl)
                  · skip
                    refine lv_goto (tgt := 178) hx hb dX11_passOn_129 (by decide) ?_
                    refine lv_iinc (v := (nI (j_424 + 1))) (lv' := [(4, .int (nI (j_424 + 1))), (6, .int r_541), (5, .int 1), (3, .int x_425), (2, .int x_426), (0, .ref (n 0)), (1, .int p0)]) hx hb dX11_passOn_178 hl (k := 2) rfl (ni_inc _) (by decide) rfl (fun ls hl => ?_)
                    refine lv_goto (tgt := 13) hx hb dX11_passOn_181 (by decide) ?_
                    exact ihj_424 (j_424 + 1) x_425 x_426 _ _ _ (by omega) (by omega) hP hD hS (lv_sub hl [0, 3, 4, 5, 6] rfl)
              · skip
                refine lv_aload_n hx hb dX11_passOn_59 rfl (lv_at hl 3 rfl) ?_
                refine x_get S hK hP 0 rfl cfX11 28 lkX11_284 (by decide) rfl dX11_passOn_60 ?_
                refine lv_aload_n hx hb dX11_passOn_63 rfl (lv_at hl 3 rfl) ?_
                refine x_get S hK hP 0 rfl cfX11 29 lkX11_287 (by decide) rfl dX11_passOn_64 ?_
                refine lv_ior hx hb dX11_passOn_67 ?_
                refine lv_topi (fun v_585 ev_585 => ?_)
                refine lv_iload hx hb dX11_passOn_68 (lv_at hl 0 rfl) ?_
                refine x_roSi (As := [.int v_585, .int (nI j_424)]) S hK hP hD hZ (fun _ h => h) hA hS hA hl mwX11_bit lkX11_274 (ctX11_bit l D k z v_585 (nI j_424) ) [] rfl (by decide) rfl rfl ⟨Nat.le_of_ble_eq_true rfl, Nat.le_of_ble_eq_true rfl, Nat.le_of_ble_eq_true rfl⟩ dX11_passOn_70 ⟨Nat.le_of_ble_eq_true rfl, Nat.le_of_ble_eq_true rfl⟩ (fun r_586 H locs hr_586 hP hS => ?_)
                refine lv_if_ne (tgt := 80) hx hb dX11_passOn_73 (by decide) (fun c_588 => ?_) (fun c_588 => ?_)
                · skip
                  refine lv_iconst (v := 0) hx hb dX11_passOn_80 (by decide) ?_
                  refine lv_istore (lv' := [(5, .int 0), (4, .int (nI j_424)), (3, .int x_425), (2, .int x_426), (0, .ref (n 0)), (1, .int p0)]) hx hb dX11_passOn_81 hl (by decide) rfl (fun ls hl => ?_)
                  refine lv_aload_n hx hb dX11_passOn_83 rfl (lv_at hl 4 rfl) ?_
                  refine lv_iload hx hb dX11_passOn_84 (lv_at hl 1 rfl) ?_
                  refine lv_aload_n hx hb dX11_passOn_86 rfl (lv_at hl 4 rfl) ?_
                  refine x_get S hK hP 0 rfl cfX11 28 lkX11_284 (by decide) rfl dX11_passOn_87 ?_
                  refine lv_aload_n hx hb dX11_passOn_90 rfl (lv_at hl 4 rfl) ?_
                  refine x_get S hK hP 0 rfl cfX11 29 lkX11_287 (by decide) rfl dX11_passOn_91 ?_
                  refine x_roVi (As := [.int (nI j_424), .int mones, .int mtwos]) S hK hP hD hZ (fun _ h => h) hA hS hA hl mwX11_pullOf lkX11_299 (ctX11_pullOf l D k z n mthrown mtaped msize mat mfrom mtoken mvalue mfaultKind mfaultPlace mmoreMany mlawNow mwetSet moverAll mones mtwos mgone mroundNow msampleFor msampleAll maskWorst moftenAll moftenView moftenOnes fworld frowOf fplaceOf ffirstOf j_424 mones mtwos (by omega) (by omega) (by omega) (by omega) (by omega) (hkworld) (by omega)) [0, 1, 2, 3, 4] rfl (by decide) rfl rfl rfl rfl rfl ⟨Nat.le_of_ble_eq_true rfl, Nat.le_of_ble_eq_true rfl, Nat.le_of_ble_eq_true rfl⟩ dX11_passOn_94 ⟨Nat.le_of_ble_eq_true rfl, Nat.le_of_ble_eq_true rfl⟩ (fun r_589 H locs hr_589 hP hS => ?_)
                  refine lv_istore (lv' := [(6, .int r_589), (5, .int 0), (4, .int (nI j_424)), (3, .int x_425), (2, .int x_426), (0, .ref (n 0)), (1, .int p0)]) hx hb dX11_passOn_97 hl (by decide) rfl (fun ls hl => ?_)
                  refine lv_iload hx hb dX11_passOn_99 (lv_at hl 1 rfl) ?_
                  refine lv_if_eq (tgt := 178) hx hb dX11_passOn_101 (by decide) (fun c_591 => ?_) (fun c_591 => absurd (by decide) c_591)
                  refine lv_iinc (v := (nI (j_424 + 1))) (lv' := [(4, .int (nI (j_424 + 1))), (6, .int r_589), (5, .int 0), (3, .int x_425), (2, .int x_426), (0, .ref (n 0)), (1, .int p0)]) hx hb dX11_passOn_178 hl (k := 2) rfl (ni_inc _) (by decide) rfl (fun ls hl => ?_)
                  refine lv_goto (tgt := 13) hx hb dX11_passOn_181 (by decide) ?_
                  exact ihj_424 (j_424 + 1) x_425 x_426 _ _ _ (by omega) (by omega) hP hD hS (lv_sub hl [0, 3, 4, 5, 6] rfl)
                · skip
                  refine lv_iconst (v := 1) hx hb dX11_passOn_76 (by decide) ?_
                  refine lv_goto (tgt := 81) hx hb dX11_passOn_77 (by decide) ?_
                  refine lv_istore (lv' := [(5, .int 1), (4, .int (nI j_424)), (3, .int x_425), (2, .int x_426), (0, .ref (n 0)), (1, .int p0)]) hx hb dX11_passOn_81 hl (by decide) rfl (fun ls hl => ?_)
                  refine lv_aload_n hx hb dX11_passOn_83 rfl (lv_at hl 4 rfl) ?_
                  refine lv_iload hx hb dX11_passOn_84 (lv_at hl 1 rfl) ?_
                  refine lv_aload_n hx hb dX11_passOn_86 rfl (lv_at hl 4 rfl) ?_
                  refine x_get S hK hP 0 rfl cfX11 28 lkX11_284 (by decide) rfl dX11_passOn_87 ?_
                  refine lv_aload_n hx hb dX11_passOn_90 rfl (lv_at hl 4 rfl) ?_
                  refine x_get S hK hP 0 rfl cfX11 29 lkX11_287 (by decide) rfl dX11_passOn_91 ?_
                  refine x_roVi (As := [.int (nI j_424), .int mones, .int mtwos]) S hK hP hD hZ (fun _ h => h) hA hS hA hl mwX11_pullOf lkX11_299 (ctX11_pullOf l D k z n mthrown mtaped msize mat mfrom mtoken mvalue mfaultKind mfaultPlace mmoreMany mlawNow mwetSet moverAll mones mtwos mgone mroundNow msampleFor msampleAll maskWorst moftenAll moftenView moftenOnes fworld frowOf fplaceOf ffirstOf j_424 mones mtwos (by omega) (by omega) (by omega) (by omega) (by omega) (hkworld) (by omega)) [0, 1, 2, 3, 4] rfl (by decide) rfl rfl rfl rfl rfl ⟨Nat.le_of_ble_eq_true rfl, Nat.le_of_ble_eq_true rfl, Nat.le_of_ble_eq_true rfl⟩ dX11_passOn_94 ⟨Nat.le_of_ble_eq_true rfl, Nat.le_of_ble_eq_true rfl⟩ (fun r_592 H locs hr_592 hP hS => ?_)
                  refine lv_istore (lv' := [(6, .int r_592), (5, .int 1), (4, .int (nI j_424)), (3, .int x_425), (2, .int x_426), (0, .ref (n 0)), (1, .int p0)]) hx hb dX11_passOn_97 hl (by decide) rfl (fun ls hl => ?_)
                  refine lv_iload hx hb dX11_passOn_99 (lv_at hl 1 rfl) ?_
                  refine lv_if_eq (tgt := 178) hx hb dX11_passOn_101 (by decide) (fun c_594 => absurd c_594 (by decide)) (fun c_594 => ?_)
                  refine lv_iload hx hb dX11_passOn_104 (lv_at hl 0 rfl) ?_
                  refine lv_aload_n hx hb dX11_passOn_106 rfl (lv_at hl 5 rfl) ?_
                  refine x_get S hK hP 0 rfl cfX11 18 lkX11_43 (by decide) rfl dX11_passOn_107 ?_
                  refine lv_iload hx hb dX11_passOn_110 (lv_at hl 2 rfl) ?_
                  refine x_iald S hK hP 5 rfl (vp_in_nI (by omega) (by decide)) dX11_passOn_112 ?_
                  refine lv_topi (fun v_595 ev_595 => ?_)
                  refine lv_icmp_ge (tgt := 132) hx hb dX11_passOn_113 (by decide) (fun c_596 => ?_) (fun c_596 => ?_)
                  · skip
                    refine lv_iload hx hb dX11_passOn_132 (lv_at hl 0 rfl) ?_
                    refine lv_if_le (tgt := 146) hx hb dX11_passOn_134 (by decide) (fun c_597 => ?_) (fun c_597 => ?_)
                    · skip
                      refine lv_iload_n hx hb dX11_passOn_146 rfl (lv_at hl 4 rfl) ?_
                      refine lv_iconst (v := 1) hx hb dX11_passOn_147 (by decide) ?_
                      refine lv_iload hx hb dX11_passOn_148 (lv_at hl 2 rfl) ?_
                      refine lv_ishl hx hb dX11_passOn_150 ?_
                      refine lv_topi (fun v_598 ev_598 => ?_)
                      refine lv_iconst (v := (-1)) hx hb dX11_passOn_151 (by decide) ?_
                      refine lv_ixor hx hb dX11_passOn_152 ?_
                      refine lv_topi (fun v_599 ev_599 => ?_)
                      refine lv_iand hx hb dX11_passOn_153 ?_
                      refine lv_topi (fun v_600 ev_600 => ?_)
                      refine lv_istore_n (lv' := [(2, .int v_600), (6, .int r_592), (5, .int 1), (4, .int (nI j_424)), (3, .int x_425), (0, .ref (n 0)), (1, .int p0)]) hx hb dX11_passOn_154 rfl hl (by decide) rfl (fun ls hl => ?_)
                      refine lv_iload hx hb dX11_passOn_155 (lv_at hl 1 rfl) ?_
                      refine lv_if_ge (tgt := 169) hx hb dX11_passOn_157 (by decide) (fun c_601 => ?_) (fun c_601 => ?_)
                      · skip
                        refine lv_iload_n hx hb dX11_passOn_169 rfl (lv_at hl 4 rfl) ?_
                        refine lv_iconst (v := 1) hx hb dX11_passOn_170 (by decide) ?_
                        refine lv_iload hx hb dX11_passOn_171 (lv_at hl 3 rfl) ?_
                        refine lv_ishl hx hb dX11_passOn_173 ?_
                        refine lv_topi (fun v_602 ev_602 => ?_)
                        refine lv_iconst (v := (-1)) hx hb dX11_passOn_174 (by decide) ?_
                        refine lv_ixor hx hb dX11_passOn_175 ?_
                        refine lv_topi (fun v_603 ev_603 => ?_)
                        refine lv_iand hx hb dX11_passOn_176 ?_
                        refine lv_topi (fun v_604 ev_604 => ?_)
                        refine lv_istore_n (lv' := [(3, .int v_604), (2, .int v_600), (6, .int r_592), (5, .int 1), (4, .int (nI j_424)), (0, .ref (n 0)), (1, .int p0)]) hx hb dX11_passOn_177 rfl hl (by decide) rfl (fun ls hl => ?_)
                        refine lv_iinc (v := (nI (j_424 + 1))) (lv' := [(4, .int (nI (j_424 + 1))), (3, .int v_604), (2, .int v_600), (6, .int r_592), (5, .int 1), (0, .ref (n 0)), (1, .int p0)]) hx hb dX11_passOn_178 hl (k := 4) rfl (ni_inc _) (by decide) rfl (fun ls hl => ?_)
                        refine lv_goto (tgt := 13) hx hb dX11_passOn_181 (by decide) ?_
                        exact ihj_424 (j_424 + 1) v_604 v_600 _ _ _ (by omega) (by omega) hP hD hS (lv_sub hl [0, 1, 2, 5, 6] rfl)
                      · skip
                        refine lv_iload_n hx hb dX11_passOn_160 rfl (lv_at hl 4 rfl) ?_
                        refine lv_iconst (v := 1) hx hb dX11_passOn_161 (by decide) ?_
                        refine lv_iload hx hb dX11_passOn_162 (lv_at hl 3 rfl) ?_
                        refine lv_ishl hx hb dX11_passOn_164 ?_
                        refine lv_topi (fun v_605 ev_605 => ?_)
                        refine lv_ior hx hb dX11_passOn_165 ?_
                        refine lv_topi (fun v_606 ev_606 => ?_)
                        refine lv_goto (tgt := 177) hx hb dX11_passOn_166 (by decide) ?_
                        refine lv_istore_n (lv' := [(3, .int v_606), (2, .int v_600), (6, .int r_592), (5, .int 1), (4, .int (nI j_424)), (0, .ref (n 0)), (1, .int p0)]) hx hb dX11_passOn_177 rfl hl (by decide) rfl (fun ls hl => ?_)
                        refine lv_iinc (v := (nI (j_424 + 1))) (lv' := [(4, .int (nI (j_424 + 1))), (3, .int v_606), (2, .int v_600), (6, .int r_592), (5, .int 1), (0, .ref (n 0)), (1, .int p0)]) hx hb dX11_passOn_178 hl (k := 4) rfl (ni_inc _) (by decide) rfl (fun ls hl => ?_)
                        refine lv_goto (tgt := 13) hx hb dX11_passOn_181 (by decide) ?_
                        exact ihj_424 (j_424 + 1) v_606 v_600 _ _ _ (by omega) (by omega) hP hD hS (lv_sub hl [0, 1, 2, 5, 6] rfl)
                    · skip
                      refine lv_iload_n hx hb dX11_passOn_137 rfl (lv_at hl 4 rfl) ?_
                      refine lv_iconst (v := 1) hx hb dX11_passOn_138 (by decide) ?_
                      refine lv_iload hx hb dX11_passOn_139 (lv_at hl 2 rfl) ?_
                      refine lv_ishl hx hb dX11_passOn_141 ?_
                      refine lv_topi (fun v_607 ev_607 => ?_)
                      refine lv_ior hx hb dX11_passOn_142 ?_
                      refine lv_topi (fun v_608 ev_608 => ?_)
                      refine lv_goto (tgt := 154) hx hb dX11_passOn_143 (by decide) ?_
                      refine lv_istore_n (lv' := [(2, .int v_608), (6, .int r_592), (5, .int 1), (4, .int (nI j_424)), (3, .int x_425), (0, .ref (n 0)), (1, .int p0)]) hx hb dX11_passOn_154 rfl hl (by decide) rfl (fun ls hl => ?_)
                      refine lv_iload hx hb dX11_passOn_155 (lv_at hl 1 rfl) ?_
                      refine lv_if_ge (tgt := 169) hx hb dX11_passOn_157 (by decide) (fun c_609 => ?_) (fun c_609 => ?_)
                      · skip
                        refine lv_iload_n hx hb dX11_passOn_169 rfl (lv_at hl 4 rfl) ?_
                        refine lv_iconst (v := 1) hx hb dX11_passOn_170 (by decide) ?_
                        refine lv_iload hx hb dX11_passOn_171 (lv_at hl 3 rfl) ?_
                        refine lv_ishl hx hb dX11_passOn_173 ?_
                        refine lv_topi (fun v_610 ev_610 => ?_)
                        refine lv_iconst (v := (-1)) hx hb dX11_passOn_174 (by decide) ?_
                        refine lv_ixor hx hb dX11_passOn_175 ?_
                        refine lv_topi (fun v_611 ev_611 => ?_)
                        refine lv_iand hx hb dX11_passOn_176 ?_
                        refine lv_topi (fun v_612 ev_612 => ?_)
                        refine lv_istore_n (lv' := [(3, .int v_612), (2, .int v_608), (6, .int r_592), (5, .int 1), (4, .int (nI j_424)), (0, .ref (n 0)), (1, .int p0)]) hx hb dX11_passOn_177 rfl hl (by decide) rfl (fun ls hl => ?_)
                        refine lv_iinc (v := (nI (j_424 + 1))) (lv' := [(4, .int (nI (j_424 + 1))), (3, .int v_612), (2, .int v_608), (6, .int r_592), (5, .int 1), (0, .ref (n 0)), (1, .int p0)]) hx hb dX11_passOn_178 hl (k := 4) rfl (ni_inc _) (by decide) rfl (fun ls hl => ?_)
                        refine lv_goto (tgt := 13) hx hb dX11_passOn_181 (by decide) ?_
                        exact ihj_424 (j_424 + 1) v_612 v_608 _ _ _ (by omega) (by omega) hP hD hS (lv_sub hl [0, 1, 2, 5, 6] rfl)
                      · skip
                        refine lv_iload_n hx hb dX11_passOn_160 rfl (lv_at hl 4 rfl) ?_
                        refine lv_iconst (v := 1) hx hb dX11_passOn_161 (by decide) ?_
                        refine lv_iload hx hb dX11_passOn_162 (lv_at hl 3 rfl) ?_
                        refine lv_ishl hx hb dX11_passOn_164 ?_
                        refine lv_topi (fun v_613 ev_613 => ?_)
                        refine lv_ior hx hb dX11_passOn_165 ?_
                        refine lv_topi (fun v_614 ev_614 => ?_)
                        refine lv_goto (tgt := 177) hx hb dX11_passOn_166 (by decide) ?_
                        refine lv_istore_n (lv' := [(3, .int v_614), (2, .int v_608), (6, .int r_592), (5, .int 1), (4, .int (nI j_424)), (0, .ref (n 0)), (1, .int p0)]) hx hb dX11_passOn_177 rfl hl (by decide) rfl (fun ls hl => ?_)
                        refine lv_iinc (v := (nI (j_424 + 1))) (lv' := [(4, .int (nI (j_424 + 1))), (3, .int v_614), (2, .int v_608), (6, .int r_592), (5, .int 1), (0, .ref (n 0)), (1, .int p0)]) hx hb dX11_passOn_178 hl (k := 4) rfl (ni_inc _) (by decide) rfl (fun ls hl => ?_)
                        refine lv_goto (tgt := 13) hx hb dX11_passOn_181 (by decide) ?_
                        exact ihj_424 (j_424 + 1) v_614 v_608 _ _ _ (by omega) (by omega) hP hD hS (lv_sub hl [0, 1, 2, 5, 6] rfl)
                  · skip
                    refine lv_iload hx hb dX11_passOn_116 (lv_at hl 0 rfl) ?_
                    refine lv_ineg hx hb dX11_passOn_118 ?_
                    refine lv_topi (fun v_615 ev_615 => ?_)
                    refine lv_aload_n hx hb dX11_passOn_119 rfl (lv_at hl 5 rfl) ?_
                    refine x_get S hK hP 0 rfl cfX11 18 lkX11_43 (by decide) rfl dX11_passOn_120 ?_
                    refine lv_iload hx hb dX11_passOn_123 (lv_at hl 2 rfl) ?_
                    refine x_iald S hK hP 5 rfl (vp_in_nI (by omega) (by decide)) dX11_passOn_125 ?_
                    refine lv_topi (fun v_616 ev_616 => ?_)
                    refine lv_icmp_ge (tgt := 132) hx hb dX11_passOn_126 (by decide) (fun c_617 => ?_) (fun c_617 => ?_)
                    · skip
                      refine lv_iload hx hb dX11_passOn_132 (lv_at hl 0 rfl) ?_
                      refine lv_if_le (tgt := 146) hx hb dX11_passOn_134 (by decide) (fun c_618 => ?_) (fun c_618 => ?_)
                      · skip
                        refine lv_iload_n hx hb dX11_passOn_146 rfl (lv_at hl 4 rfl) ?_
                        refine lv_iconst (v := 1) hx hb dX11_passOn_147 (by decide) ?_
                        refine lv_iload hx hb dX11_passOn_148 (lv_at hl 2 rfl) ?_
                        refine lv_ishl hx hb dX11_passOn_150 ?_
                        refine lv_topi (fun v_619 ev_619 => ?_)
                        refine lv_iconst (v := (-1)) hx hb dX11_passOn_151 (by decide) ?_
                        refine lv_ixor hx hb dX11_passOn_152 ?_
                        refine lv_topi (fun v_620 ev_620 => ?_)
                        refine lv_iand hx hb dX11_passOn_153 ?_
                        refine lv_topi (fun v_621 ev_621 => ?_)
                        refine lv_istore_n (lv' := [(2, .int v_621), (6, .int r_592), (5, .int 1), (4, .int (nI j_424)), (3, .int x_425), (0, .ref (n 0)), (1, .int p0)]) hx hb dX11_passOn_154 rfl hl (by decide) rfl (fun ls hl => ?_)
                        refine lv_iload hx hb dX11_passOn_155 (lv_at hl 1 rfl) ?_
                        refine lv_if_ge (tgt := 169) hx hb dX11_passOn_157 (by decide) (fun c_622 => ?_) (fun c_622 => ?_)
                        · skip
                          refine lv_iload_n hx hb dX11_passOn_169 rfl (lv_at hl 4 rfl) ?_
                          refine lv_iconst (v := 1) hx hb dX11_passOn_170 (by decide) ?_
                          refine lv_iload hx hb dX11_passOn_171 (lv_at hl 3 rfl) ?_
                          refine lv_ishl hx hb dX11_passOn_173 ?_
                          refine lv_topi (fun v_623 ev_623 => ?_)
                          refine lv_iconst (v := (-1)) hx hb dX11_passOn_174 (by decide) ?_
                          refine lv_ixor hx hb dX11_passOn_175 ?_
                          refine lv_topi (fun v_624 ev_624 => ?_)
                          refine lv_iand hx hb dX11_passOn_176 ?_
                          refine lv_topi (fun v_625 ev_625 => ?_)
                          refine lv_istore_n (lv' := [(3, .int v_625), (2, .int v_621), (6, .int r_592), (5, .int 1), (4, .int (nI j_424)), (0, .ref (n 0)), (1, .int p0)]) hx hb dX11_passOn_177 rfl hl (by decide) rfl (fun ls hl => ?_)
                          refine lv_iinc (v := (nI (j_424 + 1))) (lv' := [(4, .int (nI (j_424 + 1))), (3, .int v_625), (2, .int v_621), (6, .int r_592), (5, .int 1), (0, .ref (n 0)), (1, .int p0)]) hx hb dX11_passOn_178 hl (k := 4) rfl (ni_inc _) (by decide) rfl (fun ls hl => ?_)
                          refine lv_goto (tgt := 13) hx hb dX11_passOn_181 (by decide) ?_
                          exact ihj_424 (j_424 + 1) v_625 v_621 _ _ _ (by omega) (by omega) hP hD hS (lv_sub hl [0, 1, 2, 5, 6] rfl)
                        · skip
                          refine lv_iload_n hx hb dX11_passOn_160 rfl (lv_at hl 4 rfl) ?_
                          refine lv_iconst (v := 1) hx hb dX11_passOn_161 (by decide) ?_
                          refine lv_iload hx hb dX11_passOn_162 (lv_at hl 3 rfl) ?_
                          refine lv_ishl hx hb dX11_passOn_164 ?_
                          refine lv_topi (fun v_626 ev_626 => ?_)
                          refine lv_ior hx hb dX11_passOn_165 ?_
                          refine lv_topi (fun v_627 ev_627 => ?_)
                          refine lv_goto (tgt := 177) hx hb dX11_passOn_166 (by decide) ?_
                          refine lv_istore_n (lv' := [(3, .int v_627), (2, .int v_621), (6, .int r_592), (5, .int 1), (4, .int (nI j_424)), (0, .ref (n 0)), (1, .int p0)]) hx hb dX11_passOn_177 rfl hl (by decide) rfl (fun ls hl => ?_)
                          refine lv_iinc (v := (nI (j_424 + 1))) (lv' := [(4, .int (nI (j_424 + 1))), (3, .int v_627), (2, .int v_621), (6, .int r_592), (5, .int 1), (0, .ref (n 0)), (1, .int p0)]) hx hb dX11_passOn_178 hl (k := 4) rfl (ni_inc _) (by decide) rfl (fun ls hl => ?_)
                          refine lv_goto (tgt := 13) hx hb dX11_passOn_181 (by decide) ?_
                          exact ihj_424 (j_424 + 1) v_627 v_621 _ _ _ (by omega) (by omega) hP hD hS (lv_sub hl [0, 1, 2, 5, 6] rfl)
                      · skip
                        refine lv_iload_n hx hb dX11_passOn_137 rfl (lv_at hl 4 rfl) ?_
                        refine lv_iconst (v := 1) hx hb dX11_passOn_138 (by decide) ?_
                        refine lv_iload hx hb dX11_passOn_139 (lv_at hl 2 rfl) ?_
                        refine lv_ishl hx hb dX11_passOn_141 ?_
                        refine lv_topi (fun v_628 ev_628 => ?_)
                        refine lv_ior hx hb dX11_passOn_142 ?_
                        refine lv_topi (fun v_629 ev_629 => ?_)
                        refine lv_goto (tgt := 154) hx hb dX11_passOn_143 (by decide) ?_
                        refine lv_istore_n (lv' := [(2, .int v_629), (6, .int r_592), (5, .int 1), (4, .int (nI j_424)), (3, .int x_425), (0, .ref (n 0)), (1, .int p0)]) hx hb dX11_passOn_154 rfl hl (by decide) rfl (fun ls hl => ?_)
                        refine lv_iload hx hb dX11_passOn_155 (lv_at hl 1 rfl) ?_
                        refine lv_if_ge (tgt := 169) hx hb dX11_passOn_157 (by decide) (fun c_630 => ?_) (fun c_630 => ?_)
                        · skip
                          refine lv_iload_n hx hb dX11_passOn_169 rfl (lv_at hl 4 rfl) ?_
                          refine lv_iconst (v := 1) hx hb dX11_passOn_170 (by decide) ?_
                          refine lv_iload hx hb dX11_passOn_171 (lv_at hl 3 rfl) ?_
                          refine lv_ishl hx hb dX11_passOn_173 ?_
                          refine lv_topi (fun v_631 ev_631 => ?_)
                          refine lv_iconst (v := (-1)) hx hb dX11_passOn_174 (by decide) ?_
                          refine lv_ixor hx hb dX11_passOn_175 ?_
                          refine lv_topi (fun v_632 ev_632 => ?_)
                          refine lv_iand hx hb dX11_passOn_176 ?_
                          refine lv_topi (fun v_633 ev_633 => ?_)
                          refine lv_istore_n (lv' := [(3, .int v_633), (2, .int v_629), (6, .int r_592), (5, .int 1), (4, .int (nI j_424)), (0, .ref (n 0)), (1, .int p0)]) hx hb dX11_passOn_177 rfl hl (by decide) rfl (fun ls hl => ?_)
                          refine lv_iinc (v := (nI (j_424 + 1))) (lv' := [(4, .int (nI (j_424 + 1))), (3, .int v_633), (2, .int v_629), (6, .int r_592), (5, .int 1), (0, .ref (n 0)), (1, .int p0)]) hx hb dX11_passOn_178 hl (k := 4) rfl (ni_inc _) (by decide) rfl (fun ls hl => ?_)
                          refine lv_goto (tgt := 13) hx hb dX11_passOn_181 (by decide) ?_
                          exact ihj_424 (j_424 + 1) v_633 v_629 _ _ _ (by omega) (by omega) hP hD hS (lv_sub hl [0, 1, 2, 5, 6] rfl)
                        · skip
                          refine lv_iload_n hx hb dX11_passOn_160 rfl (lv_at hl 4 rfl) ?_
                          refine lv_iconst (v := 1) hx hb dX11_passOn_161 (by decide) ?_
                          refine lv_iload hx hb dX11_passOn_162 (lv_at hl 3 rfl) ?_
                          refine lv_ishl hx hb dX11_passOn_164 ?_
                          refine lv_topi (fun v_634 ev_634 => ?_)
                          refine lv_ior hx hb dX11_passOn_165 ?_
                          refine lv_topi (fun v_635 ev_635 => ?_)
                          refine lv_goto (tgt := 177) hx hb dX11_passOn_166 (by decide) ?_
                          refine lv_istore_n (lv' := [(3, .int v_635), (2, .int v_629), (6, .int r_592), (5, .int 1), (4, .int (nI j_424)), (0, .ref (n 0)), (1, .int p0)]) hx hb dX11_passOn_177 rfl hl (by decide) rfl (fun ls hl => ?_)
                          refine lv_iinc (v := (nI (j_424 + 1))) (lv' := [(4, .int (nI (j_424 + 1))), (3, .int v_635), (2, .int v_629), (6, .int r_592), (5, .int 1), (0, .ref (n 0)), (1, .int p0)]) hx hb dX11_passOn_178 hl (k := 4) rfl (ni_inc _) (by decide) rfl (fun ls hl => ?_)
                          refine lv_goto (tgt := 13) hx hb dX11_passOn_181 (by decide) ?_
                          exact ihj_424 (j_424 + 1) v_635 v_629 _ _ _ (by omega) (by omega) hP hD hS (lv_sub hl [0, 1, 2, 5, 6] rfl)
                    · skip
                      refine lv_goto (tgt := 178) hx hb dX11_passOn_129 (by decide) ?_
                      refine lv_iinc (v := (nI (j_424 + 1))) (lv' := [(4, .int (nI (j_424 + 1))), (6, .int r_592), (5, .int 1), (3, .int x_425), (2, .int x_426), (0, .ref (n 0)), (1, .int p0)]) hx hb dX11_passOn_178 hl (k := 2) rfl (ni_inc _) (by decide) rfl (fun ls hl => ?_)
                      refine lv_goto (tgt := 13) hx hb dX11_passOn_181 (by decide) ?_
                      exact ihj_424 (j_424 + 1) x_425 x_426 _ _ _ (by omega) (by omega) hP hD hS (lv_sub hl [0, 3, 4, 5, 6] rfl)
  exact lp_427 (wn fworld 4 + 1) 0 mtwos mones _ _ _ (by omega) (by omega) hP hD hS (lv_sub hl [0, 1, 2, 3, 4] rfl)

set_option maxHeartbeats 4000000 in
set_option maxRecDepth 100000 in
theorem ctX11_goAll (l : Launch) (D : va_G) (k : Nat → ClassId) (z : Nat → Nat) (n : Nat → Nat) (mthrown : Int32) (mtaped : Nat) (msize : Nat) (mat : Nat) (mfrom : Nat) (mtoken : Int32) (mvalue : Int32) (mfaultKind : Int32) (mfaultPlace : Int32) (mmoreMany : Nat) (mlawNow : Int32) (mwetSet : Int32) (moverAll : Int32) (mones : Int32) (mtwos : Int32) (mgone : Int32) (mroundNow : Int32) (msampleFor : Int64) (msampleAll : Int64) (maskWorst : Int32) (moftenAll : Int64) (moftenView : Int64) (moftenOnes : Int64) (fworld : Nat → Int32) (frowOf : Nat → Int32) (fplaceOf : Nat → Int32) (ffirstOf : Nat → Int32) (fhardNow : Nat → Int32) (fmoreHead : Nat → Int32) (fmoreView : Nat → Int32) (fonesAt : Nat → Int32) (ftwosAt : Nat → Int32) (fgoneAt : Nat → Int32) (hmtaped : mtaped ≤ 600) (hmsize : msize ≤ 600) (hmat : mat ≤ 600) (hmfrom : mfrom ≤ 600) (hmmoreMany : mmoreMany ≤ 14) (hkworld : okW fworld) : MU l yX11_goAll cX11_goAll 2 none 6 D k z [.ref (n 0)] [((n 0), .inr (11, [.int mthrown, .ref (n 1), .ref (n 2), .ref (n 3), .ref (n 4), .int (nI mtaped), .ref (n 5), .int (nI msize), .int (nI mat), .int (nI mfrom), .int mtoken, .int mvalue, .int mfaultKind, .int mfaultPlace, .ref (n 6), .ref (n 7), .ref (n 8), .ref (n 9), .ref (n 10), .ref (n 11), .ref (n 12), .int (nI mmoreMany), .int mlawNow, .int mwetSet, .int moverAll, .ref (n 13), .ref (n 14), .ref (n 15), .int mones, .int mtwos, .int mgone, .ref (n 16), .ref (n 17), .int mroundNow, .ref (n 18), .long msampleFor, .long msampleAll, .ref (n 19), .int maskWorst, .long moftenAll, .long moftenView, .long moftenOnes, .ref (n 20), .ref (n 21), .ref (n 22), .ref (n 23)])), ((n 1), .inl (k 0, 99, .inl fworld)), ((n 7), .inl (k 0, 12, .inl frowOf)), ((n 8), .inl (k 0, 12, .inl fplaceOf)), ((n 9), .inl (k 0, 4, .inl ffirstOf)), ((n 10), .inl (k 0, 12, .inl fhardNow)), ((n 11), .inl (k 0, 14, .inl fmoreHead)), ((n 12), .inl (k 0, 14, .inl fmoreView)), ((n 13), .inl (k 0, 17, .inl fonesAt)), ((n 14), .inl (k 0, 17, .inl ftwosAt)), ((n 15), .inl (k 0, 17, .inl fgoneAt))] 0 0 (Uv D (fun _ : (Nat → Int32) × (Nat → Nat) × (Nat → Nat → Int32) × (Nat → Nat → Int64) × (Nat → Int64) => True) (fun u : (Nat → Int32) × (Nat → Nat) × (Nat → Nat → Int32) × (Nat → Nat → Int64) × (Nat → Int64) => [((n 0), .inr (11, [.int mthrown, .ref (n 1), .ref (n 2), .ref (n 3), .ref (n 4), .int (nI mtaped), .ref (n 5), .int (nI msize), .int (nI mat), .int (nI mfrom), .int mtoken, .int mvalue, .int mfaultKind, .int mfaultPlace, .ref (n 6), .ref (n 7), .ref (n 8), .ref (n 9), .ref (n 10), .ref (n 11), .ref (n 12), .int (nI mmoreMany), .int mlawNow, .int mwetSet, .int moverAll, .ref (n 13), .ref (n 14), .ref (n 15), .int (u.1 0), .int (u.1 1), .int (u.1 2), .ref (n 16), .ref (n 17), .int mroundNow, .ref (n 18), .long msampleFor, .long msampleAll, .ref (n 19), .int maskWorst, .long moftenAll, .long moftenView, .long moftenOnes, .ref (n 20), .ref (n 21), .ref (n 22), .ref (n 23)])), ((n 1), .inl (k 0, 99, .inl fworld)), ((n 7), .inl (k 0, 12, .inl frowOf)), ((n 8), .inl (k 0, 12, .inl fplaceOf)), ((n 9), .inl (k 0, 4, .inl ffirstOf)), ((n 10), .inl (k 0, 12, .inl fhardNow)), ((n 11), .inl (k 0, 14, .inl fmoreHead)), ((n 12), .inl (k 0, 14, .inl fmoreView)), ((n 13), .inl (k 0, 17, .inl (u.2.2.1 0))), ((n 14), .inl (k 0, 17, .inl (u.2.2.1 1))), ((n 15), .inl (k 0, 17, .inl (u.2.2.1 2)))])) := by
  refine MU.of (by decide) (Nat.le_of_ble_eq_true rfl) ?_
  intro p e s m below meth c ls A args Q S hr hlk hnm hQ hK hP hD hZ hA hS hl
  have hx := S.1
  have hb := S.2.1
  have hl : lv_has ls 2 [(0, .ref (n 0))] := hl
  have hbfworld := okW_bd hkworld
  refine lv_aload_n hx hb dX11_goAll_0 rfl (lv_at hl 0 rfl) ?_
  refine lv_iconst (v := 0) hx hb dX11_goAll_1 (by decide) ?_
  refine x_put (ws' := [((n 0), .inr (11, [.int mthrown, .ref (n 1), .ref (n 2), .ref (n 3), .ref (n 4), .int (nI mtaped), .ref (n 5), .int (nI msize), .int (nI mat), .int (nI mfrom), .int mtoken, .int mvalue, .int mfaultKind, .int mfaultPlace, .ref (n 6), .ref (n 7), .ref (n 8), .ref (n 9), .ref (n 10), .ref (n 11), .ref (n 12), .int (nI mmoreMany), .int mlawNow, .int mwetSet, .int moverAll, .ref (n 13), .ref (n 14), .ref (n 15), .int 0, .int mtwos, .int mgone, .ref (n 16), .ref (n 17), .int mroundNow, .ref (n 18), .long msampleFor, .long msampleAll, .ref (n 19), .int maskWorst, .long moftenAll, .long moftenView, .long moftenOnes, .ref (n 20), .ref (n 21), .ref (n 22), .ref (n 23)])), ((n 1), .inl (k 0, 99, .inl fworld)), ((n 7), .inl (k 0, 12, .inl frowOf)), ((n 8), .inl (k 0, 12, .inl fplaceOf)), ((n 9), .inl (k 0, 4, .inl ffirstOf)), ((n 10), .inl (k 0, 12, .inl fhardNow)), ((n 11), .inl (k 0, 14, .inl fmoreHead)), ((n 12), .inl (k 0, 14, .inl fmoreView)), ((n 13), .inl (k 0, 17, .inl fonesAt)), ((n 14), .inl (k 0, 17, .inl ftwosAt)), ((n 15), .inl (k 0, 17, .inl fgoneAt))]) S hK hP hD hS 0 rfl cfX11 28 lkX11_284 (by decide) rfl rfl rfl (Nat.le_of_ble_eq_true rfl) rfl dX11_goAll_2 (fun H locs hP hD hS => ?_)
  refine lv_aload_n hx hb dX11_goAll_5 rfl (lv_at hl 0 rfl) ?_
  refine lv_iconst (v := 0) hx hb dX11_goAll_6 (by decide) ?_
  refine x_put (ws' := [((n 0), .inr (11, [.int mthrown, .ref (n 1), .ref (n 2), .ref (n 3), .ref (n 4), .int (nI mtaped), .ref (n 5), .int (nI msize), .int (nI mat), .int (nI mfrom), .int mtoken, .int mvalue, .int mfaultKind, .int mfaultPlace, .ref (n 6), .ref (n 7), .ref (n 8), .ref (n 9), .ref (n 10), .ref (n 11), .ref (n 12), .int (nI mmoreMany), .int mlawNow, .int mwetSet, .int moverAll, .ref (n 13), .ref (n 14), .ref (n 15), .int 0, .int 0, .int mgone, .ref (n 16), .ref (n 17), .int mroundNow, .ref (n 18), .long msampleFor, .long msampleAll, .ref (n 19), .int maskWorst, .long moftenAll, .long moftenView, .long moftenOnes, .ref (n 20), .ref (n 21), .ref (n 22), .ref (n 23)])), ((n 1), .inl (k 0, 99, .inl fworld)), ((n 7), .inl (k 0, 12, .inl frowOf)), ((n 8), .inl (k 0, 12, .inl fplaceOf)), ((n 9), .inl (k 0, 4, .inl ffirstOf)), ((n 10), .inl (k 0, 12, .inl fhardNow)), ((n 11), .inl (k 0, 14, .inl fmoreHead)), ((n 12), .inl (k 0, 14, .inl fmoreView)), ((n 13), .inl (k 0, 17, .inl fonesAt)), ((n 14), .inl (k 0, 17, .inl ftwosAt)), ((n 15), .inl (k 0, 17, .inl fgoneAt))]) S hK hP hD hS 0 rfl cfX11 29 lkX11_287 (by decide) rfl rfl rfl (Nat.le_of_ble_eq_true rfl) rfl dX11_goAll_7 (fun H locs hP hD hS => ?_)
  refine lv_aload_n hx hb dX11_goAll_10 rfl (lv_at hl 0 rfl) ?_
  refine lv_iconst (v := 0) hx hb dX11_goAll_11 (by decide) ?_
  refine x_put (ws' := [((n 0), .inr (11, [.int mthrown, .ref (n 1), .ref (n 2), .ref (n 3), .ref (n 4), .int (nI mtaped), .ref (n 5), .int (nI msize), .int (nI mat), .int (nI mfrom), .int mtoken, .int mvalue, .int mfaultKind, .int mfaultPlace, .ref (n 6), .ref (n 7), .ref (n 8), .ref (n 9), .ref (n 10), .ref (n 11), .ref (n 12), .int (nI mmoreMany), .int mlawNow, .int mwetSet, .int moverAll, .ref (n 13), .ref (n 14), .ref (n 15), .int 0, .int 0, .int 0, .ref (n 16), .ref (n 17), .int mroundNow, .ref (n 18), .long msampleFor, .long msampleAll, .ref (n 19), .int maskWorst, .long moftenAll, .long moftenView, .long moftenOnes, .ref (n 20), .ref (n 21), .ref (n 22), .ref (n 23)])), ((n 1), .inl (k 0, 99, .inl fworld)), ((n 7), .inl (k 0, 12, .inl frowOf)), ((n 8), .inl (k 0, 12, .inl fplaceOf)), ((n 9), .inl (k 0, 4, .inl ffirstOf)), ((n 10), .inl (k 0, 12, .inl fhardNow)), ((n 11), .inl (k 0, 14, .inl fmoreHead)), ((n 12), .inl (k 0, 14, .inl fmoreView)), ((n 13), .inl (k 0, 17, .inl fonesAt)), ((n 14), .inl (k 0, 17, .inl ftwosAt)), ((n 15), .inl (k 0, 17, .inl fgoneAt))]) S hK hP hD hS 0 rfl cfX11 30 lkX11_281 (by decide) rfl rfl rfl (Nat.le_of_ble_eq_true rfl) rfl dX11_goAll_12 (fun H locs hP hD hS => ?_)
  refine lv_iconst (v := 0) hx hb dX11_goAll_15 (by decide) ?_
  refine lv_istore_n (lv' := [(1, .int 0), (0, .ref (n 0))]) hx hb dX11_goAll_16 rfl hl (by decide) rfl (fun ls hl => ?_)
  have lp_45 : ∀ (nn j_38 : Nat) (x_39 : Int32) (x_40 : Int32) (x_41 : Int32) (g_42 : Nat → Int32) (g_43 : Nat → Int32) (g_44 : Nat → Int32) (H : Heap) (locs : List Loc) (ls : Array Slot), j_38 ≤ wn fworld 0 + 1 → wn fworld 0 + 1 - j_38 < nn → va_P D vwCl [((n 0), .inr (11, [.int mthrown, .ref (n 1), .ref (n 2), .ref (n 3), .ref (n 4), .int (nI mtaped), .ref (n 5), .int (nI msize), .int (nI mat), .int (nI mfrom), .int mtoken, .int mvalue, .int mfaultKind, .int mfaultPlace, .ref (n 6), .ref (n 7), .ref (n 8), .ref (n 9), .ref (n 10), .ref (n 11), .ref (n 12), .int (nI mmoreMany), .int mlawNow, .int mwetSet, .int moverAll, .ref (n 13), .ref (n 14), .ref (n 15), .int x_39, .int x_40, .int x_41, .ref (n 16), .ref (n 17), .int mroundNow, .ref (n 18), .long msampleFor, .long msampleAll, .ref (n 19), .int maskWorst, .long moftenAll, .long moftenView, .long moftenOnes, .ref (n 20), .ref (n 21), .ref (n 22), .ref (n 23)])), ((n 1), .inl (k 0, 99, .inl fworld)), ((n 7), .inl (k 0, 12, .inl frowOf)), ((n 8), .inl (k 0, 12, .inl fplaceOf)), ((n 9), .inl (k 0, 4, .inl ffirstOf)), ((n 10), .inl (k 0, 12, .inl fhardNow)), ((n 11), .inl (k 0, 14, .inl fmoreHead)), ((n 12), .inl (k 0, 14, .inl fmoreView)), ((n 13), .inl (k 0, 17, .inl g_42)), ((n 14), .inl (k 0, 17, .inl g_43)), ((n 15), .inl (k 0, 17, .inl g_44))] H → va_D A [((n 0), .inr (11, [.int mthrown, .ref (n 1), .ref (n 2), .ref (n 3), .ref (n 4), .int (nI mtaped), .ref (n 5), .int (nI msize), .int (nI mat), .int (nI mfrom), .int mtoken, .int mvalue, .int mfaultKind, .int mfaultPlace, .ref (n 6), .ref (n 7), .ref (n 8), .ref (n 9), .ref (n 10), .ref (n 11), .ref (n 12), .int (nI mmoreMany), .int mlawNow, .int mwetSet, .int moverAll, .ref (n 13), .ref (n 14), .ref (n 15), .int x_39, .int x_40, .int x_41, .ref (n 16), .ref (n 17), .int mroundNow, .ref (n 18), .long msampleFor, .long msampleAll, .ref (n 19), .int maskWorst, .long moftenAll, .long moftenView, .long moftenOnes, .ref (n 20), .ref (n 21), .ref (n 22), .ref (n 23)])), ((n 1), .inl (k 0, 99, .inl fworld)), ((n 7), .inl (k 0, 12, .inl frowOf)), ((n 8), .inl (k 0, 12, .inl fplaceOf)), ((n 9), .inl (k 0, 4, .inl ffirstOf)), ((n 10), .inl (k 0, 12, .inl fhardNow)), ((n 11), .inl (k 0, 14, .inl fmoreHead)), ((n 12), .inl (k 0, 14, .inl fmoreView)), ((n 13), .inl (k 0, 17, .inl g_42)), ((n 14), .inl (k 0, 17, .inl g_43)), ((n 15), .inl (k 0, 17, .inl g_44))] → va_S A s.heap H locs → lv_has ls 2 [(1, .int (nI j_38)), (0, .ref (n 0))] → W p l e (Rm 6 0 0) s m args below meth c H locs 0 0 Q (F0 m 17 ls []) := by
    intro nn
    induction nn with
    | zero => intro j_38 x_39 x_40 x_41 g_42 g_43 g_44 H locs ls hjj_38 hnj_38; exact absurd hnj_38 (by omega)
    | succ nn ihj_38 =>
      intro j_38 x_39 x_40 x_41 g_42 g_43 g_44 H locs ls hjj_38 hnj_38 hP hD hS hl
      refine lv_iload_n hx hb dX11_goAll_17 rfl (lv_at hl 0 rfl) ?_
      refine lv_aload_n hx hb dX11_goAll_18 rfl (lv_at hl 1 rfl) ?_
      refine x_roVi (As := []) S hK hP hD hZ (fun _ h => h) hA hS hA hl mwX11_hours lkX11_103 (ctX11_hours l D k z n mthrown mtaped msize mat mfrom mtoken mvalue mfaultKind mfaultPlace mmoreMany mlawNow mwetSet moverAll x_39 x_40 x_41 mroundNow msampleFor msampleAll maskWorst moftenAll moftenView moftenOnes fworld (by omega) (by omega) (by omega) (by omega) (by omega) (hkworld)) [0, 1] rfl (by decide) rfl rfl rfl rfl rfl ⟨Nat.le_of_ble_eq_true rfl, Nat.le_of_ble_eq_true rfl, Nat.le_of_ble_eq_true rfl⟩ dX11_goAll_19 ⟨Nat.le_of_ble_eq_true rfl, Nat.le_of_ble_eq_true rfl⟩ (fun r_46 H locs hr_46 hP hS => ?_)
      obtain rfl := hr_46
      refine lv_icmp_gt (tgt := 82) hx hb dX11_goAll_22 (by decide) (fun c_48 => ?_) (fun c_48 => ?_)
      · skip
        have c_48 : wn fworld 0 < j_38 := (ni_lt rfl rfl (by omega) (by omega)).mp c_48
        exact x_retv S hr hlk hQ hS ((fun i => ([x_39, x_40, x_41] : List (Int32)).getD i 0), (fun i => ([] : List (Nat)).getD i 0), (fun i => ([g_42, g_43, g_44] : List (Nat → Int32)).getD i (fun _ => 0)), (fun i => ([] : List (Nat → Int64)).getD i (fun _ => 0)), (fun i => ([] : List (Int64)).getD i 0)) trivial (x_B hP hD) dX11_goAll_82
      · skip
        have c_48 : ¬ wn fworld 0 < j_38 := fun q => c_48 ((ni_lt rfl rfl (by omega) (by omega)).mpr q)
        refine lv_aload_n hx hb dX11_goAll_25 rfl (lv_at hl 1 rfl) ?_
        refine lv_iload_n hx hb dX11_goAll_26 rfl (lv_at hl 0 rfl) ?_
        refine x_muVv (wr := [((n 7), .inl (k 0, 12, .inl frowOf)), ((n 8), .inl (k 0, 12, .inl fplaceOf)), ((n 9), .inl (k 0, 4, .inl ffirstOf)), ((n 10), .inl (k 0, 12, .inl fhardNow)), ((n 13), .inl (k 0, 17, .inl g_42)), ((n 14), .inl (k 0, 17, .inl g_43)), ((n 15), .inl (k 0, 17, .inl g_44))]) (As := [.int (nI j_38)]) S hK hP hD hZ hS hA hl mwX11_beginHour lkX11_303 (ctX11_beginHour l D k z n mthrown mtaped msize mat mfrom mtoken mvalue mfaultKind mfaultPlace mmoreMany mlawNow mwetSet moverAll x_39 x_40 x_41 mroundNow msampleFor msampleAll maskWorst moftenAll moftenView moftenOnes fworld fmoreHead fmoreView (nI j_38) (by omega) (by omega) (by omega) (by omega) (by omega) (hkworld)) [0, 1, 6, 7] [2, 3, 4, 5, 8, 9, 10] rfl rfl (by decide) (by decide) (by decide) rfl rfl rfl rfl rfl ⟨Nat.le_of_ble_eq_true rfl, Nat.le_of_ble_eq_true rfl, Nat.le_of_ble_eq_true rfl⟩ dX11_goAll_27 ⟨Nat.le_of_ble_eq_true rfl, Nat.le_of_ble_eq_true rfl⟩ (fun u_50 H locs hr_49 hP hD hS => ?_)
        have hP : va_P D vwCl [((n 0), .inr (11, [.int mthrown, .ref (n 1), .ref (n 2), .ref (n 3), .ref (n 4), .int (nI mtaped), .ref (n 5), .int (nI msize), .int (nI mat), .int (nI mfrom), .int mtoken, .int mvalue, .int mfaultKind, .int mfaultPlace, .ref (n 6), .ref (n 7), .ref (n 8), .ref (n 9), .ref (n 10), .ref (n 11), .ref (n 12), .int (nI mmoreMany), .int mlawNow, .int mwetSet, .int moverAll, .ref (n 13), .ref (n 14), .ref (n 15), .int (u_50.1 0), .int (u_50.1 1), .int (u_50.1 2), .ref (n 16), .ref (n 17), .int mroundNow, .ref (n 18), .long msampleFor, .long msampleAll, .ref (n 19), .int maskWorst, .long moftenAll, .long moftenView, .long moftenOnes, .ref (n 20), .ref (n 21), .ref (n 22), .ref (n 23)])), ((n 1), .inl (k 0, 99, .inl fworld)), ((n 7), .inl (k 0, 12, .inl frowOf)), ((n 8), .inl (k 0, 12, .inl fplaceOf)), ((n 9), .inl (k 0, 4, .inl ffirstOf)), ((n 10), .inl (k 0, 12, .inl fhardNow)), ((n 11), .inl (k 0, 14, .inl fmoreHead)), ((n 12), .inl (k 0, 14, .inl fmoreView)), ((n 13), .inl (k 0, 17, .inl g_42)), ((n 14), .inl (k 0, 17, .inl g_43)), ((n 15), .inl (k 0, 17, .inl g_44))] H := hP.sub [7, 8, 0, 1, 2, 3, 9, 10, 4, 5, 6] rfl
        have hD : va_D A [((n 0), .inr (11, [.int mthrown, .ref (n 1), .ref (n 2), .ref (n 3), .ref (n 4), .int (nI mtaped), .ref (n 5), .int (nI msize), .int (nI mat), .int (nI mfrom), .int mtoken, .int mvalue, .int mfaultKind, .int mfaultPlace, .ref (n 6), .ref (n 7), .ref (n 8), .ref (n 9), .ref (n 10), .ref (n 11), .ref (n 12), .int (nI mmoreMany), .int mlawNow, .int mwetSet, .int moverAll, .ref (n 13), .ref (n 14), .ref (n 15), .int (u_50.1 0), .int (u_50.1 1), .int (u_50.1 2), .ref (n 16), .ref (n 17), .int mroundNow, .ref (n 18), .long msampleFor, .long msampleAll, .ref (n 19), .int maskWorst, .long moftenAll, .long moftenView, .long moftenOnes, .ref (n 20), .ref (n 21), .ref (n 22), .ref (n 23)])), ((n 1), .inl (k 0, 99, .inl fworld)), ((n 7), .inl (k 0, 12, .inl frowOf)), ((n 8), .inl (k 0, 12, .inl fplaceOf)), ((n 9), .inl (k 0, 4, .inl ffirstOf)), ((n 10), .inl (k 0, 12, .inl fhardNow)), ((n 11), .inl (k 0, 14, .inl fmoreHead)), ((n 12), .inl (k 0, 14, .inl fmoreView)), ((n 13), .inl (k 0, 17, .inl g_42)), ((n 14), .inl (k 0, 17, .inl g_43)), ((n 15), .inl (k 0, 17, .inl g_44))] := hD.sub [7, 8, 0, 1, 2, 3, 9, 10, 4, 5, 6] (by decide) rfl
        refine lv_aload_n hx hb dX11_goAll_30 rfl (lv_at hl 1 rfl) ?_
        refine x_get S hK hP 0 rfl cfX11 25 lkX11_52 (by decide) rfl dX11_goAll_31 ?_
        refine lv_iload_n hx hb dX11_goAll_34 rfl (lv_at hl 0 rfl) ?_
        refine lv_aload_n hx hb dX11_goAll_35 rfl (lv_at hl 1 rfl) ?_
        refine x_get S hK hP 0 rfl cfX11 28 lkX11_284 (by decide) rfl dX11_goAll_36 ?_
        refine x_iast (ws' := fun f_51 => [((n 0), .inr (11, [.int mthrown, .ref (n 1), .ref (n 2), .ref (n 3), .ref (n 4), .int (nI mtaped), .ref (n 5), .int (nI msize), .int (nI mat), .int (nI mfrom), .int mtoken, .int mvalue, .int mfaultKind, .int mfaultPlace, .ref (n 6), .ref (n 7), .ref (n 8), .ref (n 9), .ref (n 10), .ref (n 11), .ref (n 12), .int (nI mmoreMany), .int mlawNow, .int mwetSet, .int moverAll, .ref (n 13), .ref (n 14), .ref (n 15), .int (u_50.1 0), .int (u_50.1 1), .int (u_50.1 2), .ref (n 16), .ref (n 17), .int mroundNow, .ref (n 18), .long msampleFor, .long msampleAll, .ref (n 19), .int maskWorst, .long moftenAll, .long moftenView, .long moftenOnes, .ref (n 20), .ref (n 21), .ref (n 22), .ref (n 23)])), ((n 1), .inl (k 0, 99, .inl fworld)), ((n 7), .inl (k 0, 12, .inl frowOf)), ((n 8), .inl (k 0, 12, .inl fplaceOf)), ((n 9), .inl (k 0, 4, .inl ffirstOf)), ((n 10), .inl (k 0, 12, .inl fhardNow)), ((n 11), .inl (k 0, 14, .inl fmoreHead)), ((n 12), .inl (k 0, 14, .inl fmoreView)), ((n 13), .inl (k 0, 17, .inl f_51)), ((n 14), .inl (k 0, 17, .inl g_43)), ((n 15), .inl (k 0, 17, .inl g_44))]) S hK hP hD hS 8 rfl (vp_in_nI (by omega) (by decide)) (fun _ => rfl) dX11_goAll_39 (fun f_51 H locs ef_51 hP hD hS => ?_)
        refine lv_aload_n hx hb dX11_goAll_40 rfl (lv_at hl 1 rfl) ?_
        refine x_get S hK hP 0 rfl cfX11 26 lkX11_55 (by decide) rfl dX11_goAll_41 ?_
        refine lv_iload_n hx hb dX11_goAll_44 rfl (lv_at hl 0 rfl) ?_
        refine lv_aload_n hx hb dX11_goAll_45 rfl (lv_at hl 1 rfl) ?_
        refine x_get S hK hP 0 rfl cfX11 29 lkX11_287 (by decide) rfl dX11_goAll_46 ?_
        refine x_iast (ws' := fun f_52 => [((n 0), .inr (11, [.int mthrown, .ref (n 1), .ref (n 2), .ref (n 3), .ref (n 4), .int (nI mtaped), .ref (n 5), .int (nI msize), .int (nI mat), .int (nI mfrom), .int mtoken, .int mvalue, .int mfaultKind, .int mfaultPlace, .ref (n 6), .ref (n 7), .ref (n 8), .ref (n 9), .ref (n 10), .ref (n 11), .ref (n 12), .int (nI mmoreMany), .int mlawNow, .int mwetSet, .int moverAll, .ref (n 13), .ref (n 14), .ref (n 15), .int (u_50.1 0), .int (u_50.1 1), .int (u_50.1 2), .ref (n 16), .ref (n 17), .int mroundNow, .ref (n 18), .long msampleFor, .long msampleAll, .ref (n 19), .int maskWorst, .long moftenAll, .long moftenView, .long moftenOnes, .ref (n 20), .ref (n 21), .ref (n 22), .ref (n 23)])), ((n 1), .inl (k 0, 99, .inl fworld)), ((n 7), .inl (k 0, 12, .inl frowOf)), ((n 8), .inl (k 0, 12, .inl fplaceOf)), ((n 9), .inl (k 0, 4, .inl ffirstOf)), ((n 10), .inl (k 0, 12, .inl fhardNow)), ((n 11), .inl (k 0, 14, .inl fmoreHead)), ((n 12), .inl (k 0, 14, .inl fmoreView)), ((n 13), .inl (k 0, 17, .inl f_51)), ((n 14), .inl (k 0, 17, .inl f_52)), ((n 15), .inl (k 0, 17, .inl g_44))]) S hK hP hD hS 9 rfl (vp_in_nI (by omega) (by decide)) (fun _ => rfl) dX11_goAll_49 (fun f_52 H locs ef_52 hP hD hS => ?_)
        refine lv_aload_n hx hb dX11_goAll_50 rfl (lv_at hl 1 rfl) ?_
        refine x_get S hK hP 0 rfl cfX11 27 lkX11_58 (by decide) rfl dX11_goAll_51 ?_
        refine lv_iload_n hx hb dX11_goAll_54 rfl (lv_at hl 0 rfl) ?_
        refine lv_aload_n hx hb dX11_goAll_55 rfl (lv_at hl 1 rfl) ?_
        refine x_get S hK hP 0 rfl cfX11 30 lkX11_281 (by decide) rfl dX11_goAll_56 ?_
        refine x_iast (ws' := fun f_53 => [((n 0), .inr (11, [.int mthrown, .ref (n 1), .ref (n 2), .ref (n 3), .ref (n 4), .int (nI mtaped), .ref (n 5), .int (nI msize), .int (nI mat), .int (nI mfrom), .int mtoken, .int mvalue, .int mfaultKind, .int mfaultPlace, .ref (n 6), .ref (n 7), .ref (n 8), .ref (n 9), .ref (n 10), .ref (n 11), .ref (n 12), .int (nI mmoreMany), .int mlawNow, .int mwetSet, .int moverAll, .ref (n 13), .ref (n 14), .ref (n 15), .int (u_50.1 0), .int (u_50.1 1), .int (u_50.1 2), .ref (n 16), .ref (n 17), .int mroundNow, .ref (n 18), .long msampleFor, .long msampleAll, .ref (n 19), .int maskWorst, .long moftenAll, .long moftenView, .long moftenOnes, .ref (n 20), .ref (n 21), .ref (n 22), .ref (n 23)])), ((n 1), .inl (k 0, 99, .inl fworld)), ((n 7), .inl (k 0, 12, .inl frowOf)), ((n 8), .inl (k 0, 12, .inl fplaceOf)), ((n 9), .inl (k 0, 4, .inl ffirstOf)), ((n 10), .inl (k 0, 12, .inl fhardNow)), ((n 11), .inl (k 0, 14, .inl fmoreHead)), ((n 12), .inl (k 0, 14, .inl fmoreView)), ((n 13), .inl (k 0, 17, .inl f_51)), ((n 14), .inl (k 0, 17, .inl f_52)), ((n 15), .inl (k 0, 17, .inl f_53))]) S hK hP hD hS 10 rfl (vp_in_nI (by omega) (by decide)) (fun _ => rfl) dX11_goAll_59 (fun f_53 H locs ef_53 hP hD hS => ?_)
        refine lv_aload_n hx hb dX11_goAll_60 rfl (lv_at hl 1 rfl) ?_
        refine x_get S hK hP 0 rfl cfX11 23 lkX11_264 (by decide) rfl dX11_goAll_61 ?_
        refine lv_iload_n hx hb dX11_goAll_64 rfl (lv_at hl 0 rfl) ?_
        refine x_roSi (As := [.int mwetSet, .int (nI j_38)]) S hK hP hD hZ (fun _ h => h) hA hS hA hl mwX11_bit lkX11_274 (ctX11_bit l D k z mwetSet (nI j_38) ) [] rfl (by decide) rfl rfl ⟨Nat.le_of_ble_eq_true rfl, Nat.le_of_ble_eq_true rfl, Nat.le_of_ble_eq_true rfl⟩ dX11_goAll_65 ⟨Nat.le_of_ble_eq_true rfl, Nat.le_of_ble_eq_true rfl⟩ (fun r_54 H locs hr_54 hP hS => ?_)
        refine lv_if_ne (tgt := 76) hx hb dX11_goAll_68 (by decide) (fun c_56 => ?_) (fun c_56 => ?_)
        · skip
          refine lv_iinc (v := (nI (j_38 + 1))) (lv' := [(1, .int (nI (j_38 + 1))), (0, .ref (n 0))]) hx hb dX11_goAll_76 hl (k := 0) rfl (ni_inc _) (by decide) rfl (fun ls hl => ?_)
          refine lv_goto (tgt := 17) hx hb dX11_goAll_79 (by decide) ?_
          exact ihj_38 (j_38 + 1) (u_50.1 0) (u_50.1 1) (u_50.1 2) f_51 f_52 f_53 _ _ _ (by omega) (by omega) hP hD hS (lv_sub hl [0, 1] rfl)
        · skip
          refine lv_aload_n hx hb dX11_goAll_71 rfl (lv_at hl 1 rfl) ?_
          refine lv_iload_n hx hb dX11_goAll_72 rfl (lv_at hl 0 rfl) ?_
          refine x_muVv (wr := [((n 11), .inl (k 0, 14, .inl fmoreHead)), ((n 12), .inl (k 0, 14, .inl fmoreView)), ((n 13), .inl (k 0, 17, .inl f_51)), ((n 14), .inl (k 0, 17, .inl f_52)), ((n 15), .inl (k 0, 17, .inl f_53))]) (As := [.int (nI j_38)]) S hK hP hD hZ hS hA hl mwX11_passOn lkX11_306 (ctX11_passOn l D k z n mthrown mtaped msize mat mfrom mtoken mvalue mfaultKind mfaultPlace mmoreMany mlawNow mwetSet moverAll (u_50.1 0) (u_50.1 1) (u_50.1 2) mroundNow msampleFor msampleAll maskWorst moftenAll moftenView moftenOnes fworld frowOf fplaceOf ffirstOf fhardNow (nI j_38) (by omega) (by omega) (by omega) (by omega) (by omega) (hkworld)) [0, 1, 2, 3, 4, 5] [6, 7, 8, 9, 10] rfl rfl (by decide) (by decide) (by decide) rfl rfl rfl rfl rfl ⟨Nat.le_of_ble_eq_true rfl, Nat.le_of_ble_eq_true rfl, Nat.le_of_ble_eq_true rfl⟩ dX11_goAll_73 ⟨Nat.le_of_ble_eq_true rfl, Nat.le_of_ble_eq_true rfl⟩ (fun u_58 H locs hr_57 hP hD hS => ?_)
          have hP : va_P D vwCl [((n 0), .inr (11, [.int mthrown, .ref (n 1), .ref (n 2), .ref (n 3), .ref (n 4), .int (nI mtaped), .ref (n 5), .int (nI msize), .int (nI mat), .int (nI mfrom), .int mtoken, .int mvalue, .int mfaultKind, .int mfaultPlace, .ref (n 6), .ref (n 7), .ref (n 8), .ref (n 9), .ref (n 10), .ref (n 11), .ref (n 12), .int (nI mmoreMany), .int mlawNow, .int mwetSet, .int moverAll, .ref (n 13), .ref (n 14), .ref (n 15), .int (u_58.1 0), .int (u_58.1 1), .int (u_50.1 2), .ref (n 16), .ref (n 17), .int mroundNow, .ref (n 18), .long msampleFor, .long msampleAll, .ref (n 19), .int maskWorst, .long moftenAll, .long moftenView, .long moftenOnes, .ref (n 20), .ref (n 21), .ref (n 22), .ref (n 23)])), ((n 1), .inl (k 0, 99, .inl fworld)), ((n 7), .inl (k 0, 12, .inl frowOf)), ((n 8), .inl (k 0, 12, .inl fplaceOf)), ((n 9), .inl (k 0, 4, .inl ffirstOf)), ((n 10), .inl (k 0, 12, .inl fhardNow)), ((n 11), .inl (k 0, 14, .inl fmoreHead)), ((n 12), .inl (k 0, 14, .inl fmoreView)), ((n 13), .inl (k 0, 17, .inl f_51)), ((n 14), .inl (k 0, 17, .inl f_52)), ((n 15), .inl (k 0, 17, .inl f_53))] H := hP.sub [5, 6, 7, 8, 9, 10, 0, 1, 2, 3, 4] rfl
          have hD : va_D A [((n 0), .inr (11, [.int mthrown, .ref (n 1), .ref (n 2), .ref (n 3), .ref (n 4), .int (nI mtaped), .ref (n 5), .int (nI msize), .int (nI mat), .int (nI mfrom), .int mtoken, .int mvalue, .int mfaultKind, .int mfaultPlace, .ref (n 6), .ref (n 7), .ref (n 8), .ref (n 9), .ref (n 10), .ref (n 11), .ref (n 12), .int (nI mmoreMany), .int mlawNow, .int mwetSet, .int moverAll, .ref (n 13), .ref (n 14), .ref (n 15), .int (u_58.1 0), .int (u_58.1 1), .int (u_50.1 2), .ref (n 16), .ref (n 17), .int mroundNow, .ref (n 18), .long msampleFor, .long msampleAll, .ref (n 19), .int maskWorst, .long moftenAll, .long moftenView, .long moftenOnes, .ref (n 20), .ref (n 21), .ref (n 22), .ref (n 23)])), ((n 1), .inl (k 0, 99, .inl fworld)), ((n 7), .inl (k 0, 12, .inl frowOf)), ((n 8), .inl (k 0, 12, .inl fplaceOf)), ((n 9), .inl (k 0, 4, .inl ffirstOf)), ((n 10), .inl (k 0, 12, .inl fhardNow)), ((n 11), .inl (k 0, 14, .inl fmoreHead)), ((n 12), .inl (k 0, 14, .inl fmoreView)), ((n 13), .inl (k 0, 17, .inl f_51)), ((n 14), .inl (k 0, 17, .inl f_52)), ((n 15), .inl (k 0, 17, .inl f_53))] := hD.sub [5, 6, 7, 8, 9, 10, 0, 1, 2, 3, 4] (by decide) rfl
          refine lv_iinc (v := (nI (j_38 + 1))) (lv' := [(1, .int (nI (j_38 + 1))), (0, .ref (n 0))]) hx hb dX11_goAll_76 hl (k := 0) rfl (ni_inc _) (by decide) rfl (fun ls hl => ?_)
          refine lv_goto (tgt := 17) hx hb dX11_goAll_79 (by decide) ?_
          exact ihj_38 (j_38 + 1) (u_58.1 0) (u_58.1 1) (u_50.1 2) f_51 f_52 f_53 _ _ _ (by omega) (by omega) hP hD hS (lv_sub hl [0, 1] rfl)
  exact lp_45 (wn fworld 0 + 1 + 1) 0 0 0 0 fonesAt ftwosAt fgoneAt _ _ _ (by omega) (by omega) hP hD hS (lv_sub hl [0, 1] rfl)

set_option maxHeartbeats 4000000 in
set_option maxRecDepth 100000 in
theorem ctX11_asksGarden (l : Launch) (D : va_G) (k : Nat → ClassId) (z : Nat → Nat) (n : Nat → Nat) (mthrown : Int32) (mtaped : Nat) (msize : Nat) (mat : Nat) (mfrom : Nat) (mtoken : Int32) (mvalue : Int32) (mfaultKind : Int32) (mfaultPlace : Int32) (mmoreMany : Nat) (mlawNow : Int32) (mwetSet : Int32) (moverAll : Int32) (mones : Int32) (mtwos : Int32) (mgone : Int32) (mroundNow : Int32) (msampleFor : Int64) (msampleAll : Int64) (maskWorst : Int32) (moftenAll : Int64) (moftenView : Int64) (moftenOnes : Int64) (fworld : Nat → Int32) (frowOf : Nat → Int32) (fplaceOf : Nat → Int32) (ffirstOf : Nat → Int32) (fhardNow : Nat → Int32) (fmoreHead : Nat → Int32) (fmoreView : Nat → Int32) (fonesAt : Nat → Int32) (ftwosAt : Nat → Int32) (fgoneAt : Nat → Int32) (hmtaped : mtaped ≤ 600) (hmsize : msize ≤ 600) (hmat : mat ≤ 600) (hmfrom : mfrom ≤ 600) (hmmoreMany : mmoreMany ≤ 14) (hkworld : okW fworld) : MU l yX11_asksGarden cX11_asksGarden 1 (some .boolean) 7 D k z [.ref (n 0)] [((n 0), .inr (11, [.int mthrown, .ref (n 1), .ref (n 2), .ref (n 3), .ref (n 4), .int (nI mtaped), .ref (n 5), .int (nI msize), .int (nI mat), .int (nI mfrom), .int mtoken, .int mvalue, .int mfaultKind, .int mfaultPlace, .ref (n 6), .ref (n 7), .ref (n 8), .ref (n 9), .ref (n 10), .ref (n 11), .ref (n 12), .int (nI mmoreMany), .int mlawNow, .int mwetSet, .int moverAll, .ref (n 13), .ref (n 14), .ref (n 15), .int mones, .int mtwos, .int mgone, .ref (n 16), .ref (n 17), .int mroundNow, .ref (n 18), .long msampleFor, .long msampleAll, .ref (n 19), .int maskWorst, .long moftenAll, .long moftenView, .long moftenOnes, .ref (n 20), .ref (n 21), .ref (n 22), .ref (n 23)])), ((n 1), .inl (k 0, 99, .inl fworld)), ((n 7), .inl (k 0, 12, .inl frowOf)), ((n 8), .inl (k 0, 12, .inl fplaceOf)), ((n 9), .inl (k 0, 4, .inl ffirstOf)), ((n 10), .inl (k 0, 12, .inl fhardNow)), ((n 11), .inl (k 0, 14, .inl fmoreHead)), ((n 12), .inl (k 0, 14, .inl fmoreView)), ((n 13), .inl (k 0, 17, .inl fonesAt)), ((n 14), .inl (k 0, 17, .inl ftwosAt)), ((n 15), .inl (k 0, 17, .inl fgoneAt))] 0 0 (Ui D (fun (r : Int32) (u : (Nat → Int32) × (Nat → Nat) × (Nat → Nat → Int32) × (Nat → Nat → Int64) × (Nat → Int64)) => (r = 0 ∨ r = 1) ∧ (u.2.1 0 ≤ 14)) (fun u : (Nat → Int32) × (Nat → Nat) × (Nat → Nat → Int32) × (Nat → Nat → Int64) × (Nat → Int64) => [((n 0), .inr (11, [.int mthrown, .ref (n 1), .ref (n 2), .ref (n 3), .ref (n 4), .int (nI mtaped), .ref (n 5), .int (nI msize), .int (nI mat), .int (nI mfrom), .int mtoken, .int mvalue, .int mfaultKind, .int mfaultPlace, .ref (n 6), .ref (n 7), .ref (n 8), .ref (n 9), .ref (n 10), .ref (n 11), .ref (n 12), .int (nI (u.2.1 0)), .int (u.1 0), .int (u.1 1), .int (u.1 2), .ref (n 13), .ref (n 14), .ref (n 15), .int (u.1 3), .int (u.1 4), .int (u.1 5), .ref (n 16), .ref (n 17), .int mroundNow, .ref (n 18), .long msampleFor, .long msampleAll, .ref (n 19), .int maskWorst, .long moftenAll, .long moftenView, .long moftenOnes, .ref (n 20), .ref (n 21), .ref (n 22), .ref (n 23)])), ((n 1), .inl (k 0, 99, .inl fworld)), ((n 7), .inl (k 0, 12, .inl (u.2.2.1 4))), ((n 8), .inl (k 0, 12, .inl (u.2.2.1 5))), ((n 9), .inl (k 0, 4, .inl (u.2.2.1 6))), ((n 10), .inl (k 0, 12, .inl (u.2.2.1 0))), ((n 11), .inl (k 0, 14, .inl fmoreHead)), ((n 12), .inl (k 0, 14, .inl fmoreView)), ((n 13), .inl (k 0, 17, .inl (u.2.2.1 1))), ((n 14), .inl (k 0, 17, .inl (u.2.2.1 2))), ((n 15), .inl (k 0, 17, .inl (u.2.2.1 3)))])) := by
  refine MU.of (by decide) (Nat.le_of_ble_eq_true rfl) ?_
  intro p e s m below meth c ls A args Q S hr hlk hnm hQ hK hP hD hZ hA hS hl
  have hx := S.1
  have hb := S.2.1
  have hl : lv_has ls 1 [(0, .ref (n 0))] := hl
  have hbfworld := okW_bd hkworld
  refine lv_aload_n hx hb dX11_asksGarden_0 rfl (lv_at hl 0 rfl) ?_
  refine x_muVv (wr := [((n 11), .inl (k 0, 14, .inl fmoreHead)), ((n 12), .inl (k 0, 14, .inl fmoreView)), ((n 13), .inl (k 0, 17, .inl fonesAt)), ((n 14), .inl (k 0, 17, .inl ftwosAt)), ((n 15), .inl (k 0, 17, .inl fgoneAt))]) (As := []) S hK hP hD hZ hS hA hl mwX11_asItIs lkX11_309 (ctX11_asItIs l D k z n mthrown mtaped msize mat mfrom mtoken mvalue mfaultKind mfaultPlace mmoreMany mlawNow mwetSet moverAll mones mtwos mgone mroundNow msampleFor msampleAll maskWorst moftenAll moftenView moftenOnes fworld frowOf fplaceOf ffirstOf fhardNow (by omega) (by omega) (by omega) (by omega) (by omega) (hkworld)) [0, 1, 2, 3, 4, 5] [6, 7, 8, 9, 10] rfl rfl (by decide) (by decide) (by decide) rfl rfl rfl rfl rfl ⟨Nat.le_of_ble_eq_true rfl, Nat.le_of_ble_eq_true rfl, Nat.le_of_ble_eq_true rfl⟩ dX11_asksGarden_1 ⟨Nat.le_of_ble_eq_true rfl, Nat.le_of_ble_eq_true rfl⟩ (fun u_2 H locs hr_1 hP hD hS => ?_)
  have hP : va_P D vwCl [((n 0), .inr (11, [.int mthrown, .ref (n 1), .ref (n 2), .ref (n 3), .ref (n 4), .int (nI mtaped), .ref (n 5), .int (nI msize), .int (nI mat), .int (nI mfrom), .int mtoken, .int mvalue, .int mfaultKind, .int mfaultPlace, .ref (n 6), .ref (n 7), .ref (n 8), .ref (n 9), .ref (n 10), .ref (n 11), .ref (n 12), .int (nI (u_2.2.1 0)), .int (u_2.1 0), .int (u_2.1 1), .int (u_2.1 2), .ref (n 13), .ref (n 14), .ref (n 15), .int mones, .int mtwos, .int mgone, .ref (n 16), .ref (n 17), .int mroundNow, .ref (n 18), .long msampleFor, .long msampleAll, .ref (n 19), .int maskWorst, .long moftenAll, .long moftenView, .long moftenOnes, .ref (n 20), .ref (n 21), .ref (n 22), .ref (n 23)])), ((n 1), .inl (k 0, 99, .inl fworld)), ((n 7), .inl (k 0, 12, .inl (u_2.2.2.1 1))), ((n 8), .inl (k 0, 12, .inl (u_2.2.2.1 2))), ((n 9), .inl (k 0, 4, .inl (u_2.2.2.1 3))), ((n 10), .inl (k 0, 12, .inl (u_2.2.2.1 0))), ((n 11), .inl (k 0, 14, .inl fmoreHead)), ((n 12), .inl (k 0, 14, .inl fmoreView)), ((n 13), .inl (k 0, 17, .inl fonesAt)), ((n 14), .inl (k 0, 17, .inl ftwosAt)), ((n 15), .inl (k 0, 17, .inl fgoneAt))] H := hP.sub [5, 6, 7, 8, 9, 10, 0, 1, 2, 3, 4] rfl
  have hD : va_D A [((n 0), .inr (11, [.int mthrown, .ref (n 1), .ref (n 2), .ref (n 3), .ref (n 4), .int (nI mtaped), .ref (n 5), .int (nI msize), .int (nI mat), .int (nI mfrom), .int mtoken, .int mvalue, .int mfaultKind, .int mfaultPlace, .ref (n 6), .ref (n 7), .ref (n 8), .ref (n 9), .ref (n 10), .ref (n 11), .ref (n 12), .int (nI (u_2.2.1 0)), .int (u_2.1 0), .int (u_2.1 1), .int (u_2.1 2), .ref (n 13), .ref (n 14), .ref (n 15), .int mones, .int mtwos, .int mgone, .ref (n 16), .ref (n 17), .int mroundNow, .ref (n 18), .long msampleFor, .long msampleAll, .ref (n 19), .int maskWorst, .long moftenAll, .long moftenView, .long moftenOnes, .ref (n 20), .ref (n 21), .ref (n 22), .ref (n 23)])), ((n 1), .inl (k 0, 99, .inl fworld)), ((n 7), .inl (k 0, 12, .inl (u_2.2.2.1 1))), ((n 8), .inl (k 0, 12, .inl (u_2.2.2.1 2))), ((n 9), .inl (k 0, 4, .inl (u_2.2.2.1 3))), ((n 10), .inl (k 0, 12, .inl (u_2.2.2.1 0))), ((n 11), .inl (k 0, 14, .inl fmoreHead)), ((n 12), .inl (k 0, 14, .inl fmoreView)), ((n 13), .inl (k 0, 17, .inl fonesAt)), ((n 14), .inl (k 0, 17, .inl ftwosAt)), ((n 15), .inl (k 0, 17, .inl fgoneAt))] := hD.sub [5, 6, 7, 8, 9, 10, 0, 1, 2, 3, 4] (by decide) rfl
  have hg_3 := hr_1
  refine lv_aload_n hx hb dX11_asksGarden_4 rfl (lv_at hl 0 rfl) ?_
  refine x_muVv (wr := []) (As := []) S hK hP hD hZ hS hA hl mwX11_goAll lkX11_312 (ctX11_goAll l D k z n mthrown mtaped msize mat mfrom mtoken mvalue mfaultKind mfaultPlace (u_2.2.1 0) (u_2.1 0) (u_2.1 1) (u_2.1 2) mones mtwos mgone mroundNow msampleFor msampleAll maskWorst moftenAll moftenView moftenOnes fworld (u_2.2.2.1 1) (u_2.2.2.1 2) (u_2.2.2.1 3) (u_2.2.2.1 0) fmoreHead fmoreView fonesAt ftwosAt fgoneAt (by omega) (by omega) (by omega) (by omega) (by omega) (hkworld)) [0, 1, 2, 3, 4, 5, 6, 7, 8, 9, 10] [] rfl rfl (by decide) (by decide) (by decide) rfl rfl rfl rfl rfl ⟨Nat.le_of_ble_eq_true rfl, Nat.le_of_ble_eq_true rfl, Nat.le_of_ble_eq_true rfl⟩ dX11_asksGarden_5 ⟨Nat.le_of_ble_eq_true rfl, Nat.le_of_ble_eq_true rfl⟩ (fun u_5 H locs hr_4 hP hD hS => ?_)
  have hP : va_P D vwCl [((n 0), .inr (11, [.int mthrown, .ref (n 1), .ref (n 2), .ref (n 3), .ref (n 4), .int (nI mtaped), .ref (n 5), .int (nI msize), .int (nI mat), .int (nI mfrom), .int mtoken, .int mvalue, .int mfaultKind, .int mfaultPlace, .ref (n 6), .ref (n 7), .ref (n 8), .ref (n 9), .ref (n 10), .ref (n 11), .ref (n 12), .int (nI (u_2.2.1 0)), .int (u_2.1 0), .int (u_2.1 1), .int (u_2.1 2), .ref (n 13), .ref (n 14), .ref (n 15), .int (u_5.1 0), .int (u_5.1 1), .int (u_5.1 2), .ref (n 16), .ref (n 17), .int mroundNow, .ref (n 18), .long msampleFor, .long msampleAll, .ref (n 19), .int maskWorst, .long moftenAll, .long moftenView, .long moftenOnes, .ref (n 20), .ref (n 21), .ref (n 22), .ref (n 23)])), ((n 1), .inl (k 0, 99, .inl fworld)), ((n 7), .inl (k 0, 12, .inl (u_2.2.2.1 1))), ((n 8), .inl (k 0, 12, .inl (u_2.2.2.1 2))), ((n 9), .inl (k 0, 4, .inl (u_2.2.2.1 3))), ((n 10), .inl (k 0, 12, .inl (u_2.2.2.1 0))), ((n 11), .inl (k 0, 14, .inl fmoreHead)), ((n 12), .inl (k 0, 14, .inl fmoreView)), ((n 13), .inl (k 0, 17, .inl (u_5.2.2.1 0))), ((n 14), .inl (k 0, 17, .inl (u_5.2.2.1 1))), ((n 15), .inl (k 0, 17, .inl (u_5.2.2.1 2)))] H := hP.sub [0, 1, 2, 3, 4, 5, 6, 7, 8, 9, 10] rfl
  have hD : va_D A [((n 0), .inr (11, [.int mthrown, .ref (n 1), .ref (n 2), .ref (n 3), .ref (n 4), .int (nI mtaped), .ref (n 5), .int (nI msize), .int (nI mat), .int (nI mfrom), .int mtoken, .int mvalue, .int mfaultKind, .int mfaultPlace, .ref (n 6), .ref (n 7), .ref (n 8), .ref (n 9), .ref (n 10), .ref (n 11), .ref (n 12), .int (nI (u_2.2.1 0)), .int (u_2.1 0), .int (u_2.1 1), .int (u_2.1 2), .ref (n 13), .ref (n 14), .ref (n 15), .int (u_5.1 0), .int (u_5.1 1), .int (u_5.1 2), .ref (n 16), .ref (n 17), .int mroundNow, .ref (n 18), .long msampleFor, .long msampleAll, .ref (n 19), .int maskWorst, .long moftenAll, .long moftenView, .long moftenOnes, .ref (n 20), .ref (n 21), .ref (n 22), .ref (n 23)])), ((n 1), .inl (k 0, 99, .inl fworld)), ((n 7), .inl (k 0, 12, .inl (u_2.2.2.1 1))), ((n 8), .inl (k 0, 12, .inl (u_2.2.2.1 2))), ((n 9), .inl (k 0, 4, .inl (u_2.2.2.1 3))), ((n 10), .inl (k 0, 12, .inl (u_2.2.2.1 0))), ((n 11), .inl (k 0, 14, .inl fmoreHead)), ((n 12), .inl (k 0, 14, .inl fmoreView)), ((n 13), .inl (k 0, 17, .inl (u_5.2.2.1 0))), ((n 14), .inl (k 0, 17, .inl (u_5.2.2.1 1))), ((n 15), .inl (k 0, 17, .inl (u_5.2.2.1 2)))] := hD.sub [0, 1, 2, 3, 4, 5, 6, 7, 8, 9, 10] (by decide) rfl
  refine lv_aload_n hx hb dX11_asksGarden_8 rfl (lv_at hl 0 rfl) ?_
  refine x_roVi (As := []) S hK hP hD hZ (fun _ h => h) hA hS hA hl mwX11_isGarden lkX11_99 (ctX11_isGarden l D k z n mthrown mtaped msize mat mfrom mtoken mvalue mfaultKind mfaultPlace (u_2.2.1 0) (u_2.1 0) (u_2.1 1) (u_2.1 2) (u_5.1 0) (u_5.1 1) (u_5.1 2) mroundNow msampleFor msampleAll maskWorst moftenAll moftenView moftenOnes fworld (by omega) (by omega) (by omega) (by omega) (by omega) (hkworld)) [0, 1] rfl (by decide) rfl rfl rfl rfl rfl ⟨Nat.le_of_ble_eq_true rfl, Nat.le_of_ble_eq_true rfl, Nat.le_of_ble_eq_true rfl⟩ dX11_asksGarden_9 ⟨Nat.le_of_ble_eq_true rfl, Nat.le_of_ble_eq_true rfl⟩ (fun r_6 H locs hr_6 hP hS => ?_)
  have hz_8 := hr_6
  exact x_retz S hr hlk hQ hS (zz_nar hz_8) ((fun i => ([(u_2.1 0), (u_2.1 1), (u_2.1 2), (u_5.1 0), (u_5.1 1), (u_5.1 2)] : List (Int32)).getD i 0), (fun i => ([u_2.2.1 0] : List (Nat)).getD i 0), (fun i => ([(u_2.2.2.1 0), (u_5.2.2.1 0), (u_5.2.2.1 1), (u_5.2.2.1 2), (u_2.2.2.1 1), (u_2.2.2.1 2), (u_2.2.2.1 3)] : List (Nat → Int32)).getD i (fun _ => 0)), (fun i => ([] : List (Nat → Int64)).getD i (fun _ => 0)), (fun i => ([] : List (Int64)).getD i 0)) ⟨hz_8, (show u_2.2.1 0 ≤ 14 by omega)⟩ (x_B hP hD) dX11_asksGarden_12

set_option maxHeartbeats 4000000 in
set_option maxRecDepth 100000 in
theorem ctX11_asksHour (l : Launch) (D : va_G) (k : Nat → ClassId) (z : Nat → Nat) (n : Nat → Nat) (mthrown : Int32) (mtaped : Nat) (msize : Nat) (mat : Nat) (mfrom : Nat) (mtoken : Int32) (mvalue : Int32) (mfaultKind : Int32) (mfaultPlace : Int32) (mmoreMany : Nat) (mlawNow : Int32) (mwetSet : Int32) (moverAll : Int32) (mones : Int32) (mtwos : Int32) (mgone : Int32) (mroundNow : Int32) (msampleFor : Int64) (msampleAll : Int64) (maskWorst : Int32) (moftenAll : Int64) (moftenView : Int64) (moftenOnes : Int64) (fworld : Nat → Int32) (frowOf : Nat → Int32) (fplaceOf : Nat → Int32) (ffirstOf : Nat → Int32) (fhardNow : Nat → Int32) (fmoreHead : Nat → Int32) (fmoreView : Nat → Int32) (fonesAt : Nat → Int32) (ftwosAt : Nat → Int32) (fgoneAt : Nat → Int32) (p0 : Int32) (hmtaped : mtaped ≤ 600) (hmsize : msize ≤ 600) (hmat : mat ≤ 600) (hmfrom : mfrom ≤ 600) (hmmoreMany : mmoreMany ≤ 14) (hkworld : okW fworld) : MU l yX11_asksHour cX11_asksHour 2 (some .boolean) 8 D k z [.ref (n 0), .int p0] [((n 0), .inr (11, [.int mthrown, .ref (n 1), .ref (n 2), .ref (n 3), .ref (n 4), .int (nI mtaped), .ref (n 5), .int (nI msize), .int (nI mat), .int (nI mfrom), .int mtoken, .int mvalue, .int mfaultKind, .int mfaultPlace, .ref (n 6), .ref (n 7), .ref (n 8), .ref (n 9), .ref (n 10), .ref (n 11), .ref (n 12), .int (nI mmoreMany), .int mlawNow, .int mwetSet, .int moverAll, .ref (n 13), .ref (n 14), .ref (n 15), .int mones, .int mtwos, .int mgone, .ref (n 16), .ref (n 17), .int mroundNow, .ref (n 18), .long msampleFor, .long msampleAll, .ref (n 19), .int maskWorst, .long moftenAll, .long moftenView, .long moftenOnes, .ref (n 20), .ref (n 21), .ref (n 22), .ref (n 23)])), ((n 1), .inl (k 0, 99, .inl fworld)), ((n 7), .inl (k 0, 12, .inl frowOf)), ((n 8), .inl (k 0, 12, .inl fplaceOf)), ((n 9), .inl (k 0, 4, .inl ffirstOf)), ((n 10), .inl (k 0, 12, .inl fhardNow)), ((n 11), .inl (k 0, 14, .inl fmoreHead)), ((n 12), .inl (k 0, 14, .inl fmoreView)), ((n 13), .inl (k 0, 17, .inl fonesAt)), ((n 14), .inl (k 0, 17, .inl ftwosAt)), ((n 15), .inl (k 0, 17, .inl fgoneAt))] 0 0 (Ui D (fun (r : Int32) (u : (Nat → Int32) × (Nat → Nat) × (Nat → Nat → Int32) × (Nat → Nat → Int64) × (Nat → Int64)) => (r = 0 ∨ (∃ j : Nat, p0 = nI j ∧ j ≤ wn fworld 0)) ∧ (r = 0 ∨ r = 1) ∧ (u.2.1 0 ≤ 14)) (fun u : (Nat → Int32) × (Nat → Nat) × (Nat → Nat → Int32) × (Nat → Nat → Int64) × (Nat → Int64) => [((n 0), .inr (11, [.int mthrown, .ref (n 1), .ref (n 2), .ref (n 3), .ref (n 4), .int (nI mtaped), .ref (n 5), .int (nI msize), .int (nI mat), .int (nI mfrom), .int mtoken, .int mvalue, .int mfaultKind, .int mfaultPlace, .ref (n 6), .ref (n 7), .ref (n 8), .ref (n 9), .ref (n 10), .ref (n 11), .ref (n 12), .int (nI (u.2.1 0)), .int (u.1 0), .int (u.1 1), .int (u.1 2), .ref (n 13), .ref (n 14), .ref (n 15), .int (u.1 3), .int (u.1 4), .int (u.1 5), .ref (n 16), .ref (n 17), .int mroundNow, .ref (n 18), .long msampleFor, .long msampleAll, .ref (n 19), .int maskWorst, .long moftenAll, .long moftenView, .long moftenOnes, .ref (n 20), .ref (n 21), .ref (n 22), .ref (n 23)])), ((n 1), .inl (k 0, 99, .inl fworld)), ((n 7), .inl (k 0, 12, .inl (u.2.2.1 4))), ((n 8), .inl (k 0, 12, .inl (u.2.2.1 5))), ((n 9), .inl (k 0, 4, .inl (u.2.2.1 6))), ((n 10), .inl (k 0, 12, .inl (u.2.2.1 0))), ((n 11), .inl (k 0, 14, .inl fmoreHead)), ((n 12), .inl (k 0, 14, .inl fmoreView)), ((n 13), .inl (k 0, 17, .inl (u.2.2.1 1))), ((n 14), .inl (k 0, 17, .inl (u.2.2.1 2))), ((n 15), .inl (k 0, 17, .inl (u.2.2.1 3)))])) := by
  refine MU.of (by decide) (Nat.le_of_ble_eq_true rfl) ?_
  intro p e s m below meth c ls A args Q S hr hlk hnm hQ hK hP hD hZ hA hS hl
  have hx := S.1
  have hb := S.2.1
  have hl : lv_has ls 2 [(0, .ref (n 0)), (1, .int p0)] := hl
  have hbfworld := okW_bd hkworld
  refine lv_aload_n hx hb dX11_asksHour_0 rfl (lv_at hl 0 rfl) ?_
  refine x_muVi (wr := []) (As := []) S hK hP hD hZ hS hA hl mwX11_asksGarden lkX11_315 (ctX11_asksGarden l D k z n mthrown mtaped msize mat mfrom mtoken mvalue mfaultKind mfaultPlace mmoreMany mlawNow mwetSet moverAll mones mtwos mgone mroundNow msampleFor msampleAll maskWorst moftenAll moftenView moftenOnes fworld frowOf fplaceOf ffirstOf fhardNow fmoreHead fmoreView fonesAt ftwosAt fgoneAt (by omega) (by omega) (by omega) (by omega) (by omega) (hkworld)) [0, 1, 2, 3, 4, 5, 6, 7, 8, 9, 10] [] rfl rfl (by decide) (by decide) (by decide) rfl rfl rfl rfl rfl ⟨Nat.le_of_ble_eq_true rfl, Nat.le_of_ble_eq_true rfl, Nat.le_of_ble_eq_true rfl⟩ dX11_asksHour_1 ⟨Nat.le_of_ble_eq_true rfl, Nat.le_of_ble_eq_true rfl⟩ (fun r_1 u_2 H locs hr_1 hP hD hS => ?_)
  have hP : va_P D vwCl [((n 0), .inr (11, [.int mthrown, .ref (n 1), .ref (n 2), .ref (n 3), .ref (n 4), .int (nI mtaped), .ref (n 5), .int (nI msize), .int (nI mat), .int (nI mfrom), .int mtoken, .int mvalue, .int mfaultKind, .int mfaultPlace, .ref (n 6), .ref (n 7), .ref (n 8), .ref (n 9), .ref (n 10), .ref (n 11), .ref (n 12), .int (nI (u_2.2.1 0)), .int (u_2.1 0), .int (u_2.1 1), .int (u_2.1 2), .ref (n 13), .ref (n 14), .ref (n 15), .int (u_2.1 3), .int (u_2.1 4), .int (u_2.1 5), .ref (n 16), .ref (n 17), .int mroundNow, .ref (n 18), .long msampleFor, .long msampleAll, .ref (n 19), .int maskWorst, .long moftenAll, .long moftenView, .long moftenOnes, .ref (n 20), .ref (n 21), .ref (n 22), .ref (n 23)])), ((n 1), .inl (k 0, 99, .inl fworld)), ((n 7), .inl (k 0, 12, .inl (u_2.2.2.1 4))), ((n 8), .inl (k 0, 12, .inl (u_2.2.2.1 5))), ((n 9), .inl (k 0, 4, .inl (u_2.2.2.1 6))), ((n 10), .inl (k 0, 12, .inl (u_2.2.2.1 0))), ((n 11), .inl (k 0, 14, .inl fmoreHead)), ((n 12), .inl (k 0, 14, .inl fmoreView)), ((n 13), .inl (k 0, 17, .inl (u_2.2.2.1 1))), ((n 14), .inl (k 0, 17, .inl (u_2.2.2.1 2))), ((n 15), .inl (k 0, 17, .inl (u_2.2.2.1 3)))] H := hP.sub [0, 1, 2, 3, 4, 5, 6, 7, 8, 9, 10] rfl
  have hD : va_D A [((n 0), .inr (11, [.int mthrown, .ref (n 1), .ref (n 2), .ref (n 3), .ref (n 4), .int (nI mtaped), .ref (n 5), .int (nI msize), .int (nI mat), .int (nI mfrom), .int mtoken, .int mvalue, .int mfaultKind, .int mfaultPlace, .ref (n 6), .ref (n 7), .ref (n 8), .ref (n 9), .ref (n 10), .ref (n 11), .ref (n 12), .int (nI (u_2.2.1 0)), .int (u_2.1 0), .int (u_2.1 1), .int (u_2.1 2), .ref (n 13), .ref (n 14), .ref (n 15), .int (u_2.1 3), .int (u_2.1 4), .int (u_2.1 5), .ref (n 16), .ref (n 17), .int mroundNow, .ref (n 18), .long msampleFor, .long msampleAll, .ref (n 19), .int maskWorst, .long moftenAll, .long moftenView, .long moftenOnes, .ref (n 20), .ref (n 21), .ref (n 22), .ref (n 23)])), ((n 1), .inl (k 0, 99, .inl fworld)), ((n 7), .inl (k 0, 12, .inl (u_2.2.2.1 4))), ((n 8), .inl (k 0, 12, .inl (u_2.2.2.1 5))), ((n 9), .inl (k 0, 4, .inl (u_2.2.2.1 6))), ((n 10), .inl (k 0, 12, .inl (u_2.2.2.1 0))), ((n 11), .inl (k 0, 14, .inl fmoreHead)), ((n 12), .inl (k 0, 14, .inl fmoreView)), ((n 13), .inl (k 0, 17, .inl (u_2.2.2.1 1))), ((n 14), .inl (k 0, 17, .inl (u_2.2.2.1 2))), ((n 15), .inl (k 0, 17, .inl (u_2.2.2.1 3)))] := hD.sub [0, 1, 2, 3, 4, 5, 6, 7, 8, 9, 10] (by decide) rfl
  obtain ⟨hz_3, hg_4⟩ := hr_1
  refine lv_pop hx hb dX11_asksHour_4 rfl ?_
  refine lv_aload_n hx hb dX11_asksHour_5 rfl (lv_at hl 0 rfl) ?_
  refine lv_iload_n hx hb dX11_asksHour_6 rfl (lv_at hl 1 rfl) ?_
  refine lv_i2l (v := p0.toInt64) hx hb dX11_asksHour_7 rfl ?_
  refine x_roVi (As := [.long p0.toInt64]) S hK hP hD hZ (fun _ h => h) hA hS hA hl mwX11_isHour lkX11_318 (ctX11_isHour_i l D k z n mthrown mtaped msize mat mfrom mtoken mvalue mfaultKind mfaultPlace (u_2.2.1 0) (u_2.1 0) (u_2.1 1) (u_2.1 2) (u_2.1 3) (u_2.1 4) (u_2.1 5) mroundNow msampleFor msampleAll maskWorst moftenAll moftenView moftenOnes fworld p0 (by omega) (by omega) (by omega) (by omega) (by omega) (hkworld)) [0, 1] rfl (by decide) rfl rfl rfl rfl rfl ⟨Nat.le_of_ble_eq_true rfl, Nat.le_of_ble_eq_true rfl, Nat.le_of_ble_eq_true rfl⟩ dX11_asksHour_8 ⟨Nat.le_of_ble_eq_true rfl, Nat.le_of_ble_eq_true rfl⟩ (fun r_5 H locs hr_5 hP hS => ?_)
  obtain ⟨hp_7, hz_8⟩ := hr_5
  exact x_retz S hr hlk hQ hS (zz_nar hz_8) ((fun i => ([(u_2.1 0), (u_2.1 1), (u_2.1 2), (u_2.1 3), (u_2.1 4), (u_2.1 5)] : List (Int32)).getD i 0), (fun i => ([u_2.2.1 0] : List (Nat)).getD i 0), (fun i => ([(u_2.2.2.1 0), (u_2.2.2.1 1), (u_2.2.2.1 2), (u_2.2.2.1 3), (u_2.2.2.1 4), (u_2.2.2.1 5), (u_2.2.2.1 6)] : List (Nat → Int32)).getD i (fun _ => 0)), (fun i => ([] : List (Nat → Int64)).getD i (fun _ => 0)), (fun i => ([] : List (Int64)).getD i 0)) ⟨hp_7, hz_8, (show u_2.2.1 0 ≤ 14 by omega)⟩ (x_B hP hD) dX11_asksHour_11

set_option maxHeartbeats 4000000 in
set_option maxRecDepth 100000 in
theorem ctX11_asksHead (l : Launch) (D : va_G) (k : Nat → ClassId) (z : Nat → Nat) (n : Nat → Nat) (mthrown : Int32) (mtaped : Nat) (msize : Nat) (mat : Nat) (mfrom : Nat) (mtoken : Int32) (mvalue : Int32) (mfaultKind : Int32) (mfaultPlace : Int32) (mmoreMany : Nat) (mlawNow : Int32) (mwetSet : Int32) (moverAll : Int32) (mones : Int32) (mtwos : Int32) (mgone : Int32) (mroundNow : Int32) (msampleFor : Int64) (msampleAll : Int64) (maskWorst : Int32) (moftenAll : Int64) (moftenView : Int64) (moftenOnes : Int64) (fworld : Nat → Int32) (frowOf : Nat → Int32) (fplaceOf : Nat → Int32) (ffirstOf : Nat → Int32) (fhardNow : Nat → Int32) (fmoreHead : Nat → Int32) (fmoreView : Nat → Int32) (fonesAt : Nat → Int32) (ftwosAt : Nat → Int32) (fgoneAt : Nat → Int32) (p0 : Int32) (hmtaped : mtaped ≤ 600) (hmsize : msize ≤ 600) (hmat : mat ≤ 600) (hmfrom : mfrom ≤ 600) (hmmoreMany : mmoreMany ≤ 14) (hkworld : okW fworld) : MU l yX11_asksHead cX11_asksHead 2 (some .boolean) 8 D k z [.ref (n 0), .int p0] [((n 0), .inr (11, [.int mthrown, .ref (n 1), .ref (n 2), .ref (n 3), .ref (n 4), .int (nI mtaped), .ref (n 5), .int (nI msize), .int (nI mat), .int (nI mfrom), .int mtoken, .int mvalue, .int mfaultKind, .int mfaultPlace, .ref (n 6), .ref (n 7), .ref (n 8), .ref (n 9), .ref (n 10), .ref (n 11), .ref (n 12), .int (nI mmoreMany), .int mlawNow, .int mwetSet, .int moverAll, .ref (n 13), .ref (n 14), .ref (n 15), .int mones, .int mtwos, .int mgone, .ref (n 16), .ref (n 17), .int mroundNow, .ref (n 18), .long msampleFor, .long msampleAll, .ref (n 19), .int maskWorst, .long moftenAll, .long moftenView, .long moftenOnes, .ref (n 20), .ref (n 21), .ref (n 22), .ref (n 23)])), ((n 1), .inl (k 0, 99, .inl fworld)), ((n 7), .inl (k 0, 12, .inl frowOf)), ((n 8), .inl (k 0, 12, .inl fplaceOf)), ((n 9), .inl (k 0, 4, .inl ffirstOf)), ((n 10), .inl (k 0, 12, .inl fhardNow)), ((n 11), .inl (k 0, 14, .inl fmoreHead)), ((n 12), .inl (k 0, 14, .inl fmoreView)), ((n 13), .inl (k 0, 17, .inl fonesAt)), ((n 14), .inl (k 0, 17, .inl ftwosAt)), ((n 15), .inl (k 0, 17, .inl fgoneAt))] 0 0 (Ui D (fun (r : Int32) (u : (Nat → Int32) × (Nat → Nat) × (Nat → Nat → Int32) × (Nat → Nat → Int64) × (Nat → Int64)) => (r = 0 ∨ (∃ j : Nat, p0 = nI j ∧ j < wn fworld 4)) ∧ (r = 0 ∨ r = 1) ∧ (u.2.1 0 ≤ 14)) (fun u : (Nat → Int32) × (Nat → Nat) × (Nat → Nat → Int32) × (Nat → Nat → Int64) × (Nat → Int64) => [((n 0), .inr (11, [.int mthrown, .ref (n 1), .ref (n 2), .ref (n 3), .ref (n 4), .int (nI mtaped), .ref (n 5), .int (nI msize), .int (nI mat), .int (nI mfrom), .int mtoken, .int mvalue, .int mfaultKind, .int mfaultPlace, .ref (n 6), .ref (n 7), .ref (n 8), .ref (n 9), .ref (n 10), .ref (n 11), .ref (n 12), .int (nI (u.2.1 0)), .int (u.1 0), .int (u.1 1), .int (u.1 2), .ref (n 13), .ref (n 14), .ref (n 15), .int (u.1 3), .int (u.1 4), .int (u.1 5), .ref (n 16), .ref (n 17), .int mroundNow, .ref (n 18), .long msampleFor, .long msampleAll, .ref (n 19), .int maskWorst, .long moftenAll, .long moftenView, .long moftenOnes, .ref (n 20), .ref (n 21), .ref (n 22), .ref (n 23)])), ((n 1), .inl (k 0, 99, .inl fworld)), ((n 7), .inl (k 0, 12, .inl (u.2.2.1 4))), ((n 8), .inl (k 0, 12, .inl (u.2.2.1 5))), ((n 9), .inl (k 0, 4, .inl (u.2.2.1 6))), ((n 10), .inl (k 0, 12, .inl (u.2.2.1 0))), ((n 11), .inl (k 0, 14, .inl fmoreHead)), ((n 12), .inl (k 0, 14, .inl fmoreView)), ((n 13), .inl (k 0, 17, .inl (u.2.2.1 1))), ((n 14), .inl (k 0, 17, .inl (u.2.2.1 2))), ((n 15), .inl (k 0, 17, .inl (u.2.2.1 3)))])) := by
  refine MU.of (by decide) (Nat.le_of_ble_eq_true rfl) ?_
  intro p e s m below meth c ls A args Q S hr hlk hnm hQ hK hP hD hZ hA hS hl
  have hx := S.1
  have hb := S.2.1
  have hl : lv_has ls 2 [(0, .ref (n 0)), (1, .int p0)] := hl
  have hbfworld := okW_bd hkworld
  refine lv_aload_n hx hb dX11_asksHead_0 rfl (lv_at hl 0 rfl) ?_
  refine x_muVi (wr := []) (As := []) S hK hP hD hZ hS hA hl mwX11_asksGarden lkX11_315 (ctX11_asksGarden l D k z n mthrown mtaped msize mat mfrom mtoken mvalue mfaultKind mfaultPlace mmoreMany mlawNow mwetSet moverAll mones mtwos mgone mroundNow msampleFor msampleAll maskWorst moftenAll moftenView moftenOnes fworld frowOf fplaceOf ffirstOf fhardNow fmoreHead fmoreView fonesAt ftwosAt fgoneAt (by omega) (by omega) (by omega) (by omega) (by omega) (hkworld)) [0, 1, 2, 3, 4, 5, 6, 7, 8, 9, 10] [] rfl rfl (by decide) (by decide) (by decide) rfl rfl rfl rfl rfl ⟨Nat.le_of_ble_eq_true rfl, Nat.le_of_ble_eq_true rfl, Nat.le_of_ble_eq_true rfl⟩ dX11_asksHead_1 ⟨Nat.le_of_ble_eq_true rfl, Nat.le_of_ble_eq_true rfl⟩ (fun r_1 u_2 H locs hr_1 hP hD hS => ?_)
  have hP : va_P D vwCl [((n 0), .inr (11, [.int mthrown, .ref (n 1), .ref (n 2), .ref (n 3), .ref (n 4), .int (nI mtaped), .ref (n 5), .int (nI msize), .int (nI mat), .int (nI mfrom), .int mtoken, .int mvalue, .int mfaultKind, .int mfaultPlace, .ref (n 6), .ref (n 7), .ref (n 8), .ref (n 9), .ref (n 10), .ref (n 11), .ref (n 12), .int (nI (u_2.2.1 0)), .int (u_2.1 0), .int (u_2.1 1), .int (u_2.1 2), .ref (n 13), .ref (n 14), .ref (n 15), .int (u_2.1 3), .int (u_2.1 4), .int (u_2.1 5), .ref (n 16), .ref (n 17), .int mroundNow, .ref (n 18), .long msampleFor, .long msampleAll, .ref (n 19), .int maskWorst, .long moftenAll, .long moftenView, .long moftenOnes, .ref (n 20), .ref (n 21), .ref (n 22), .ref (n 23)])), ((n 1), .inl (k 0, 99, .inl fworld)), ((n 7), .inl (k 0, 12, .inl (u_2.2.2.1 4))), ((n 8), .inl (k 0, 12, .inl (u_2.2.2.1 5))), ((n 9), .inl (k 0, 4, .inl (u_2.2.2.1 6))), ((n 10), .inl (k 0, 12, .inl (u_2.2.2.1 0))), ((n 11), .inl (k 0, 14, .inl fmoreHead)), ((n 12), .inl (k 0, 14, .inl fmoreView)), ((n 13), .inl (k 0, 17, .inl (u_2.2.2.1 1))), ((n 14), .inl (k 0, 17, .inl (u_2.2.2.1 2))), ((n 15), .inl (k 0, 17, .inl (u_2.2.2.1 3)))] H := hP.sub [0, 1, 2, 3, 4, 5, 6, 7, 8, 9, 10] rfl
  have hD : va_D A [((n 0), .inr (11, [.int mthrown, .ref (n 1), .ref (n 2), .ref (n 3), .ref (n 4), .int (nI mtaped), .ref (n 5), .int (nI msize), .int (nI mat), .int (nI mfrom), .int mtoken, .int mvalue, .int mfaultKind, .int mfaultPlace, .ref (n 6), .ref (n 7), .ref (n 8), .ref (n 9), .ref (n 10), .ref (n 11), .ref (n 12), .int (nI (u_2.2.1 0)), .int (u_2.1 0), .int (u_2.1 1), .int (u_2.1 2), .ref (n 13), .ref (n 14), .ref (n 15), .int (u_2.1 3), .int (u_2.1 4), .int (u_2.1 5), .ref (n 16), .ref (n 17), .int mroundNow, .ref (n 18), .long msampleFor, .long msampleAll, .ref (n 19), .int maskWorst, .long moftenAll, .long moftenView, .long moftenOnes, .ref (n 20), .ref (n 21), .ref (n 22), .ref (n 23)])), ((n 1), .inl (k 0, 99, .inl fworld)), ((n 7), .inl (k 0, 12, .inl (u_2.2.2.1 4))), ((n 8), .inl (k 0, 12, .inl (u_2.2.2.1 5))), ((n 9), .inl (k 0, 4, .inl (u_2.2.2.1 6))), ((n 10), .inl (k 0, 12, .inl (u_2.2.2.1 0))), ((n 11), .inl (k 0, 14, .inl fmoreHead)), ((n 12), .inl (k 0, 14, .inl fmoreView)), ((n 13), .inl (k 0, 17, .inl (u_2.2.2.1 1))), ((n 14), .inl (k 0, 17, .inl (u_2.2.2.1 2))), ((n 15), .inl (k 0, 17, .inl (u_2.2.2.1 3)))] := hD.sub [0, 1, 2, 3, 4, 5, 6, 7, 8, 9, 10] (by decide) rfl
  obtain ⟨hz_3, hg_4⟩ := hr_1
  refine lv_pop hx hb dX11_asksHead_4 rfl ?_
  refine lv_aload_n hx hb dX11_asksHead_5 rfl (lv_at hl 0 rfl) ?_
  refine lv_iload_n hx hb dX11_asksHead_6 rfl (lv_at hl 1 rfl) ?_
  refine lv_i2l (v := p0.toInt64) hx hb dX11_asksHead_7 rfl ?_
  refine x_roVi (As := [.long p0.toInt64]) S hK hP hD hZ (fun _ h => h) hA hS hA hl mwX11_isHead lkX11_237 (ctX11_isHead_i l D k z n mthrown mtaped msize mat mfrom mtoken mvalue mfaultKind mfaultPlace (u_2.2.1 0) (u_2.1 0) (u_2.1 1) (u_2.1 2) (u_2.1 3) (u_2.1 4) (u_2.1 5) mroundNow msampleFor msampleAll maskWorst moftenAll moftenView moftenOnes fworld p0 (by omega) (by omega) (by omega) (by omega) (by omega) (hkworld)) [0, 1] rfl (by decide) rfl rfl rfl rfl rfl ⟨Nat.le_of_ble_eq_true rfl, Nat.le_of_ble_eq_true rfl, Nat.le_of_ble_eq_true rfl⟩ dX11_asksHead_8 ⟨Nat.le_of_ble_eq_true rfl, Nat.le_of_ble_eq_true rfl⟩ (fun r_5 H locs hr_5 hP hS => ?_)
  obtain ⟨hp_7, hz_8⟩ := hr_5
  exact x_retz S hr hlk hQ hS (zz_nar hz_8) ((fun i => ([(u_2.1 0), (u_2.1 1), (u_2.1 2), (u_2.1 3), (u_2.1 4), (u_2.1 5)] : List (Int32)).getD i 0), (fun i => ([u_2.2.1 0] : List (Nat)).getD i 0), (fun i => ([(u_2.2.2.1 0), (u_2.2.2.1 1), (u_2.2.2.1 2), (u_2.2.2.1 3), (u_2.2.2.1 4), (u_2.2.2.1 5), (u_2.2.2.1 6)] : List (Nat → Int32)).getD i (fun _ => 0)), (fun i => ([] : List (Nat → Int64)).getD i (fun _ => 0)), (fun i => ([] : List (Int64)).getD i 0)) ⟨hp_7, hz_8, (show u_2.2.1 0 ≤ 14 by omega)⟩ (x_B hP hD) dX11_asksHead_11

set_option maxHeartbeats 4000000 in
set_option maxRecDepth 100000 in
theorem ctX11_viewOf (l : Launch) (D : va_G) (k : Nat → ClassId) (z : Nat → Nat) (n : Nat → Nat) (mthrown : Int32) (mtaped : Nat) (msize : Nat) (mat : Nat) (mfrom : Nat) (mtoken : Int32) (mvalue : Int32) (mfaultKind : Int32) (mfaultPlace : Int32) (mmoreMany : Nat) (mlawNow : Int32) (mwetSet : Int32) (moverAll : Int32) (mones : Int32) (mtwos : Int32) (mgone : Int32) (mroundNow : Int32) (msampleFor : Int64) (msampleAll : Int64) (maskWorst : Int32) (moftenAll : Int64) (moftenView : Int64) (moftenOnes : Int64) (fonesAt : Nat → Int32) (ftwosAt : Nat → Int32) (p0 : Int32) (p1 : Nat) (hmtaped : mtaped ≤ 600) (hmsize : msize ≤ 600) (hmat : mat ≤ 600) (hmfrom : mfrom ≤ 600) (hmmoreMany : mmoreMany ≤ 14) (hp1 : p1 ≤ 16) : RO l yX11_viewOf cX11_viewOf 3 (some .int) 1 D k z [.ref (n 0), .int p0, .int (nI p1)] [((n 0), .inr (11, [.int mthrown, .ref (n 1), .ref (n 2), .ref (n 3), .ref (n 4), .int (nI mtaped), .ref (n 5), .int (nI msize), .int (nI mat), .int (nI mfrom), .int mtoken, .int mvalue, .int mfaultKind, .int mfaultPlace, .ref (n 6), .ref (n 7), .ref (n 8), .ref (n 9), .ref (n 10), .ref (n 11), .ref (n 12), .int (nI mmoreMany), .int mlawNow, .int mwetSet, .int moverAll, .ref (n 13), .ref (n 14), .ref (n 15), .int mones, .int mtwos, .int mgone, .ref (n 16), .ref (n 17), .int mroundNow, .ref (n 18), .long msampleFor, .long msampleAll, .ref (n 19), .int maskWorst, .long moftenAll, .long moftenView, .long moftenOnes, .ref (n 20), .ref (n 21), .ref (n 22), .ref (n 23)])), ((n 13), .inl (k 0, 17, .inl fonesAt)), ((n 14), .inl (k 0, 17, .inl ftwosAt))] (Qi (fun r : Int32 => True)) := by
  refine RO.of (by decide) (Nat.le_of_ble_eq_true rfl) ?_
  intro p e s m below meth c ls A B args Q S hr hlk hQ hK hP hDW hZ hAB hBA hA hS hl
  have hx := S.1
  have hb := S.2.1
  have hl : lv_has ls 3 [(0, .ref (n 0)), (1, .int p0), (2, .int (nI p1))] := hl
  refine lv_aload_n hx hb dX11_viewOf_0 rfl (lv_at hl 0 rfl) ?_
  refine x_get S hK hP 0 rfl cfX11 25 lkX11_52 (by decide) rfl dX11_viewOf_1 ?_
  refine lv_iload_n hx hb dX11_viewOf_4 rfl (lv_at hl 2 rfl) ?_
  refine x_iald S hK hP 1 rfl (vp_in_nI (by omega) (by decide)) dX11_viewOf_5 ?_
  refine lv_topi (fun v_1 ev_1 => ?_)
  refine lv_iload_n hx hb dX11_viewOf_6 rfl (lv_at hl 1 rfl) ?_
  refine x_roSi (As := [.int v_1, .int p0]) S hK hP hDW hZ hAB hBA hS hA hl mwX11_bit lkX11_274 (ctX11_bit l D k z v_1 p0 ) [] rfl (by decide) rfl rfl ⟨Nat.le_of_ble_eq_true rfl, Nat.le_of_ble_eq_true rfl, Nat.le_of_ble_eq_true rfl⟩ dX11_viewOf_7 ⟨Nat.le_of_ble_eq_true rfl, Nat.le_of_ble_eq_true rfl⟩ (fun r_2 H locs hr_2 hP hS => ?_)
  refine lv_iconst (v := 2) hx hb dX11_viewOf_10 (by decide) ?_
  refine lv_aload_n hx hb dX11_viewOf_11 rfl (lv_at hl 0 rfl) ?_
  refine x_get S hK hP 0 rfl cfX11 26 lkX11_55 (by decide) rfl dX11_viewOf_12 ?_
  refine lv_iload_n hx hb dX11_viewOf_15 rfl (lv_at hl 2 rfl) ?_
  refine x_iald S hK hP 2 rfl (vp_in_nI (by omega) (by decide)) dX11_viewOf_16 ?_
  refine lv_topi (fun v_4 ev_4 => ?_)
  refine lv_iload_n hx hb dX11_viewOf_17 rfl (lv_at hl 1 rfl) ?_
  refine x_roSi (As := [.int v_4, .int p0]) S hK hP hDW hZ hAB hBA hS hA hl mwX11_bit lkX11_274 (ctX11_bit l D k z v_4 p0 ) [] rfl (by decide) rfl rfl ⟨Nat.le_of_ble_eq_true rfl, Nat.le_of_ble_eq_true rfl, Nat.le_of_ble_eq_true rfl⟩ dX11_viewOf_18 ⟨Nat.le_of_ble_eq_true rfl, Nat.le_of_ble_eq_true rfl⟩ (fun r_5 H locs hr_5 hP hS => ?_)
  refine lv_imul hx hb dX11_viewOf_21 ?_
  refine lv_topi (fun v_7 ev_7 => ?_)
  refine lv_iadd hx hb dX11_viewOf_22 ?_
  refine lv_topi (fun v_8 ev_8 => ?_)
  exact x_reti S hr hlk hQ hS () trivial x_T dX11_viewOf_23

set_option maxHeartbeats 4000000 in
set_option maxRecDepth 100000 in
theorem ctX11_stillThere (l : Launch) (D : va_G) (k : Nat → ClassId) (z : Nat → Nat) (n : Nat → Nat) (mthrown : Int32) (mtaped : Nat) (msize : Nat) (mat : Nat) (mfrom : Nat) (mtoken : Int32) (mvalue : Int32) (mfaultKind : Int32) (mfaultPlace : Int32) (mmoreMany : Nat) (mlawNow : Int32) (mwetSet : Int32) (moverAll : Int32) (mones : Int32) (mtwos : Int32) (mgone : Int32) (mroundNow : Int32) (msampleFor : Int64) (msampleAll : Int64) (maskWorst : Int32) (moftenAll : Int64) (moftenView : Int64) (moftenOnes : Int64) (fworld : Nat → Int32) (fgoneAt : Nat → Int32) (p0 : Nat) (hmtaped : mtaped ≤ 600) (hmsize : msize ≤ 600) (hmat : mat ≤ 600) (hmfrom : mfrom ≤ 600) (hmmoreMany : mmoreMany ≤ 14) (hkworld : okW fworld) (hp0 : p0 ≤ 16) : RO l yX11_stillThere cX11_stillThere 2 (some .int) 2 D k z [.ref (n 0), .int (nI p0)] [((n 0), .inr (11, [.int mthrown, .ref (n 1), .ref (n 2), .ref (n 3), .ref (n 4), .int (nI mtaped), .ref (n 5), .int (nI msize), .int (nI mat), .int (nI mfrom), .int mtoken, .int mvalue, .int mfaultKind, .int mfaultPlace, .ref (n 6), .ref (n 7), .ref (n 8), .ref (n 9), .ref (n 10), .ref (n 11), .ref (n 12), .int (nI mmoreMany), .int mlawNow, .int mwetSet, .int moverAll, .ref (n 13), .ref (n 14), .ref (n 15), .int mones, .int mtwos, .int mgone, .ref (n 16), .ref (n 17), .int mroundNow, .ref (n 18), .long msampleFor, .long msampleAll, .ref (n 19), .int maskWorst, .long moftenAll, .long moftenView, .long moftenOnes, .ref (n 20), .ref (n 21), .ref (n 22), .ref (n 23)])), ((n 1), .inl (k 0, 99, .inl fworld)), ((n 15), .inl (k 0, 17, .inl fgoneAt))] (Qi (fun r : Int32 => (r = (stT (nI (2 ^ wn fworld 4 - 1)) (fgoneAt p0))))) := by
  refine RO.of (by decide) (Nat.le_of_ble_eq_true rfl) ?_
  intro p e s m below meth c ls A B args Q S hr hlk hQ hK hP hDW hZ hAB hBA hA hS hl
  have hx := S.1
  have hb := S.2.1
  have hl : lv_has ls 2 [(0, .ref (n 0)), (1, .int (nI p0))] := hl
  have hbfworld := okW_bd hkworld
  refine lv_aload_n hx hb dX11_stillThere_0 rfl (lv_at hl 0 rfl) ?_
  refine x_roVi (As := []) S hK hP hDW hZ hAB hBA hS hA hl mwX11_allHeads lkX11_321 (ctX11_allHeads l D k z n mthrown mtaped msize mat mfrom mtoken mvalue mfaultKind mfaultPlace mmoreMany mlawNow mwetSet moverAll mones mtwos mgone mroundNow msampleFor msampleAll maskWorst moftenAll moftenView moftenOnes fworld (by omega) (by omega) (by omega) (by omega) (by omega) (hkworld)) [0, 1] rfl (by decide) rfl rfl rfl rfl rfl ⟨Nat.le_of_ble_eq_true rfl, Nat.le_of_ble_eq_true rfl, Nat.le_of_ble_eq_true rfl⟩ dX11_stillThere_1 ⟨Nat.le_of_ble_eq_true rfl, Nat.le_of_ble_eq_true rfl⟩ (fun r_1 H locs hr_1 hP hS => ?_)
  obtain ⟨rfl, hg_3⟩ := hr_1
  refine lv_aload_n hx hb dX11_stillThere_4 rfl (lv_at hl 0 rfl) ?_
  refine x_get S hK hP 0 rfl cfX11 27 lkX11_58 (by decide) rfl dX11_stillThere_5 ?_
  refine lv_iload_n hx hb dX11_stillThere_8 rfl (lv_at hl 1 rfl) ?_
  refine x_iald S hK hP 2 rfl (vp_in_nI (by omega) (by decide)) dX11_stillThere_9 ?_
  refine lv_topi (fun v_4 ev_4 => ?_)
  refine lv_iconst (v := (-1)) hx hb dX11_stillThere_10 (by decide) ?_
  refine lv_ixor hx hb dX11_stillThere_11 ?_
  refine lv_topi (fun v_5 ev_5 => ?_)
  refine lv_iand hx hb dX11_stillThere_12 ?_
  refine lv_topi (fun v_6 ev_6 => ?_)
  exact x_reti S hr hlk hQ hS () (stT_of ev_6 ev_5 (ev_4.trans (cl_at (a := p0) rfl (by omega)))) x_T dX11_stillThere_13

set_option maxHeartbeats 4000000 in
set_option maxRecDepth 100000 in
theorem ctX11_holdingOf_0 (l : Launch) (D : va_G) (k : Nat → ClassId) (z : Nat → Nat) (n : Nat → Nat) (mthrown : Int32) (mtaped : Nat) (msize : Nat) (mat : Nat) (mfrom : Nat) (mtoken : Int32) (mvalue : Int32) (mfaultKind : Int32) (mfaultPlace : Int32) (mmoreMany : Nat) (mlawNow : Int32) (mwetSet : Int32) (moverAll : Int32) (mones : Int32) (mtwos : Int32) (mgone : Int32) (mroundNow : Int32) (msampleFor : Int64) (msampleAll : Int64) (maskWorst : Int32) (moftenAll : Int64) (moftenView : Int64) (moftenOnes : Int64) (fworld : Nat → Int32) (fonesAt : Nat → Int32) (ftwosAt : Nat → Int32) (fgoneAt : Nat → Int32) (p1 : Nat) (hmtaped : mtaped ≤ 600) (hmsize : msize ≤ 600) (hmat : mat ≤ 600) (hmfrom : mfrom ≤ 600) (hmmoreMany : mmoreMany ≤ 14) (hkworld : okW fworld) (hp1 : p1 ≤ 16) : RO l yX11_holdingOf cX11_holdingOf 3 (some .int) 3 D k z [.ref (n 0), .int 0, .int (nI p1)] [((n 0), .inr (11, [.int mthrown, .ref (n 1), .ref (n 2), .ref (n 3), .ref (n 4), .int (nI mtaped), .ref (n 5), .int (nI msize), .int (nI mat), .int (nI mfrom), .int mtoken, .int mvalue, .int mfaultKind, .int mfaultPlace, .ref (n 6), .ref (n 7), .ref (n 8), .ref (n 9), .ref (n 10), .ref (n 11), .ref (n 12), .int (nI mmoreMany), .int mlawNow, .int mwetSet, .int moverAll, .ref (n 13), .ref (n 14), .ref (n 15), .int mones, .int mtwos, .int mgone, .ref (n 16), .ref (n 17), .int mroundNow, .ref (n 18), .long msampleFor, .long msampleAll, .ref (n 19), .int maskWorst, .long moftenAll, .long moftenView, .long moftenOnes, .ref (n 20), .ref (n 21), .ref (n 22), .ref (n 23)])), ((n 1), .inl (k 0, 99, .inl fworld)), ((n 13), .inl (k 0, 17, .inl fonesAt)), ((n 14), .inl (k 0, 17, .inl ftwosAt)), ((n 15), .inl (k 0, 17, .inl fgoneAt))] (Qi (fun r : Int32 => (r = (stT (stT (nI (2 ^ wn fworld 4 - 1)) (fgoneAt p1)) (fonesAt p1 ||| ftwosAt p1))))) := by
  refine RO.of (by decide) (Nat.le_of_ble_eq_true rfl) ?_
  intro p e s m below meth c ls A B args Q S hr hlk hQ hK hP hDW hZ hAB hBA hA hS hl
  have hx := S.1
  have hb := S.2.1
  have hl : lv_has ls 3 [(0, .ref (n 0)), (1, .int 0), (2, .int (nI p1))] := hl
  have hbfworld := okW_bd hkworld
  refine lv_iload_n hx hb dX11_holdingOf_0 rfl (lv_at hl 1 rfl) ?_
  refine lv_iconst (v := 1) hx hb dX11_holdingOf_1 (by decide) ?_
  refine lv_icmp_ne (tgt := 14) hx hb dX11_holdingOf_2 (by decide) (fun c_1 => ?_) (fun c_1 => absurd c_1 (by decide))
  refine lv_iload_n hx hb dX11_holdingOf_14 rfl (lv_at hl 1 rfl) ?_
  refine lv_iconst (v := 2) hx hb dX11_holdingOf_15 (by decide) ?_
  refine lv_icmp_ne (tgt := 28) hx hb dX11_holdingOf_16 (by decide) (fun c_2 => ?_) (fun c_2 => absurd c_2 (by decide))
  refine lv_aload_n hx hb dX11_holdingOf_28 rfl (lv_at hl 0 rfl) ?_
  refine lv_iload_n hx hb dX11_holdingOf_29 rfl (lv_at hl 2 rfl) ?_
  refine x_roVi (As := [.int (nI p1)]) S hK hP hDW hZ hAB hBA hS hA hl mwX11_stillThere lkX11_324 (ctX11_stillThere l D k z n mthrown mtaped msize mat mfrom mtoken mvalue mfaultKind mfaultPlace mmoreMany mlawNow mwetSet moverAll mones mtwos mgone mroundNow msampleFor msampleAll maskWorst moftenAll moftenView moftenOnes fworld fgoneAt p1 (by omega) (by omega) (by omega) (by omega) (by omega) (hkworld) (by omega)) [0, 1, 4] rfl (by decide) rfl rfl rfl rfl rfl ⟨Nat.le_of_ble_eq_true rfl, Nat.le_of_ble_eq_true rfl, Nat.le_of_ble_eq_true rfl⟩ dX11_holdingOf_30 ⟨Nat.le_of_ble_eq_true rfl, Nat.le_of_ble_eq_true rfl⟩ (fun r_3 H locs hr_3 hP hS => ?_)
  obtain rfl := hr_3
  refine lv_aload_n hx hb dX11_holdingOf_33 rfl (lv_at hl 0 rfl) ?_
  refine x_get S hK hP 0 rfl cfX11 25 lkX11_52 (by decide) rfl dX11_holdingOf_34 ?_
  refine lv_iload_n hx hb dX11_holdingOf_37 rfl (lv_at hl 2 rfl) ?_
  refine x_iald S hK hP 2 rfl (vp_in_nI (by omega) (by decide)) dX11_holdingOf_38 ?_
  refine lv_topi (fun v_5 ev_5 => ?_)
  refine lv_aload_n hx hb dX11_holdingOf_39 rfl (lv_at hl 0 rfl) ?_
  refine x_get S hK hP 0 rfl cfX11 26 lkX11_55 (by decide) rfl dX11_holdingOf_40 ?_
  refine lv_iload_n hx hb dX11_holdingOf_43 rfl (lv_at hl 2 rfl) ?_
  refine x_iald S hK hP 3 rfl (vp_in_nI (by omega) (by decide)) dX11_holdingOf_44 ?_
  refine lv_topi (fun v_6 ev_6 => ?_)
  refine lv_ior hx hb dX11_holdingOf_45 ?_
  refine lv_topi (fun v_7 ev_7 => ?_)
  refine lv_iconst (v := (-1)) hx hb dX11_holdingOf_46 (by decide) ?_
  refine lv_ixor hx hb dX11_holdingOf_47 ?_
  refine lv_topi (fun v_8 ev_8 => ?_)
  refine lv_iand hx hb dX11_holdingOf_48 ?_
  refine lv_topi (fun v_9 ev_9 => ?_)
  exact x_reti S hr hlk hQ hS () (hoT_of ev_9 ev_8 ev_7 (ev_5.trans (cl_at (a := p1) rfl (by omega))) (ev_6.trans (cl_at (a := p1) rfl (by omega)))) x_T dX11_holdingOf_49

set_option maxHeartbeats 4000000 in
set_option maxRecDepth 100000 in
theorem ctX11_holdingOf (l : Launch) (D : va_G) (k : Nat → ClassId) (z : Nat → Nat) (n : Nat → Nat) (mthrown : Int32) (mtaped : Nat) (msize : Nat) (mat : Nat) (mfrom : Nat) (mtoken : Int32) (mvalue : Int32) (mfaultKind : Int32) (mfaultPlace : Int32) (mmoreMany : Nat) (mlawNow : Int32) (mwetSet : Int32) (moverAll : Int32) (mones : Int32) (mtwos : Int32) (mgone : Int32) (mroundNow : Int32) (msampleFor : Int64) (msampleAll : Int64) (maskWorst : Int32) (moftenAll : Int64) (moftenView : Int64) (moftenOnes : Int64) (fworld : Nat → Int32) (fonesAt : Nat → Int32) (ftwosAt : Nat → Int32) (fgoneAt : Nat → Int32) (p0 : Int32) (p1 : Nat) (hmtaped : mtaped ≤ 600) (hmsize : msize ≤ 600) (hmat : mat ≤ 600) (hmfrom : mfrom ≤ 600) (hmmoreMany : mmoreMany ≤ 14) (hkworld : okW fworld) (hp1 : p1 ≤ 16) : RO l yX11_holdingOf cX11_holdingOf 3 (some .int) 3 D k z [.ref (n 0), .int p0, .int (nI p1)] [((n 0), .inr (11, [.int mthrown, .ref (n 1), .ref (n 2), .ref (n 3), .ref (n 4), .int (nI mtaped), .ref (n 5), .int (nI msize), .int (nI mat), .int (nI mfrom), .int mtoken, .int mvalue, .int mfaultKind, .int mfaultPlace, .ref (n 6), .ref (n 7), .ref (n 8), .ref (n 9), .ref (n 10), .ref (n 11), .ref (n 12), .int (nI mmoreMany), .int mlawNow, .int mwetSet, .int moverAll, .ref (n 13), .ref (n 14), .ref (n 15), .int mones, .int mtwos, .int mgone, .ref (n 16), .ref (n 17), .int mroundNow, .ref (n 18), .long msampleFor, .long msampleAll, .ref (n 19), .int maskWorst, .long moftenAll, .long moftenView, .long moftenOnes, .ref (n 20), .ref (n 21), .ref (n 22), .ref (n 23)])), ((n 1), .inl (k 0, 99, .inl fworld)), ((n 13), .inl (k 0, 17, .inl fonesAt)), ((n 14), .inl (k 0, 17, .inl ftwosAt)), ((n 15), .inl (k 0, 17, .inl fgoneAt))] (Qi (fun r : Int32 => True)) := by
  refine RO.of (by decide) (Nat.le_of_ble_eq_true rfl) ?_
  intro p e s m below meth c ls A B args Q S hr hlk hQ hK hP hDW hZ hAB hBA hA hS hl
  have hx := S.1
  have hb := S.2.1
  have hl : lv_has ls 3 [(0, .ref (n 0)), (1, .int p0), (2, .int (nI p1))] := hl
  have hbfworld := okW_bd hkworld
  refine lv_iload_n hx hb dX11_holdingOf_0 rfl (lv_at hl 1 rfl) ?_
  refine lv_iconst (v := 1) hx hb dX11_holdingOf_1 (by decide) ?_
  refine lv_icmp_ne (tgt := 14) hx hb dX11_holdingOf_2 (by decide) (fun c_1 => ?_) (fun c_1 => ?_)
  · skip
    refine lv_iload_n hx hb dX11_holdingOf_14 rfl (lv_at hl 1 rfl) ?_
    refine lv_iconst (v := 2) hx hb dX11_holdingOf_15 (by decide) ?_
    refine lv_icmp_ne (tgt := 28) hx hb dX11_holdingOf_16 (by decide) (fun c_2 => ?_) (fun c_2 => ?_)
    · skip
      refine lv_aload_n hx hb dX11_holdingOf_28 rfl (lv_at hl 0 rfl) ?_
      refine lv_iload_n hx hb dX11_holdingOf_29 rfl (lv_at hl 2 rfl) ?_
      refine x_roVi (As := [.int (nI p1)]) S hK hP hDW hZ hAB hBA hS hA hl mwX11_stillThere lkX11_324 (ctX11_stillThere l D k z n mthrown mtaped msize mat mfrom mtoken mvalue mfaultKind mfaultPlace mmoreMany mlawNow mwetSet moverAll mones mtwos mgone mroundNow msampleFor msampleAll maskWorst moftenAll moftenView moftenOnes fworld fgoneAt p1 (by omega) (by omega) (by omega) (by omega) (by omega) (hkworld) (by omega)) [0, 1, 4] rfl (by decide) rfl rfl rfl rfl rfl ⟨Nat.le_of_ble_eq_true rfl, Nat.le_of_ble_eq_true rfl, Nat.le_of_ble_eq_true rfl⟩ dX11_holdingOf_30 ⟨Nat.le_of_ble_eq_true rfl, Nat.le_of_ble_eq_true rfl⟩ (fun r_3 H locs hr_3 hP hS => ?_)
      obtain rfl := hr_3
      refine lv_aload_n hx hb dX11_holdingOf_33 rfl (lv_at hl 0 rfl) ?_
      refine x_get S hK hP 0 rfl cfX11 25 lkX11_52 (by decide) rfl dX11_holdingOf_34 ?_
      refine lv_iload_n hx hb dX11_holdingOf_37 rfl (lv_at hl 2 rfl) ?_
      refine x_iald S hK hP 2 rfl (vp_in_nI (by omega) (by decide)) dX11_holdingOf_38 ?_
      refine lv_topi (fun v_5 ev_5 => ?_)
      refine lv_aload_n hx hb dX11_holdingOf_39 rfl (lv_at hl 0 rfl) ?_
      refine x_get S hK hP 0 rfl cfX11 26 lkX11_55 (by decide) rfl dX11_holdingOf_40 ?_
      refine lv_iload_n hx hb dX11_holdingOf_43 rfl (lv_at hl 2 rfl) ?_
      refine x_iald S hK hP 3 rfl (vp_in_nI (by omega) (by decide)) dX11_holdingOf_44 ?_
      refine lv_topi (fun v_6 ev_6 => ?_)
      refine lv_ior hx hb dX11_holdingOf_45 ?_
      refine lv_topi (fun v_7 ev_7 => ?_)
      refine lv_iconst (v := (-1)) hx hb dX11_holdingOf_46 (by decide) ?_
      refine lv_ixor hx hb dX11_holdingOf_47 ?_
      refine lv_topi (fun v_8 ev_8 => ?_)
      refine lv_iand hx hb dX11_holdingOf_48 ?_
      refine lv_topi (fun v_9 ev_9 => ?_)
      exact x_reti S hr hlk hQ hS () trivial x_T dX11_holdingOf_49
    · skip
      refine lv_aload_n hx hb dX11_holdingOf_19 rfl (lv_at hl 0 rfl) ?_
      refine x_get S hK hP 0 rfl cfX11 26 lkX11_55 (by decide) rfl dX11_holdingOf_20 ?_
      refine lv_iload_n hx hb dX11_holdingOf_23 rfl (lv_at hl 2 rfl) ?_
      refine x_iald S hK hP 3 rfl (vp_in_nI (by omega) (by decide)) dX11_holdingOf_24 ?_
      refine lv_topi (fun v_10 ev_10 => ?_)
      refine lv_goto (tgt := 49) hx hb dX11_holdingOf_25 (by decide) ?_
      exact x_reti S hr hlk hQ hS () trivial x_T dX11_holdingOf_49
  · skip
    refine lv_aload_n hx hb dX11_holdingOf_5 rfl (lv_at hl 0 rfl) ?_
    refine x_get S hK hP 0 rfl cfX11 25 lkX11_52 (by decide) rfl dX11_holdingOf_6 ?_
    refine lv_iload_n hx hb dX11_holdingOf_9 rfl (lv_at hl 2 rfl) ?_
    refine x_iald S hK hP 2 rfl (vp_in_nI (by omega) (by decide)) dX11_holdingOf_10 ?_
    refine lv_topi (fun v_11 ev_11 => ?_)
    refine lv_goto (tgt := 49) hx hb dX11_holdingOf_11 (by decide) ?_
    exact x_reti S hr hlk hQ hS () trivial x_T dX11_holdingOf_49

set_option maxHeartbeats 4000000 in
set_option maxRecDepth 100000 in
theorem ctX11_lastOf (l : Launch) (D : va_G) (k : Nat → ClassId) (z : Nat → Nat) (n : Nat → Nat) (mthrown : Int32) (mtaped : Nat) (msize : Nat) (mat : Nat) (mfrom : Nat) (mtoken : Int32) (mvalue : Int32) (mfaultKind : Int32) (mfaultPlace : Int32) (mmoreMany : Nat) (mlawNow : Int32) (mwetSet : Int32) (moverAll : Int32) (mones : Int32) (mtwos : Int32) (mgone : Int32) (mroundNow : Int32) (msampleFor : Int64) (msampleAll : Int64) (maskWorst : Int32) (moftenAll : Int64) (moftenView : Int64) (moftenOnes : Int64) (fworld : Nat → Int32) (fonesAt : Nat → Int32) (ftwosAt : Nat → Int32) (fgoneAt : Nat → Int32) (p0 : Int32) (hmtaped : mtaped ≤ 600) (hmsize : msize ≤ 600) (hmat : mat ≤ 600) (hmfrom : mfrom ≤ 600) (hmmoreMany : mmoreMany ≤ 14) (hkworld : okW fworld) : RO l yX11_lastOf cX11_lastOf 2 (some .int) 4 D k z [.ref (n 0), .int p0] [((n 0), .inr (11, [.int mthrown, .ref (n 1), .ref (n 2), .ref (n 3), .ref (n 4), .int (nI mtaped), .ref (n 5), .int (nI msize), .int (nI mat), .int (nI mfrom), .int mtoken, .int mvalue, .int mfaultKind, .int mfaultPlace, .ref (n 6), .ref (n 7), .ref (n 8), .ref (n 9), .ref (n 10), .ref (n 11), .ref (n 12), .int (nI mmoreMany), .int mlawNow, .int mwetSet, .int moverAll, .ref (n 13), .ref (n 14), .ref (n 15), .int mones, .int mtwos, .int mgone, .ref (n 16), .ref (n 17), .int mroundNow, .ref (n 18), .long msampleFor, .long msampleAll, .ref (n 19), .int maskWorst, .long moftenAll, .long moftenView, .long moftenOnes, .ref (n 20), .ref (n 21), .ref (n 22), .ref (n 23)])), ((n 1), .inl (k 0, 99, .inl fworld)), ((n 13), .inl (k 0, 17, .inl fonesAt)), ((n 14), .inl (k 0, 17, .inl ftwosAt)), ((n 15), .inl (k 0, 17, .inl fgoneAt))] (Qi (fun r : Int32 => True)) := by
  refine RO.of (by decide) (Nat.le_of_ble_eq_true rfl) ?_
  intro p e s m below meth c ls A B args Q S hr hlk hQ hK hP hDW hZ hAB hBA hA hS hl
  have hx := S.1
  have hb := S.2.1
  have hl : lv_has ls 2 [(0, .ref (n 0)), (1, .int p0)] := hl
  have hbfworld := okW_bd hkworld
  refine lv_aload_n hx hb dX11_lastOf_0 rfl (lv_at hl 0 rfl) ?_
  refine lv_iload_n hx hb dX11_lastOf_1 rfl (lv_at hl 1 rfl) ?_
  refine lv_aload_n hx hb dX11_lastOf_2 rfl (lv_at hl 0 rfl) ?_
  refine x_roVi (As := []) S hK hP hDW hZ hAB hBA hS hA hl mwX11_hours lkX11_103 (ctX11_hours l D k z n mthrown mtaped msize mat mfrom mtoken mvalue mfaultKind mfaultPlace mmoreMany mlawNow mwetSet moverAll mones mtwos mgone mroundNow msampleFor msampleAll maskWorst moftenAll moftenView moftenOnes fworld (by omega) (by omega) (by omega) (by omega) (by omega) (hkworld)) [0, 1] rfl (by decide) rfl rfl rfl rfl rfl ⟨Nat.le_of_ble_eq_true rfl, Nat.le_of_ble_eq_true rfl, Nat.le_of_ble_eq_true rfl⟩ dX11_lastOf_3 ⟨Nat.le_of_ble_eq_true rfl, Nat.le_of_ble_eq_true rfl⟩ (fun r_1 H locs hr_1 hP hS => ?_)
  obtain rfl := hr_1
  refine x_roVi (As := [.int p0, .int (nI (wn fworld 0))]) S hK hP hDW hZ hAB hBA hS hA hl mwX11_holdingOf lkX11_327 (ctX11_holdingOf l D k z n mthrown mtaped msize mat mfrom mtoken mvalue mfaultKind mfaultPlace mmoreMany mlawNow mwetSet moverAll mones mtwos mgone mroundNow msampleFor msampleAll maskWorst moftenAll moftenView moftenOnes fworld fonesAt ftwosAt fgoneAt p0 (wn fworld 0) (by omega) (by omega) (by omega) (by omega) (by omega) (hkworld) (by omega)) [0, 1, 2, 3, 4] rfl (by decide) rfl rfl rfl rfl rfl ⟨Nat.le_of_ble_eq_true rfl, Nat.le_of_ble_eq_true rfl, Nat.le_of_ble_eq_true rfl⟩ dX11_lastOf_6 ⟨Nat.le_of_ble_eq_true rfl, Nat.le_of_ble_eq_true rfl⟩ (fun r_3 H locs hr_3 hP hS => ?_)
  exact x_reti S hr hlk hQ hS () trivial x_T dX11_lastOf_9

set_option maxHeartbeats 4000000 in
set_option maxRecDepth 100000 in
theorem ctX11_turnedOf (l : Launch) (D : va_G) (k : Nat → ClassId) (z : Nat → Nat) (n : Nat → Nat) (mthrown : Int32) (mtaped : Nat) (msize : Nat) (mat : Nat) (mfrom : Nat) (mtoken : Int32) (mvalue : Int32) (mfaultKind : Int32) (mfaultPlace : Int32) (mmoreMany : Nat) (mlawNow : Int32) (mwetSet : Int32) (moverAll : Int32) (mones : Int32) (mtwos : Int32) (mgone : Int32) (mroundNow : Int32) (msampleFor : Int64) (msampleAll : Int64) (maskWorst : Int32) (moftenAll : Int64) (moftenView : Int64) (moftenOnes : Int64) (fonesAt : Nat → Int32) (ftwosAt : Nat → Int32) (p0 : Nat) (hmtaped : mtaped ≤ 600) (hmsize : msize ≤ 600) (hmat : mat ≤ 600) (hmfrom : mfrom ≤ 600) (hmmoreMany : mmoreMany ≤ 14) (hp0 : p0 ≤ 16) : RO l yX11_turnedOf cX11_turnedOf 2 (some .int) 0 D k z [.ref (n 0), .int (nI p0)] [((n 0), .inr (11, [.int mthrown, .ref (n 1), .ref (n 2), .ref (n 3), .ref (n 4), .int (nI mtaped), .ref (n 5), .int (nI msize), .int (nI mat), .int (nI mfrom), .int mtoken, .int mvalue, .int mfaultKind, .int mfaultPlace, .ref (n 6), .ref (n 7), .ref (n 8), .ref (n 9), .ref (n 10), .ref (n 11), .ref (n 12), .int (nI mmoreMany), .int mlawNow, .int mwetSet, .int moverAll, .ref (n 13), .ref (n 14), .ref (n 15), .int mones, .int mtwos, .int mgone, .ref (n 16), .ref (n 17), .int mroundNow, .ref (n 18), .long msampleFor, .long msampleAll, .ref (n 19), .int maskWorst, .long moftenAll, .long moftenView, .long moftenOnes, .ref (n 20), .ref (n 21), .ref (n 22), .ref (n 23)])), ((n 13), .inl (k 0, 17, .inl fonesAt)), ((n 14), .inl (k 0, 17, .inl ftwosAt))] (Qi (fun r : Int32 => True)) := by
  refine RO.of (by decide) (Nat.le_of_ble_eq_true rfl) ?_
  intro p e s m below meth c ls A B args Q S hr hlk hQ hK hP hDW hZ hAB hBA hA hS hl
  have hx := S.1
  have hb := S.2.1
  have hl : lv_has ls 2 [(0, .ref (n 0)), (1, .int (nI p0))] := hl
  refine lv_iload_n hx hb dX11_turnedOf_0 rfl (lv_at hl 1 rfl) ?_
  refine lv_if_ne (tgt := 18) hx hb dX11_turnedOf_1 (by decide) (fun c_1 => ?_) (fun c_1 => ?_)
  · skip
    have c_1 : ¬ p0 = 0 := fun q => c_1 ((ni_eq rfl (by decide) (by omega) (by omega)).mpr q)
    refine lv_aload_n hx hb dX11_turnedOf_18 rfl (lv_at hl 0 rfl) ?_
    refine x_get S hK hP 0 rfl cfX11 25 lkX11_52 (by decide) rfl dX11_turnedOf_19 ?_
    refine lv_iload_n hx hb dX11_turnedOf_22 rfl (lv_at hl 1 rfl) ?_
    refine x_iald S hK hP 1 rfl (vp_in_nI (by omega) (by decide)) dX11_turnedOf_23 ?_
    refine lv_topi (fun v_2 ev_2 => ?_)
    refine lv_aload_n hx hb dX11_turnedOf_24 rfl (lv_at hl 0 rfl) ?_
    refine x_get S hK hP 0 rfl cfX11 25 lkX11_52 (by decide) rfl dX11_turnedOf_25 ?_
    refine lv_iload_n hx hb dX11_turnedOf_28 rfl (lv_at hl 1 rfl) ?_
    refine lv_iconst (v := 1) hx hb dX11_turnedOf_29 (by decide) ?_
    refine lv_isub hx hb dX11_turnedOf_30 ?_
    refine x_is (nI (p0 - 1)) (ni_sub rfl (by decide) (by omega)) ?_
    refine x_iald S hK hP 1 rfl (vp_in_nI (by omega) (by decide)) dX11_turnedOf_31 ?_
    refine lv_topi (fun v_3 ev_3 => ?_)
    refine lv_ixor hx hb dX11_turnedOf_32 ?_
    refine lv_topi (fun v_4 ev_4 => ?_)
    refine lv_aload_n hx hb dX11_turnedOf_33 rfl (lv_at hl 0 rfl) ?_
    refine x_get S hK hP 0 rfl cfX11 26 lkX11_55 (by decide) rfl dX11_turnedOf_34 ?_
    refine lv_iload_n hx hb dX11_turnedOf_37 rfl (lv_at hl 1 rfl) ?_
    refine x_iald S hK hP 2 rfl (vp_in_nI (by omega) (by decide)) dX11_turnedOf_38 ?_
    refine lv_topi (fun v_5 ev_5 => ?_)
    refine lv_aload_n hx hb dX11_turnedOf_39 rfl (lv_at hl 0 rfl) ?_
    refine x_get S hK hP 0 rfl cfX11 26 lkX11_55 (by decide) rfl dX11_turnedOf_40 ?_
    refine lv_iload_n hx hb dX11_turnedOf_43 rfl (lv_at hl 1 rfl) ?_
    refine lv_iconst (v := 1) hx hb dX11_turnedOf_44 (by decide) ?_
    refine lv_isub hx hb dX11_turnedOf_45 ?_
    refine x_is (nI (p0 - 1)) (ni_sub rfl (by decide) (by omega)) ?_
    refine x_iald S hK hP 2 rfl (vp_in_nI (by omega) (by decide)) dX11_turnedOf_46 ?_
    refine lv_topi (fun v_6 ev_6 => ?_)
    refine lv_ixor hx hb dX11_turnedOf_47 ?_
    refine lv_topi (fun v_7 ev_7 => ?_)
    refine lv_ior hx hb dX11_turnedOf_48 ?_
    refine lv_topi (fun v_8 ev_8 => ?_)
    exact x_reti S hr hlk hQ hS () trivial x_T dX11_turnedOf_49
  · skip
    have c_1 : p0 = 0 := (ni_eq rfl (by decide) (by omega) (by omega)).mp c_1
    refine lv_aload_n hx hb dX11_turnedOf_4 rfl (lv_at hl 0 rfl) ?_
    refine x_get S hK hP 0 rfl cfX11 25 lkX11_52 (by decide) rfl dX11_turnedOf_5 ?_
    refine lv_iconst (v := 0) hx hb dX11_turnedOf_8 (by decide) ?_
    refine x_iald S hK hP 1 rfl (vp_lit (by decide)) dX11_turnedOf_9 ?_
    refine lv_topi (fun v_9 ev_9 => ?_)
    refine lv_aload_n hx hb dX11_turnedOf_10 rfl (lv_at hl 0 rfl) ?_
    refine x_get S hK hP 0 rfl cfX11 26 lkX11_55 (by decide) rfl dX11_turnedOf_11 ?_
    refine lv_iconst (v := 0) hx hb dX11_turnedOf_14 (by decide) ?_
    refine x_iald S hK hP 2 rfl (vp_lit (by decide)) dX11_turnedOf_15 ?_
    refine lv_topi (fun v_10 ev_10 => ?_)
    refine lv_ior hx hb dX11_turnedOf_16 ?_
    refine lv_topi (fun v_11 ev_11 => ?_)
    exact x_reti S hr hlk hQ hS () trivial x_T dX11_turnedOf_17

set_option maxHeartbeats 4000000 in
set_option maxRecDepth 100000 in
theorem ctX11_swaysOf (l : Launch) (D : va_G) (k : Nat → ClassId) (z : Nat → Nat) (n : Nat → Nat) (mthrown : Int32) (mtaped : Nat) (msize : Nat) (mat : Nat) (mfrom : Nat) (mtoken : Int32) (mvalue : Int32) (mfaultKind : Int32) (mfaultPlace : Int32) (mmoreMany : Nat) (mlawNow : Int32) (mwetSet : Int32) (moverAll : Int32) (mones : Int32) (mtwos : Int32) (mgone : Int32) (mroundNow : Int32) (msampleFor : Int64) (msampleAll : Int64) (maskWorst : Int32) (moftenAll : Int64) (moftenView : Int64) (moftenOnes : Int64) (fworld : Nat → Int32) (fonesAt : Nat → Int32) (ftwosAt : Nat → Int32) (p0 : Int32) (hmtaped : mtaped ≤ 600) (hmsize : msize ≤ 600) (hmat : mat ≤ 600) (hmfrom : mfrom ≤ 600) (hmmoreMany : mmoreMany ≤ 14) (hkworld : okW fworld) : RO l yX11_swaysOf cX11_swaysOf 4 (some .int) 1 D k z [.ref (n 0), .int p0] [((n 0), .inr (11, [.int mthrown, .ref (n 1), .ref (n 2), .ref (n 3), .ref (n 4), .int (nI mtaped), .ref (n 5), .int (nI msize), .int (nI mat), .int (nI mfrom), .int mtoken, .int mvalue, .int mfaultKind, .int mfaultPlace, .ref (n 6), .ref (n 7), .ref (n 8), .ref (n 9), .ref (n 10), .ref (n 11), .ref (n 12), .int (nI mmoreMany), .int mlawNow, .int mwetSet, .int moverAll, .ref (n 13), .ref (n 14), .ref (n 15), .int mones, .int mtwos, .int mgone, .ref (n 16), .ref (n 17), .int mroundNow, .ref (n 18), .long msampleFor, .long msampleAll, .ref (n 19), .int maskWorst, .long moftenAll, .long moftenView, .long moftenOnes, .ref (n 20), .ref (n 21), .ref (n 22), .ref (n 23)])), ((n 1), .inl (k 0, 99, .inl fworld)), ((n 13), .inl (k 0, 17, .inl fonesAt)), ((n 14), .inl (k 0, 17, .inl ftwosAt))] (Qi (fun r : Int32 => True)) := by
  refine RO.of (by decide) (Nat.le_of_ble_eq_true rfl) ?_
  intro p e s m below meth c ls A B args Q S hr hlk hQ hK hP hDW hZ hAB hBA hA hS hl
  have hx := S.1
  have hb := S.2.1
  have hl : lv_has ls 4 [(0, .ref (n 0)), (1, .int p0)] := hl
  have hbfworld := okW_bd hkworld
  refine lv_iconst (v := 0) hx hb dX11_swaysOf_0 (by decide) ?_
  refine lv_istore_n (lv' := [(2, .int 0), (0, .ref (n 0)), (1, .int p0)]) hx hb dX11_swaysOf_1 rfl hl (by decide) rfl (fun ls hl => ?_)
  refine lv_iconst (v := 1) hx hb dX11_swaysOf_2 (by decide) ?_
  refine lv_istore_n (lv' := [(3, .int 1), (2, .int 0), (0, .ref (n 0)), (1, .int p0)]) hx hb dX11_swaysOf_3 rfl hl (by decide) rfl (fun ls hl => ?_)
  have lp_25 : ∀ (nn j_23 : Nat) (x_24 : Int32) (H : Heap) (locs : List Loc) (ls : Array Slot), j_23 ≤ wn fworld 0 + 1 → wn fworld 0 + 1 - j_23 < nn → va_P D vwCl [((n 0), .inr (11, [.int mthrown, .ref (n 1), .ref (n 2), .ref (n 3), .ref (n 4), .int (nI mtaped), .ref (n 5), .int (nI msize), .int (nI mat), .int (nI mfrom), .int mtoken, .int mvalue, .int mfaultKind, .int mfaultPlace, .ref (n 6), .ref (n 7), .ref (n 8), .ref (n 9), .ref (n 10), .ref (n 11), .ref (n 12), .int (nI mmoreMany), .int mlawNow, .int mwetSet, .int moverAll, .ref (n 13), .ref (n 14), .ref (n 15), .int mones, .int mtwos, .int mgone, .ref (n 16), .ref (n 17), .int mroundNow, .ref (n 18), .long msampleFor, .long msampleAll, .ref (n 19), .int maskWorst, .long moftenAll, .long moftenView, .long moftenOnes, .ref (n 20), .ref (n 21), .ref (n 22), .ref (n 23)])), ((n 1), .inl (k 0, 99, .inl fworld)), ((n 13), .inl (k 0, 17, .inl fonesAt)), ((n 14), .inl (k 0, 17, .inl ftwosAt))] H → va_S A s.heap H locs → lv_has ls 4 [(3, .int (nI j_23)), (2, .int x_24), (0, .ref (n 0)), (1, .int p0)] → W p l e (Rm 1 0 0) s m args below meth c H locs 0 0 Q (F0 m 4 ls []) := by
    intro nn
    induction nn with
    | zero => intro j_23 x_24 H locs ls hjj_23 hnj_23; exact absurd hnj_23 (by omega)
    | succ nn ihj_23 =>
      intro j_23 x_24 H locs ls hjj_23 hnj_23 hP hS hl
      refine lv_iload_n hx hb dX11_swaysOf_4 rfl (lv_at hl 0 rfl) ?_
      refine lv_aload_n hx hb dX11_swaysOf_5 rfl (lv_at hl 2 rfl) ?_
      refine x_roVi (As := []) S hK hP hDW hZ hAB hBA hS hA hl mwX11_hours lkX11_103 (ctX11_hours l D k z n mthrown mtaped msize mat mfrom mtoken mvalue mfaultKind mfaultPlace mmoreMany mlawNow mwetSet moverAll mones mtwos mgone mroundNow msampleFor msampleAll maskWorst moftenAll moftenView moftenOnes fworld (by omega) (by omega) (by omega) (by omega) (by omega) (hkworld)) [0, 1] rfl (by decide) rfl rfl rfl rfl rfl ⟨Nat.le_of_ble_eq_true rfl, Nat.le_of_ble_eq_true rfl, Nat.le_of_ble_eq_true rfl⟩ dX11_swaysOf_6 ⟨Nat.le_of_ble_eq_true rfl, Nat.le_of_ble_eq_true rfl⟩ (fun r_26 H locs hr_26 hP hS => ?_)
      obtain rfl := hr_26
      refine lv_icmp_gt (tgt := 30) hx hb dX11_swaysOf_9 (by decide) (fun c_28 => ?_) (fun c_28 => ?_)
      · skip
        have c_28 : wn fworld 0 < j_23 := (ni_lt rfl rfl (by omega) (by omega)).mp c_28
        refine lv_iload_n hx hb dX11_swaysOf_30 rfl (lv_at hl 1 rfl) ?_
        exact x_reti S hr hlk hQ hS () trivial x_T dX11_swaysOf_31
      · skip
        have c_28 : ¬ wn fworld 0 < j_23 := fun q => c_28 ((ni_lt rfl rfl (by omega) (by omega)).mpr q)
        refine lv_iload_n hx hb dX11_swaysOf_12 rfl (lv_at hl 1 rfl) ?_
        refine lv_aload_n hx hb dX11_swaysOf_13 rfl (lv_at hl 2 rfl) ?_
        refine lv_iload_n hx hb dX11_swaysOf_14 rfl (lv_at hl 0 rfl) ?_
        refine x_roVi (As := [.int (nI j_23)]) S hK hP hDW hZ hAB hBA hS hA hl mwX11_turnedOf lkX11_339 (ctX11_turnedOf l D k z n mthrown mtaped msize mat mfrom mtoken mvalue mfaultKind mfaultPlace mmoreMany mlawNow mwetSet moverAll mones mtwos mgone mroundNow msampleFor msampleAll maskWorst moftenAll moftenView moftenOnes fonesAt ftwosAt j_23 (by omega) (by omega) (by omega) (by omega) (by omega) (by omega)) [0, 2, 3] rfl (by decide) rfl rfl rfl rfl rfl ⟨Nat.le_of_ble_eq_true rfl, Nat.le_of_ble_eq_true rfl, Nat.le_of_ble_eq_true rfl⟩ dX11_swaysOf_15 ⟨Nat.le_of_ble_eq_true rfl, Nat.le_of_ble_eq_true rfl⟩ (fun r_29 H locs hr_29 hP hS => ?_)
        refine lv_iload_n hx hb dX11_swaysOf_18 rfl (lv_at hl 3 rfl) ?_
        refine x_roSi (As := [.int r_29, .int p0]) S hK hP hDW hZ hAB hBA hS hA hl mwX11_bit lkX11_274 (ctX11_bit l D k z r_29 p0 ) [] rfl (by decide) rfl rfl ⟨Nat.le_of_ble_eq_true rfl, Nat.le_of_ble_eq_true rfl, Nat.le_of_ble_eq_true rfl⟩ dX11_swaysOf_19 ⟨Nat.le_of_ble_eq_true rfl, Nat.le_of_ble_eq_true rfl⟩ (fun r_31 H locs hr_31 hP hS => ?_)
        refine lv_iadd hx hb dX11_swaysOf_22 ?_
        refine lv_topi (fun v_33 ev_33 => ?_)
        refine lv_istore_n (lv' := [(2, .int v_33), (3, .int (nI j_23)), (0, .ref (n 0)), (1, .int p0)]) hx hb dX11_swaysOf_23 rfl hl (by decide) rfl (fun ls hl => ?_)
        refine lv_iinc (v := (nI (j_23 + 1))) (lv' := [(3, .int (nI (j_23 + 1))), (2, .int v_33), (0, .ref (n 0)), (1, .int p0)]) hx hb dX11_swaysOf_24 hl (k := 1) rfl (ni_inc _) (by decide) rfl (fun ls hl => ?_)
        refine lv_goto (tgt := 4) hx hb dX11_swaysOf_27 (by decide) ?_
        exact ihj_23 (j_23 + 1) v_33 _ _ _ (by omega) (by omega) hP hS (lv_sub hl [0, 1, 2, 3] rfl)
  exact lp_25 (wn fworld 0 + 1 + 1) 1 0 _ _ _ (by omega) (by omega) hP hS (lv_sub hl [0, 1, 2, 3] rfl)

