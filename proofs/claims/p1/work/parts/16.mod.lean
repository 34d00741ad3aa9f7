theorem dX11_in_0 : decode cX11_in 0 = .ok (.lload_n 0, 1) := by decide +kernel
theorem dX11_in_1 : decode cX11_in 1 = .ok (.lload_n 2, 1) := by decide +kernel
theorem dX11_in_2 : decode cX11_in 2 = .ok (.lcmp, 1) := by decide +kernel
theorem dX11_in_3 : decode cX11_in 3 = .ok (.ifCond .lt 14, 3) := by decide +kernel
theorem dX11_in_6 : decode cX11_in 6 = .ok (.lload_n 0, 1) := by decide +kernel
theorem dX11_in_7 : decode cX11_in 7 = .ok (.lload 4, 2) := by decide +kernel
theorem dX11_in_9 : decode cX11_in 9 = .ok (.lcmp, 1) := by decide +kernel
theorem dX11_in_10 : decode cX11_in 10 = .ok (.ifCond .gt 7, 3) := by decide +kernel
theorem dX11_in_13 : decode cX11_in 13 = .ok (.iconst 1, 1) := by decide +kernel
theorem dX11_in_14 : decode cX11_in 14 = .ok (.goto 4, 3) := by decide +kernel
theorem dX11_in_17 : decode cX11_in 17 = .ok (.iconst 0, 1) := by decide +kernel
theorem dX11_in_18 : decode cX11_in 18 = .ok (.ireturn, 1) := by decide +kernel
theorem dX11_isView_0 : decode cX11_isView 0 = .ok (.lload_n 0, 1) := by decide +kernel
theorem dX11_isView_1 : decode cX11_isView 1 = .ok (.lconst 1, 1) := by decide +kernel
theorem dX11_isView_2 : decode cX11_isView 2 = .ok (.ldc2_w 89, 3) := by decide +kernel
theorem dX11_isView_5 : decode cX11_isView 5 = .ok (.invokestatic 91, 3) := by decide +kernel
theorem dX11_isView_8 : decode cX11_isView 8 = .ok (.ireturn, 1) := by decide +kernel
theorem dX11_isAny_0 : decode cX11_isAny 0 = .ok (.lload_n 0, 1) := by decide +kernel
theorem dX11_isAny_1 : decode cX11_isAny 1 = .ok (.lconst 0, 1) := by decide +kernel
theorem dX11_isAny_2 : decode cX11_isAny 2 = .ok (.ldc2_w 89, 3) := by decide +kernel
theorem dX11_isAny_5 : decode cX11_isAny 5 = .ok (.invokestatic 91, 3) := by decide +kernel
theorem dX11_isAny_8 : decode cX11_isAny 8 = .ok (.ireturn, 1) := by decide +kernel
theorem dX11_isSlot_0 : decode cX11_isSlot 0 = .ok (.iload_n 0, 1) := by decide +kernel
theorem dX11_isSlot_1 : decode cX11_isSlot 1 = .ok (.i2l, 1) := by decide +kernel
theorem dX11_isSlot_2 : decode cX11_isSlot 2 = .ok (.lconst 0, 1) := by decide +kernel
theorem dX11_isSlot_3 : decode cX11_isSlot 3 = .ok (.ldc2_w 241, 3) := by decide +kernel
theorem dX11_isSlot_6 : decode cX11_isSlot 6 = .ok (.invokestatic 91, 3) := by decide +kernel
theorem dX11_isSlot_9 : decode cX11_isSlot 9 = .ok (.ireturn, 1) := by decide +kernel
theorem dX11_isSeed_0 : decode cX11_isSeed 0 = .ok (.iload_n 0, 1) := by decide +kernel
theorem dX11_isSeed_1 : decode cX11_isSeed 1 = .ok (.i2l, 1) := by decide +kernel
theorem dX11_isSeed_2 : decode cX11_isSeed 2 = .ok (.lconst 0, 1) := by decide +kernel
theorem dX11_isSeed_3 : decode cX11_isSeed 3 = .ok (.ldc2_w 496, 3) := by decide +kernel
theorem dX11_isSeed_6 : decode cX11_isSeed 6 = .ok (.invokestatic 91, 3) := by decide +kernel
theorem dX11_isSeed_9 : decode cX11_isSeed 9 = .ok (.ireturn, 1) := by decide +kernel
theorem dX11_bit_0 : decode cX11_bit 0 = .ok (.iload_n 0, 1) := by decide +kernel
theorem dX11_bit_1 : decode cX11_bit 1 = .ok (.iload_n 1, 1) := by decide +kernel
theorem dX11_bit_2 : decode cX11_bit 2 = .ok (.ishr, 1) := by decide +kernel
theorem dX11_bit_3 : decode cX11_bit 3 = .ok (.iconst 1, 1) := by decide +kernel
theorem dX11_bit_4 : decode cX11_bit 4 = .ok (.iand, 1) := by decide +kernel
theorem dX11_bit_5 : decode cX11_bit 5 = .ok (.ireturn, 1) := by decide +kernel
theorem dX11_isGarden_0 : decode cX11_isGarden 0 = .ok (.aload_n 0, 1) := by decide +kernel
theorem dX11_isGarden_1 : decode cX11_isGarden 1 = .ok (.getfield 9, 3) := by decide +kernel
theorem dX11_isGarden_4 : decode cX11_isGarden 4 = .ok (.bipush 8, 2) := by decide +kernel
theorem dX11_isGarden_6 : decode cX11_isGarden 6 = .ok (.iaload, 1) := by decide +kernel
theorem dX11_isGarden_7 : decode cX11_isGarden 7 = .ok (.ifCond .le 7, 3) := by decide +kernel
theorem dX11_isGarden_10 : decode cX11_isGarden 10 = .ok (.iconst 1, 1) := by decide +kernel
theorem dX11_isGarden_11 : decode cX11_isGarden 11 = .ok (.goto 4, 3) := by decide +kernel
theorem dX11_isGarden_14 : decode cX11_isGarden 14 = .ok (.iconst 0, 1) := by decide +kernel
theorem dX11_isGarden_15 : decode cX11_isGarden 15 = .ok (.ireturn, 1) := by decide +kernel
theorem dX11_hours_0 : decode cX11_hours 0 = .ok (.aload_n 0, 1) := by decide +kernel
theorem dX11_hours_1 : decode cX11_hours 1 = .ok (.getfield 9, 3) := by decide +kernel
theorem dX11_hours_4 : decode cX11_hours 4 = .ok (.iconst 0, 1) := by decide +kernel
theorem dX11_hours_5 : decode cX11_hours 5 = .ok (.iaload, 1) := by decide +kernel
theorem dX11_hours_6 : decode cX11_hours 6 = .ok (.ireturn, 1) := by decide +kernel
theorem dX11_headMany_0 : decode cX11_headMany 0 = .ok (.aload_n 0, 1) := by decide +kernel
theorem dX11_headMany_1 : decode cX11_headMany 1 = .ok (.getfield 9, 3) := by decide +kernel
theorem dX11_headMany_4 : decode cX11_headMany 4 = .ok (.iconst 4, 1) := by decide +kernel
theorem dX11_headMany_5 : decode cX11_headMany 5 = .ok (.iaload, 1) := by decide +kernel
theorem dX11_headMany_6 : decode cX11_headMany 6 = .ok (.ireturn, 1) := by decide +kernel
theorem dX11_isHead_0 : decode cX11_isHead 0 = .ok (.lload_n 1, 1) := by decide +kernel
theorem dX11_isHead_1 : decode cX11_isHead 1 = .ok (.lconst 0, 1) := by decide +kernel
theorem dX11_isHead_2 : decode cX11_isHead 2 = .ok (.aload_n 0, 1) := by decide +kernel
theorem dX11_isHead_3 : decode cX11_isHead 3 = .ok (.invokevirtual 95, 3) := by decide +kernel
theorem dX11_isHead_6 : decode cX11_isHead 6 = .ok (.iconst 1, 1) := by decide +kernel
theorem dX11_isHead_7 : decode cX11_isHead 7 = .ok (.isub, 1) := by decide +kernel
theorem dX11_isHead_8 : decode cX11_isHead 8 = .ok (.i2l, 1) := by decide +kernel
theorem dX11_isHead_9 : decode cX11_isHead 9 = .ok (.invokestatic 91, 3) := by decide +kernel
theorem dX11_isHead_12 : decode cX11_isHead 12 = .ok (.ireturn, 1) := by decide +kernel
theorem dX11_isHour_0 : decode cX11_isHour 0 = .ok (.aload_n 0, 1) := by decide +kernel
theorem dX11_isHour_1 : decode cX11_isHour 1 = .ok (.invokevirtual 99, 3) := by decide +kernel
theorem dX11_isHour_4 : decode cX11_isHour 4 = .ok (.ifCond .eq 20, 3) := by decide +kernel
theorem dX11_isHour_7 : decode cX11_isHour 7 = .ok (.lload_n 1, 1) := by decide +kernel
theorem dX11_isHour_8 : decode cX11_isHour 8 = .ok (.lconst 0, 1) := by decide +kernel
theorem dX11_isHour_9 : decode cX11_isHour 9 = .ok (.aload_n 0, 1) := by decide +kernel
theorem dX11_isHour_10 : decode cX11_isHour 10 = .ok (.invokevirtual 103, 3) := by decide +kernel
theorem dX11_isHour_13 : decode cX11_isHour 13 = .ok (.i2l, 1) := by decide +kernel
theorem dX11_isHour_14 : decode cX11_isHour 14 = .ok (.invokestatic 91, 3) := by decide +kernel
theorem dX11_isHour_17 : decode cX11_isHour 17 = .ok (.ifCond .eq 7, 3) := by decide +kernel
theorem dX11_isHour_20 : decode cX11_isHour 20 = .ok (.iconst 1, 1) := by decide +kernel
theorem dX11_isHour_21 : decode cX11_isHour 21 = .ok (.goto 4, 3) := by decide +kernel
theorem dX11_isHour_24 : decode cX11_isHour 24 = .ok (.iconst 0, 1) := by decide +kernel
theorem dX11_isHour_25 : decode cX11_isHour 25 = .ok (.ireturn, 1) := by decide +kernel
theorem dX11_isRow_0 : decode cX11_isRow 0 = .ok (.iload_n 1, 1) := by decide +kernel
theorem dX11_isRow_1 : decode cX11_isRow 1 = .ok (.i2l, 1) := by decide +kernel
theorem dX11_isRow_2 : decode cX11_isRow 2 = .ok (.lconst 0, 1) := by decide +kernel
theorem dX11_isRow_3 : decode cX11_isRow 3 = .ok (.aload_n 0, 1) := by decide +kernel
theorem dX11_isRow_4 : decode cX11_isRow 4 = .ok (.getfield 9, 3) := by decide +kernel
theorem dX11_isRow_7 : decode cX11_isRow 7 = .ok (.iconst 3, 1) := by decide +kernel
theorem dX11_isRow_8 : decode cX11_isRow 8 = .ok (.iaload, 1) := by decide +kernel
theorem dX11_isRow_9 : decode cX11_isRow 9 = .ok (.iconst 1, 1) := by decide +kernel
theorem dX11_isRow_10 : decode cX11_isRow 10 = .ok (.isub, 1) := by decide +kernel
theorem dX11_isRow_11 : decode cX11_isRow 11 = .ok (.i2l, 1) := by decide +kernel
theorem dX11_isRow_12 : decode cX11_isRow 12 = .ok (.invokestatic 91, 3) := by decide +kernel
theorem dX11_isRow_15 : decode cX11_isRow 15 = .ok (.ireturn, 1) := by decide +kernel
theorem dX11_hardOf_0 : decode cX11_hardOf 0 = .ok (.aload_n 0, 1) := by decide +kernel
theorem dX11_hardOf_1 : decode cX11_hardOf 1 = .ok (.getfield 9, 3) := by decide +kernel
theorem dX11_hardOf_4 : decode cX11_hardOf 4 = .ok (.bipush 13, 2) := by decide +kernel
theorem dX11_hardOf_6 : decode cX11_hardOf 6 = .ok (.iconst 2, 1) := by decide +kernel
theorem dX11_hardOf_7 : decode cX11_hardOf 7 = .ok (.iload_n 1, 1) := by decide +kernel
theorem dX11_hardOf_8 : decode cX11_hardOf 8 = .ok (.imul, 1) := by decide +kernel
theorem dX11_hardOf_9 : decode cX11_hardOf 9 = .ok (.iadd, 1) := by decide +kernel
theorem dX11_hardOf_10 : decode cX11_hardOf 10 = .ok (.iaload, 1) := by decide +kernel
theorem dX11_hardOf_11 : decode cX11_hardOf 11 = .ok (.ireturn, 1) := by decide +kernel
theorem dX11_layRows_0 : decode cX11_layRows 0 = .ok (.iconst 0, 1) := by decide +kernel
theorem dX11_layRows_1 : decode cX11_layRows 1 = .ok (.istore_n 1, 1) := by decide +kernel
theorem dX11_layRows_2 : decode cX11_layRows 2 = .ok (.iconst 0, 1) := by decide +kernel
theorem dX11_layRows_3 : decode cX11_layRows 3 = .ok (.istore_n 2, 1) := by decide +kernel
theorem dX11_layRows_4 : decode cX11_layRows 4 = .ok (.iload_n 2, 1) := by decide +kernel
theorem dX11_layRows_5 : decode cX11_layRows 5 = .ok (.aload_n 0, 1) := by decide +kernel
theorem dX11_layRows_6 : decode cX11_layRows 6 = .ok (.getfield 9, 3) := by decide +kernel
theorem dX11_layRows_9 : decode cX11_layRows 9 = .ok (.iconst 3, 1) := by decide +kernel
theorem dX11_layRows_10 : decode cX11_layRows 10 = .ok (.iaload, 1) := by decide +kernel
theorem dX11_layRows_11 : decode cX11_layRows 11 = .ok (.if_icmp .ge 54, 3) := by decide +kernel
theorem dX11_layRows_14 : decode cX11_layRows 14 = .ok (.aload_n 0, 1) := by decide +kernel
theorem dX11_layRows_15 : decode cX11_layRows 15 = .ok (.getfield 40, 3) := by decide +kernel
theorem dX11_layRows_18 : decode cX11_layRows 18 = .ok (.iload_n 2, 1) := by decide +kernel
theorem dX11_layRows_19 : decode cX11_layRows 19 = .ok (.iload_n 1, 1) := by decide +kernel
theorem dX11_layRows_20 : decode cX11_layRows 20 = .ok (.iastore, 1) := by decide +kernel
theorem dX11_layRows_21 : decode cX11_layRows 21 = .ok (.iconst 0, 1) := by decide +kernel
theorem dX11_layRows_22 : decode cX11_layRows 22 = .ok (.istore_n 3, 1) := by decide +kernel
theorem dX11_layRows_23 : decode cX11_layRows 23 = .ok (.iload_n 3, 1) := by decide +kernel
theorem dX11_layRows_24 : decode cX11_layRows 24 = .ok (.aload_n 0, 1) := by decide +kernel
theorem dX11_layRows_25 : decode cX11_layRows 25 = .ok (.getfield 9, 3) := by decide +kernel
theorem dX11_layRows_28 : decode cX11_layRows 28 = .ok (.bipush 9, 2) := by decide +kernel
theorem dX11_layRows_30 : decode cX11_layRows 30 = .ok (.iload_n 2, 1) := by decide +kernel
theorem dX11_layRows_31 : decode cX11_layRows 31 = .ok (.iadd, 1) := by decide +kernel
theorem dX11_layRows_32 : decode cX11_layRows 32 = .ok (.iaload, 1) := by decide +kernel
theorem dX11_layRows_33 : decode cX11_layRows 33 = .ok (.if_icmp .ge 26, 3) := by decide +kernel
theorem dX11_layRows_36 : decode cX11_layRows 36 = .ok (.aload_n 0, 1) := by decide +kernel
theorem dX11_layRows_37 : decode cX11_layRows 37 = .ok (.getfield 34, 3) := by decide +kernel
theorem dX11_layRows_40 : decode cX11_layRows 40 = .ok (.iload_n 1, 1) := by decide +kernel
theorem dX11_layRows_41 : decode cX11_layRows 41 = .ok (.iload_n 2, 1) := by decide +kernel
theorem dX11_layRows_42 : decode cX11_layRows 42 = .ok (.iastore, 1) := by decide +kernel
theorem dX11_layRows_43 : decode cX11_layRows 43 = .ok (.aload_n 0, 1) := by decide +kernel
theorem dX11_layRows_44 : decode cX11_layRows 44 = .ok (.getfield 37, 3) := by decide +kernel
theorem dX11_layRows_47 : decode cX11_layRows 47 = .ok (.iload_n 1, 1) := by decide +kernel
theorem dX11_layRows_48 : decode cX11_layRows 48 = .ok (.iload_n 3, 1) := by decide +kernel
theorem dX11_layRows_49 : decode cX11_layRows 49 = .ok (.iastore, 1) := by decide +kernel
theorem dX11_layRows_50 : decode cX11_layRows 50 = .ok (.iinc 1 1, 3) := by decide +kernel
theorem dX11_layRows_53 : decode cX11_layRows 53 = .ok (.iinc 3 1, 3) := by decide +kernel
theorem dX11_layRows_56 : decode cX11_layRows 56 = .ok (.goto (-33), 3) := by decide +kernel
theorem dX11_layRows_59 : decode cX11_layRows 59 = .ok (.iinc 2 1, 3) := by decide +kernel
theorem dX11_layRows_62 : decode cX11_layRows 62 = .ok (.goto (-58), 3) := by decide +kernel
theorem dX11_layRows_65 : decode cX11_layRows 65 = .ok (.return_, 1) := by decide +kernel
theorem dX11_asItIs_0 : decode cX11_asItIs 0 = .ok (.aload_n 0, 1) := by decide +kernel
theorem dX11_asItIs_1 : decode cX11_asItIs 1 = .ok (.invokevirtual 243, 3) := by decide +kernel
theorem dX11_asItIs_4 : decode cX11_asItIs 4 = .ok (.aload_n 0, 1) := by decide +kernel
theorem dX11_asItIs_5 : decode cX11_asItIs 5 = .ok (.aload_n 0, 1) := by decide +kernel
theorem dX11_asItIs_6 : decode cX11_asItIs 6 = .ok (.getfield 9, 3) := by decide +kernel
theorem dX11_asItIs_9 : decode cX11_asItIs 9 = .ok (.iconst 1, 1) := by decide +kernel
theorem dX11_asItIs_10 : decode cX11_asItIs 10 = .ok (.iaload, 1) := by decide +kernel
theorem dX11_asItIs_11 : decode cX11_asItIs 11 = .ok (.putfield 261, 3) := by decide +kernel
theorem dX11_asItIs_14 : decode cX11_asItIs 14 = .ok (.aload_n 0, 1) := by decide +kernel
theorem dX11_asItIs_15 : decode cX11_asItIs 15 = .ok (.iconst 0, 1) := by decide +kernel
theorem dX11_asItIs_16 : decode cX11_asItIs 16 = .ok (.putfield 264, 3) := by decide +kernel
theorem dX11_asItIs_19 : decode cX11_asItIs 19 = .ok (.aload_n 0, 1) := by decide +kernel
theorem dX11_asItIs_20 : decode cX11_asItIs 20 = .ok (.iconst 0, 1) := by decide +kernel
theorem dX11_asItIs_21 : decode cX11_asItIs 21 = .ok (.putfield 267, 3) := by decide +kernel
theorem dX11_asItIs_24 : decode cX11_asItIs 24 = .ok (.aload_n 0, 1) := by decide +kernel
theorem dX11_asItIs_25 : decode cX11_asItIs 25 = .ok (.iconst 0, 1) := by decide +kernel
theorem dX11_asItIs_26 : decode cX11_asItIs 26 = .ok (.putfield 270, 3) := by decide +kernel
theorem dX11_asItIs_29 : decode cX11_asItIs 29 = .ok (.iconst 0, 1) := by decide +kernel
theorem dX11_asItIs_30 : decode cX11_asItIs 30 = .ok (.istore_n 1, 1) := by decide +kernel
theorem dX11_asItIs_31 : decode cX11_asItIs 31 = .ok (.iload_n 1, 1) := by decide +kernel
theorem dX11_asItIs_32 : decode cX11_asItIs 32 = .ok (.bipush 12, 2) := by decide +kernel
theorem dX11_asItIs_34 : decode cX11_asItIs 34 = .ok (.if_icmp .ge 20, 3) := by decide +kernel
theorem dX11_asItIs_37 : decode cX11_asItIs 37 = .ok (.aload_n 0, 1) := by decide +kernel
theorem dX11_asItIs_38 : decode cX11_asItIs 38 = .ok (.getfield 43, 3) := by decide +kernel
theorem dX11_asItIs_41 : decode cX11_asItIs 41 = .ok (.iload_n 1, 1) := by decide +kernel
theorem dX11_asItIs_42 : decode cX11_asItIs 42 = .ok (.aload_n 0, 1) := by decide +kernel
theorem dX11_asItIs_43 : decode cX11_asItIs 43 = .ok (.iload_n 1, 1) := by decide +kernel
theorem dX11_asItIs_44 : decode cX11_asItIs 44 = .ok (.invokevirtual 246, 3) := by decide +kernel
theorem dX11_asItIs_47 : decode cX11_asItIs 47 = .ok (.iastore, 1) := by decide +kernel
theorem dX11_asItIs_48 : decode cX11_asItIs 48 = .ok (.iinc 1 1, 3) := by decide +kernel
theorem dX11_asItIs_51 : decode cX11_asItIs 51 = .ok (.goto (-20), 3) := by decide +kernel
theorem dX11_asItIs_54 : decode cX11_asItIs 54 = .ok (.return_, 1) := by decide +kernel
theorem dX11_beginHour_0 : decode cX11_beginHour 0 = .ok (.iconst 0, 1) := by decide +kernel
theorem dX11_beginHour_1 : decode cX11_beginHour 1 = .ok (.istore_n 2, 1) := by decide +kernel
theorem dX11_beginHour_2 : decode cX11_beginHour 2 = .ok (.iload_n 2, 1) := by decide +kernel
theorem dX11_beginHour_3 : decode cX11_beginHour 3 = .ok (.aload_n 0, 1) := by decide +kernel
theorem dX11_beginHour_4 : decode cX11_beginHour 4 = .ok (.getfield 9, 3) := by decide +kernel
theorem dX11_beginHour_7 : decode cX11_beginHour 7 = .ok (.iconst 5, 1) := by decide +kernel
theorem dX11_beginHour_8 : decode cX11_beginHour 8 = .ok (.iaload, 1) := by decide +kernel
theorem dX11_beginHour_9 : decode cX11_beginHour 9 = .ok (.if_icmp .ge 54, 3) := by decide +kernel
theorem dX11_beginHour_12 : decode cX11_beginHour 12 = .ok (.aload_n 0, 1) := by decide +kernel
theorem dX11_beginHour_13 : decode cX11_beginHour 13 = .ok (.getfield 9, 3) := by decide +kernel
theorem dX11_beginHour_16 : decode cX11_beginHour 16 = .ok (.bipush 37, 2) := by decide +kernel
theorem dX11_beginHour_18 : decode cX11_beginHour 18 = .ok (.iconst 3, 1) := by decide +kernel
theorem dX11_beginHour_19 : decode cX11_beginHour 19 = .ok (.iload_n 2, 1) := by decide +kernel
theorem dX11_beginHour_20 : decode cX11_beginHour 20 = .ok (.imul, 1) := by decide +kernel
theorem dX11_beginHour_21 : decode cX11_beginHour 21 = .ok (.iadd, 1) := by decide +kernel
theorem dX11_beginHour_22 : decode cX11_beginHour 22 = .ok (.iconst 2, 1) := by decide +kernel
theorem dX11_beginHour_23 : decode cX11_beginHour 23 = .ok (.iadd, 1) := by decide +kernel
theorem dX11_beginHour_24 : decode cX11_beginHour 24 = .ok (.iaload, 1) := by decide +kernel
theorem dX11_beginHour_25 : decode cX11_beginHour 25 = .ok (.iload_n 1, 1) := by decide +kernel
theorem dX11_beginHour_26 : decode cX11_beginHour 26 = .ok (.if_icmp .ne 31, 3) := by decide +kernel
theorem dX11_beginHour_29 : decode cX11_beginHour 29 = .ok (.aload_n 0, 1) := by decide +kernel
theorem dX11_beginHour_30 : decode cX11_beginHour 30 = .ok (.aload_n 0, 1) := by decide +kernel
theorem dX11_beginHour_31 : decode cX11_beginHour 31 = .ok (.getfield 9, 3) := by decide +kernel
theorem dX11_beginHour_34 : decode cX11_beginHour 34 = .ok (.bipush 37, 2) := by decide +kernel
theorem dX11_beginHour_36 : decode cX11_beginHour 36 = .ok (.iconst 3, 1) := by decide +kernel
theorem dX11_beginHour_37 : decode cX11_beginHour 37 = .ok (.iload_n 2, 1) := by decide +kernel
theorem dX11_beginHour_38 : decode cX11_beginHour 38 = .ok (.imul, 1) := by decide +kernel
theorem dX11_beginHour_39 : decode cX11_beginHour 39 = .ok (.iadd, 1) := by decide +kernel
theorem dX11_beginHour_40 : decode cX11_beginHour 40 = .ok (.iaload, 1) := by decide +kernel
theorem dX11_beginHour_41 : decode cX11_beginHour 41 = .ok (.aload_n 0, 1) := by decide +kernel
theorem dX11_beginHour_42 : decode cX11_beginHour 42 = .ok (.getfield 9, 3) := by decide +kernel
theorem dX11_beginHour_45 : decode cX11_beginHour 45 = .ok (.bipush 37, 2) := by decide +kernel
theorem dX11_beginHour_47 : decode cX11_beginHour 47 = .ok (.iconst 3, 1) := by decide +kernel
theorem dX11_beginHour_48 : decode cX11_beginHour 48 = .ok (.iload_n 2, 1) := by decide +kernel
theorem dX11_beginHour_49 : decode cX11_beginHour 49 = .ok (.imul, 1) := by decide +kernel
theorem dX11_beginHour_50 : decode cX11_beginHour 50 = .ok (.iadd, 1) := by decide +kernel
theorem dX11_beginHour_51 : decode cX11_beginHour 51 = .ok (.iconst 1, 1) := by decide +kernel
theorem dX11_beginHour_52 : decode cX11_beginHour 52 = .ok (.iadd, 1) := by decide +kernel
theorem dX11_beginHour_53 : decode cX11_beginHour 53 = .ok (.iaload, 1) := by decide +kernel
theorem dX11_beginHour_54 : decode cX11_beginHour 54 = .ok (.invokevirtual 290, 3) := by decide +kernel
theorem dX11_beginHour_57 : decode cX11_beginHour 57 = .ok (.iinc 2 1, 3) := by decide +kernel
theorem dX11_beginHour_60 : decode cX11_beginHour 60 = .ok (.goto (-58), 3) := by decide +kernel
theorem dX11_beginHour_63 : decode cX11_beginHour 63 = .ok (.iconst 0, 1) := by decide +kernel
theorem dX11_beginHour_64 : decode cX11_beginHour 64 = .ok (.istore_n 2, 1) := by decide +kernel
theorem dX11_beginHour_65 : decode cX11_beginHour 65 = .ok (.iload_n 2, 1) := by decide +kernel
theorem dX11_beginHour_66 : decode cX11_beginHour 66 = .ok (.aload_n 0, 1) := by decide +kernel
theorem dX11_beginHour_67 : decode cX11_beginHour 67 = .ok (.getfield 9, 3) := by decide +kernel
theorem dX11_beginHour_70 : decode cX11_beginHour 70 = .ok (.bipush 7, 2) := by decide +kernel
theorem dX11_beginHour_72 : decode cX11_beginHour 72 = .ok (.iaload, 1) := by decide +kernel
theorem dX11_beginHour_73 : decode cX11_beginHour 73 = .ok (.if_icmp .ge 50, 3) := by decide +kernel
theorem dX11_beginHour_76 : decode cX11_beginHour 76 = .ok (.aload_n 0, 1) := by decide +kernel
theorem dX11_beginHour_77 : decode cX11_beginHour 77 = .ok (.getfield 9, 3) := by decide +kernel
theorem dX11_beginHour_80 : decode cX11_beginHour 80 = .ok (.bipush 69, 2) := by decide +kernel
theorem dX11_beginHour_82 : decode cX11_beginHour 82 = .ok (.iload_n 2, 1) := by decide +kernel
theorem dX11_beginHour_83 : decode cX11_beginHour 83 = .ok (.iadd, 1) := by decide +kernel
theorem dX11_beginHour_84 : decode cX11_beginHour 84 = .ok (.iaload, 1) := by decide +kernel
theorem dX11_beginHour_85 : decode cX11_beginHour 85 = .ok (.istore_n 3, 1) := by decide +kernel
theorem dX11_beginHour_86 : decode cX11_beginHour 86 = .ok (.iload_n 3, 1) := by decide +kernel
theorem dX11_beginHour_87 : decode cX11_beginHour 87 = .ok (.sipush 10000, 3) := by decide +kernel
theorem dX11_beginHour_90 : decode cX11_beginHour 90 = .ok (.if_icmp .lt 27, 3) := by decide +kernel
theorem dX11_beginHour_93 : decode cX11_beginHour 93 = .ok (.iload_n 3, 1) := by decide +kernel
theorem dX11_beginHour_94 : decode cX11_beginHour 94 = .ok (.bipush 100, 2) := by decide +kernel
theorem dX11_beginHour_96 : decode cX11_beginHour 96 = .ok (.irem, 1) := by decide +kernel
theorem dX11_beginHour_97 : decode cX11_beginHour 97 = .ok (.iload_n 1, 1) := by decide +kernel
theorem dX11_beginHour_98 : decode cX11_beginHour 98 = .ok (.if_icmp .ne 19, 3) := by decide +kernel
theorem dX11_beginHour_101 : decode cX11_beginHour 101 = .ok (.aload_n 0, 1) := by decide +kernel
theorem dX11_beginHour_102 : decode cX11_beginHour 102 = .ok (.iload_n 3, 1) := by decide +kernel
theorem dX11_beginHour_103 : decode cX11_beginHour 103 = .ok (.sipush 10000, 3) := by decide +kernel
theorem dX11_beginHour_106 : decode cX11_beginHour 106 = .ok (.idiv, 1) := by decide +kernel
theorem dX11_beginHour_107 : decode cX11_beginHour 107 = .ok (.iload_n 3, 1) := by decide +kernel
theorem dX11_beginHour_108 : decode cX11_beginHour 108 = .ok (.bipush 100, 2) := by decide +kernel
theorem dX11_beginHour_110 : decode cX11_beginHour 110 = .ok (.idiv, 1) := by decide +kernel
theorem dX11_beginHour_111 : decode cX11_beginHour 111 = .ok (.bipush 100, 2) := by decide +kernel
theorem dX11_beginHour_113 : decode cX11_beginHour 113 = .ok (.irem, 1) := by decide +kernel
theorem dX11_beginHour_114 : decode cX11_beginHour 114 = .ok (.invokevirtual 290, 3) := by decide +kernel
theorem dX11_beginHour_117 : decode cX11_beginHour 117 = .ok (.iinc 2 1, 3) := by decide +kernel
theorem dX11_beginHour_120 : decode cX11_beginHour 120 = .ok (.goto (-55), 3) := by decide +kernel
theorem dX11_beginHour_123 : decode cX11_beginHour 123 = .ok (.iconst 0, 1) := by decide +kernel
theorem dX11_beginHour_124 : decode cX11_beginHour 124 = .ok (.istore_n 2, 1) := by decide +kernel
theorem dX11_beginHour_125 : decode cX11_beginHour 125 = .ok (.iload_n 2, 1) := by decide +kernel
theorem dX11_beginHour_126 : decode cX11_beginHour 126 = .ok (.aload_n 0, 1) := by decide +kernel
theorem dX11_beginHour_127 : decode cX11_beginHour 127 = .ok (.getfield 267, 3) := by decide +kernel
theorem dX11_beginHour_130 : decode cX11_beginHour 130 = .ok (.if_icmp .ge 29, 3) := by decide +kernel
theorem dX11_beginHour_133 : decode cX11_beginHour 133 = .ok (.iload_n 1, 1) := by decide +kernel
theorem dX11_beginHour_134 : decode cX11_beginHour 134 = .ok (.ifCond .ne 25, 3) := by decide +kernel
theorem dX11_beginHour_137 : decode cX11_beginHour 137 = .ok (.aload_n 0, 1) := by decide +kernel
theorem dX11_beginHour_138 : decode cX11_beginHour 138 = .ok (.aload_n 0, 1) := by decide +kernel
theorem dX11_beginHour_139 : decode cX11_beginHour 139 = .ok (.getfield 49, 3) := by decide +kernel
theorem dX11_beginHour_142 : decode cX11_beginHour 142 = .ok (.iload_n 2, 1) := by decide +kernel
theorem dX11_beginHour_143 : decode cX11_beginHour 143 = .ok (.iaload, 1) := by decide +kernel
theorem dX11_beginHour_144 : decode cX11_beginHour 144 = .ok (.aload_n 0, 1) := by decide +kernel
theorem dX11_beginHour_145 : decode cX11_beginHour 145 = .ok (.getfield 46, 3) := by decide +kernel
theorem dX11_beginHour_148 : decode cX11_beginHour 148 = .ok (.iload_n 2, 1) := by decide +kernel
theorem dX11_beginHour_149 : decode cX11_beginHour 149 = .ok (.iaload, 1) := by decide +kernel
theorem dX11_beginHour_150 : decode cX11_beginHour 150 = .ok (.invokevirtual 290, 3) := by decide +kernel
theorem dX11_beginHour_153 : decode cX11_beginHour 153 = .ok (.iinc 2 1, 3) := by decide +kernel
theorem dX11_beginHour_156 : decode cX11_beginHour 156 = .ok (.goto (-31), 3) := by decide +kernel
theorem dX11_beginHour_159 : decode cX11_beginHour 159 = .ok (.iconst 0, 1) := by decide +kernel
theorem dX11_beginHour_160 : decode cX11_beginHour 160 = .ok (.istore_n 2, 1) := by decide +kernel
theorem dX11_beginHour_161 : decode cX11_beginHour 161 = .ok (.iload_n 2, 1) := by decide +kernel
theorem dX11_beginHour_162 : decode cX11_beginHour 162 = .ok (.aload_n 0, 1) := by decide +kernel
theorem dX11_beginHour_163 : decode cX11_beginHour 163 = .ok (.getfield 9, 3) := by decide +kernel
theorem dX11_beginHour_166 : decode cX11_beginHour 166 = .ok (.bipush 6, 2) := by decide +kernel
theorem dX11_beginHour_168 : decode cX11_beginHour 168 = .ok (.iaload, 1) := by decide +kernel
theorem dX11_beginHour_169 : decode cX11_beginHour 169 = .ok (.if_icmp .ge 41, 3) := by decide +kernel
theorem dX11_beginHour_172 : decode cX11_beginHour 172 = .ok (.aload_n 0, 1) := by decide +kernel
theorem dX11_beginHour_173 : decode cX11_beginHour 173 = .ok (.getfield 9, 3) := by decide +kernel
theorem dX11_beginHour_176 : decode cX11_beginHour 176 = .ok (.bipush 61, 2) := by decide +kernel
theorem dX11_beginHour_178 : decode cX11_beginHour 178 = .ok (.iconst 2, 1) := by decide +kernel
theorem dX11_beginHour_179 : decode cX11_beginHour 179 = .ok (.iload_n 2, 1) := by decide +kernel
theorem dX11_beginHour_180 : decode cX11_beginHour 180 = .ok (.imul, 1) := by decide +kernel
theorem dX11_beginHour_181 : decode cX11_beginHour 181 = .ok (.iadd, 1) := by decide +kernel
theorem dX11_beginHour_182 : decode cX11_beginHour 182 = .ok (.iconst 1, 1) := by decide +kernel
theorem dX11_beginHour_183 : decode cX11_beginHour 183 = .ok (.iadd, 1) := by decide +kernel
theorem dX11_beginHour_184 : decode cX11_beginHour 184 = .ok (.iaload, 1) := by decide +kernel
theorem dX11_beginHour_185 : decode cX11_beginHour 185 = .ok (.iload_n 1, 1) := by decide +kernel
theorem dX11_beginHour_186 : decode cX11_beginHour 186 = .ok (.if_icmp .ne 18, 3) := by decide +kernel
theorem dX11_beginHour_189 : decode cX11_beginHour 189 = .ok (.aload_n 0, 1) := by decide +kernel
theorem dX11_beginHour_190 : decode cX11_beginHour 190 = .ok (.aload_n 0, 1) := by decide +kernel
theorem dX11_beginHour_191 : decode cX11_beginHour 191 = .ok (.getfield 9, 3) := by decide +kernel
theorem dX11_beginHour_194 : decode cX11_beginHour 194 = .ok (.bipush 61, 2) := by decide +kernel
theorem dX11_beginHour_196 : decode cX11_beginHour 196 = .ok (.iconst 2, 1) := by decide +kernel
theorem dX11_beginHour_197 : decode cX11_beginHour 197 = .ok (.iload_n 2, 1) := by decide +kernel
theorem dX11_beginHour_198 : decode cX11_beginHour 198 = .ok (.imul, 1) := by decide +kernel
theorem dX11_beginHour_199 : decode cX11_beginHour 199 = .ok (.iadd, 1) := by decide +kernel
theorem dX11_beginHour_200 : decode cX11_beginHour 200 = .ok (.iaload, 1) := by decide +kernel
theorem dX11_beginHour_201 : decode cX11_beginHour 201 = .ok (.invokevirtual 293, 3) := by decide +kernel
theorem dX11_beginHour_204 : decode cX11_beginHour 204 = .ok (.iinc 2 1, 3) := by decide +kernel
theorem dX11_beginHour_207 : decode cX11_beginHour 207 = .ok (.goto (-46), 3) := by decide +kernel
theorem dX11_beginHour_210 : decode cX11_beginHour 210 = .ok (.iconst 0, 1) := by decide +kernel
theorem dX11_beginHour_211 : decode cX11_beginHour 211 = .ok (.istore_n 2, 1) := by decide +kernel
theorem dX11_beginHour_212 : decode cX11_beginHour 212 = .ok (.iload_n 2, 1) := by decide +kernel
theorem dX11_beginHour_213 : decode cX11_beginHour 213 = .ok (.aload_n 0, 1) := by decide +kernel
theorem dX11_beginHour_214 : decode cX11_beginHour 214 = .ok (.getfield 9, 3) := by decide +kernel
theorem dX11_beginHour_217 : decode cX11_beginHour 217 = .ok (.bipush 7, 2) := by decide +kernel
theorem dX11_beginHour_219 : decode cX11_beginHour 219 = .ok (.iaload, 1) := by decide +kernel
theorem dX11_beginHour_220 : decode cX11_beginHour 220 = .ok (.if_icmp .ge 42, 3) := by decide +kernel
theorem dX11_beginHour_223 : decode cX11_beginHour 223 = .ok (.aload_n 0, 1) := by decide +kernel
theorem dX11_beginHour_224 : decode cX11_beginHour 224 = .ok (.getfield 9, 3) := by decide +kernel
theorem dX11_beginHour_227 : decode cX11_beginHour 227 = .ok (.bipush 69, 2) := by decide +kernel
theorem dX11_beginHour_229 : decode cX11_beginHour 229 = .ok (.iload_n 2, 1) := by decide +kernel
theorem dX11_beginHour_230 : decode cX11_beginHour 230 = .ok (.iadd, 1) := by decide +kernel
theorem dX11_beginHour_231 : decode cX11_beginHour 231 = .ok (.iaload, 1) := by decide +kernel
theorem dX11_beginHour_232 : decode cX11_beginHour 232 = .ok (.istore_n 3, 1) := by decide +kernel
theorem dX11_beginHour_233 : decode cX11_beginHour 233 = .ok (.iload_n 3, 1) := by decide +kernel
theorem dX11_beginHour_234 : decode cX11_beginHour 234 = .ok (.sipush 10000, 3) := by decide +kernel
theorem dX11_beginHour_237 : decode cX11_beginHour 237 = .ok (.if_icmp .ge 19, 3) := by decide +kernel
theorem dX11_beginHour_240 : decode cX11_beginHour 240 = .ok (.iload_n 3, 1) := by decide +kernel
theorem dX11_beginHour_241 : decode cX11_beginHour 241 = .ok (.bipush 100, 2) := by decide +kernel
theorem dX11_beginHour_243 : decode cX11_beginHour 243 = .ok (.irem, 1) := by decide +kernel
theorem dX11_beginHour_244 : decode cX11_beginHour 244 = .ok (.iload_n 1, 1) := by decide +kernel
theorem dX11_beginHour_245 : decode cX11_beginHour 245 = .ok (.if_icmp .ne 11, 3) := by decide +kernel
theorem dX11_beginHour_248 : decode cX11_beginHour 248 = .ok (.aload_n 0, 1) := by decide +kernel
theorem dX11_beginHour_249 : decode cX11_beginHour 249 = .ok (.iload_n 3, 1) := by decide +kernel
theorem dX11_beginHour_250 : decode cX11_beginHour 250 = .ok (.bipush 100, 2) := by decide +kernel
theorem dX11_beginHour_252 : decode cX11_beginHour 252 = .ok (.idiv, 1) := by decide +kernel
theorem dX11_beginHour_253 : decode cX11_beginHour 253 = .ok (.invokevirtual 293, 3) := by decide +kernel
theorem dX11_beginHour_256 : decode cX11_beginHour 256 = .ok (.iinc 2 1, 3) := by decide +kernel
theorem dX11_beginHour_259 : decode cX11_beginHour 259 = .ok (.goto (-47), 3) := by decide +kernel
theorem dX11_beginHour_262 : decode cX11_beginHour 262 = .ok (.return_, 1) := by decide +kernel
theorem dX11_passOn_0 : decode cX11_passOn 0 = .ok (.aload_n 0, 1) := by decide +kernel
theorem dX11_passOn_1 : decode cX11_passOn 1 = .ok (.getfield 284, 3) := by decide +kernel
theorem dX11_passOn_4 : decode cX11_passOn 4 = .ok (.istore_n 2, 1) := by decide +kernel
theorem dX11_passOn_5 : decode cX11_passOn 5 = .ok (.aload_n 0, 1) := by decide +kernel
theorem dX11_passOn_6 : decode cX11_passOn 6 = .ok (.getfield 287, 3) := by decide +kernel
theorem dX11_passOn_9 : decode cX11_passOn 9 = .ok (.istore_n 3, 1) := by decide +kernel
theorem dX11_passOn_10 : decode cX11_passOn 10 = .ok (.iconst 0, 1) := by decide +kernel
theorem dX11_passOn_11 : decode cX11_passOn 11 = .ok (.istore 4, 2) := by decide +kernel
theorem dX11_passOn_13 : decode cX11_passOn 13 = .ok (.iload 4, 2) := by decide +kernel
theorem dX11_passOn_15 : decode cX11_passOn 15 = .ok (.aload_n 0, 1) := by decide +kernel
theorem dX11_passOn_16 : decode cX11_passOn 16 = .ok (.invokevirtual 95, 3) := by decide +kernel
theorem dX11_passOn_19 : decode cX11_passOn 19 = .ok (.if_icmp .ge 165, 3) := by decide +kernel
theorem dX11_passOn_22 : decode cX11_passOn 22 = .ok (.aload_n 0, 1) := by decide +kernel
theorem dX11_passOn_23 : decode cX11_passOn 23 = .ok (.getfield 281, 3) := by decide +kernel
theorem dX11_passOn_26 : decode cX11_passOn 26 = .ok (.iload 4, 2) := by decide +kernel
theorem dX11_passOn_28 : decode cX11_passOn 28 = .ok (.invokestatic 274, 3) := by decide +kernel
theorem dX11_passOn_31 : decode cX11_passOn 31 = .ok (.ifCond .ne 49, 3) := by decide +kernel
theorem dX11_passOn_34 : decode cX11_passOn 34 = .ok (.aload_n 0, 1) := by decide +kernel
theorem dX11_passOn_35 : decode cX11_passOn 35 = .ok (.getfield 270, 3) := by decide +kernel
theorem dX11_passOn_38 : decode cX11_passOn 38 = .ok (.ifCond .ne 13, 3) := by decide +kernel
theorem dX11_passOn_41 : decode cX11_passOn 41 = .ok (.iload_n 1, 1) := by decide +kernel
theorem dX11_passOn_42 : decode cX11_passOn 42 = .ok (.aload_n 0, 1) := by decide +kernel
theorem dX11_passOn_43 : decode cX11_passOn 43 = .ok (.iload 4, 2) := by decide +kernel
theorem dX11_passOn_45 : decode cX11_passOn 45 = .ok (.invokevirtual 249, 3) := by decide +kernel
theorem dX11_passOn_48 : decode cX11_passOn 48 = .ok (.if_icmp .lt 32, 3) := by decide +kernel
theorem dX11_passOn_51 : decode cX11_passOn 51 = .ok (.aload_n 0, 1) := by decide +kernel
theorem dX11_passOn_52 : decode cX11_passOn 52 = .ok (.getfield 261, 3) := by decide +kernel
theorem dX11_passOn_55 : decode cX11_passOn 55 = .ok (.iconst 2, 1) := by decide +kernel
theorem dX11_passOn_56 : decode cX11_passOn 56 = .ok (.if_icmp .ne 20, 3) := by decide +kernel
theorem dX11_passOn_59 : decode cX11_passOn 59 = .ok (.aload_n 0, 1) := by decide +kernel
theorem dX11_passOn_60 : decode cX11_passOn 60 = .ok (.getfield 284, 3) := by decide +kernel
theorem dX11_passOn_63 : decode cX11_passOn 63 = .ok (.aload_n 0, 1) := by decide +kernel
theorem dX11_passOn_64 : decode cX11_passOn 64 = .ok (.getfield 287, 3) := by decide +kernel
theorem dX11_passOn_67 : decode cX11_passOn 67 = .ok (.ior, 1) := by decide +kernel
theorem dX11_passOn_68 : decode cX11_passOn 68 = .ok (.iload 4, 2) := by decide +kernel
theorem dX11_passOn_70 : decode cX11_passOn 70 = .ok (.invokestatic 274, 3) := by decide +kernel
theorem dX11_passOn_73 : decode cX11_passOn 73 = .ok (.ifCond .ne 7, 3) := by decide +kernel
theorem dX11_passOn_76 : decode cX11_passOn 76 = .ok (.iconst 1, 1) := by decide +kernel
theorem dX11_passOn_77 : decode cX11_passOn 77 = .ok (.goto 4, 3) := by decide +kernel
theorem dX11_passOn_80 : decode cX11_passOn 80 = .ok (.iconst 0, 1) := by decide +kernel
theorem dX11_passOn_81 : decode cX11_passOn 81 = .ok (.istore 5, 2) := by decide +kernel
theorem dX11_passOn_83 : decode cX11_passOn 83 = .ok (.aload_n 0, 1) := by decide +kernel
theorem dX11_passOn_84 : decode cX11_passOn 84 = .ok (.iload 4, 2) := by decide +kernel
theorem dX11_passOn_86 : decode cX11_passOn 86 = .ok (.aload_n 0, 1) := by decide +kernel
theorem dX11_passOn_87 : decode cX11_passOn 87 = .ok (.getfield 284, 3) := by decide +kernel
theorem dX11_passOn_90 : decode cX11_passOn 90 = .ok (.aload_n 0, 1) := by decide +kernel
theorem dX11_passOn_91 : decode cX11_passOn 91 = .ok (.getfield 287, 3) := by decide +kernel
theorem dX11_passOn_94 : decode cX11_passOn 94 = .ok (.invokevirtual 299, 3) := by decide +kernel
theorem dX11_passOn_97 : decode cX11_passOn 97 = .ok (.istore 6, 2) := by decide +kernel
theorem dX11_passOn_99 : decode cX11_passOn 99 = .ok (.iload 5, 2) := by decide +kernel
theorem dX11_passOn_101 : decode cX11_passOn 101 = .ok (.ifCond .eq 77, 3) := by decide +kernel
theorem dX11_passOn_104 : decode cX11_passOn 104 = .ok (.iload 6, 2) := by decide +kernel
theorem dX11_passOn_106 : decode cX11_passOn 106 = .ok (.aload_n 0, 1) := by decide +kernel
theorem dX11_passOn_107 : decode cX11_passOn 107 = .ok (.getfield 43, 3) := by decide +kernel
theorem dX11_passOn_110 : decode cX11_passOn 110 = .ok (.iload 4, 2) := by decide +kernel
theorem dX11_passOn_112 : decode cX11_passOn 112 = .ok (.iaload, 1) := by decide +kernel
theorem dX11_passOn_113 : decode cX11_passOn 113 = .ok (.if_icmp .ge 19, 3) := by decide +kernel
theorem dX11_passOn_116 : decode cX11_passOn 116 = .ok (.iload 6, 2) := by decide +kernel
theorem dX11_passOn_118 : decode cX11_passOn 118 = .ok (.ineg, 1) := by decide +kernel
theorem dX11_passOn_119 : decode cX11_passOn 119 = .ok (.aload_n 0, 1) := by decide +kernel
theorem dX11_passOn_120 : decode cX11_passOn 120 = .ok (.getfield 43, 3) := by decide +kernel
theorem dX11_passOn_123 : decode cX11_passOn 123 = .ok (.iload 4, 2) := by decide +kernel
theorem dX11_passOn_125 : decode cX11_passOn 125 = .ok (.iaload, 1) := by decide +kernel
theorem dX11_passOn_126 : decode cX11_passOn 126 = .ok (.if_icmp .ge 6, 3) := by decide +kernel
theorem dX11_passOn_129 : decode cX11_passOn 129 = .ok (.goto 49, 3) := by decide +kernel
theorem dX11_passOn_132 : decode cX11_passOn 132 = .ok (.iload 6, 2) := by decide +kernel
theorem dX11_passOn_134 : decode cX11_passOn 134 = .ok (.ifCond .le 12, 3) := by decide +kernel
theorem dX11_passOn_137 : decode cX11_passOn 137 = .ok (.iload_n 2, 1) := by decide +kernel
theorem dX11_passOn_138 : decode cX11_passOn 138 = .ok (.iconst 1, 1) := by decide +kernel
theorem dX11_passOn_139 : decode cX11_passOn 139 = .ok (.iload 4, 2) := by decide +kernel
theorem dX11_passOn_141 : decode cX11_passOn 141 = .ok (.ishl, 1) := by decide +kernel
theorem dX11_passOn_142 : decode cX11_passOn 142 = .ok (.ior, 1) := by decide +kernel
theorem dX11_passOn_143 : decode cX11_passOn 143 = .ok (.goto 11, 3) := by decide +kernel
theorem dX11_passOn_146 : decode cX11_passOn 146 = .ok (.iload_n 2, 1) := by decide +kernel
theorem dX11_passOn_147 : decode cX11_passOn 147 = .ok (.iconst 1, 1) := by decide +kernel
theorem dX11_passOn_148 : decode cX11_passOn 148 = .ok (.iload 4, 2) := by decide +kernel
theorem dX11_passOn_150 : decode cX11_passOn 150 = .ok (.ishl, 1) := by decide +kernel
theorem dX11_passOn_151 : decode cX11_passOn 151 = .ok (.iconst (-1), 1) := by decide +kernel
theorem dX11_passOn_152 : decode cX11_passOn 152 = .ok (.ixor, 1) := by decide +kernel
theorem dX11_passOn_153 : decode cX11_passOn 153 = .ok (.iand, 1) := by decide +kernel
theorem dX11_passOn_154 : decode cX11_passOn 154 = .ok (.istore_n 2, 1) := by decide +kernel
theorem dX11_passOn_155 : decode cX11_passOn 155 = .ok (.iload 6, 2) := by decide +kernel
theorem dX11_passOn_157 : decode cX11_passOn 157 = .ok (.ifCond .ge 12, 3) := by decide +kernel
theorem dX11_passOn_160 : decode cX11_passOn 160 = .ok (.iload_n 3, 1) := by decide +kernel
theorem dX11_passOn_161 : decode cX11_passOn 161 = .ok (.iconst 1, 1) := by decide +kernel
theorem dX11_passOn_162 : decode cX11_passOn 162 = .ok (.iload 4, 2) := by decide +kernel
theorem dX11_passOn_164 : decode cX11_passOn 164 = .ok (.ishl, 1) := by decide +kernel
theorem dX11_passOn_165 : decode cX11_passOn 165 = .ok (.ior, 1) := by decide +kernel
theorem dX11_passOn_166 : decode cX11_passOn 166 = .ok (.goto 11, 3) := by decide +kernel
theorem dX11_passOn_169 : decode cX11_passOn 169 = .ok (.iload_n 3, 1) := by decide +kernel
theorem dX11_passOn_170 : decode cX11_passOn 170 = .ok (.iconst 1, 1) := by decide +kernel
theorem dX11_passOn_171 : decode cX11_passOn 171 = .ok (.iload 4, 2) := by decide +kernel
theorem dX11_passOn_173 : decode cX11_passOn 173 = .ok (.ishl, 1) := by decide +kernel
theorem dX11_passOn_174 : decode cX11_passOn 174 = .ok (.iconst (-1), 1) := by decide +kernel
theorem dX11_passOn_175 : decode cX11_passOn 175 = .ok (.ixor, 1) := by decide +kernel
theorem dX11_passOn_176 : decode cX11_passOn 176 = .ok (.iand, 1) := by decide +kernel
theorem dX11_passOn_177 : decode cX11_passOn 177 = .ok (.istore_n 3, 1) := by decide +kernel
theorem dX11_passOn_178 : decode cX11_passOn 178 = .ok (.iinc 4 1, 3) := by decide +kernel
theorem dX11_passOn_181 : decode cX11_passOn 181 = .ok (.goto (-168), 3) := by decide +kernel
theorem dX11_passOn_184 : decode cX11_passOn 184 = .ok (.aload_n 0, 1) := by decide +kernel
theorem dX11_passOn_185 : decode cX11_passOn 185 = .ok (.iload_n 2, 1) := by decide +kernel
theorem dX11_passOn_186 : decode cX11_passOn 186 = .ok (.putfield 284, 3) := by decide +kernel
theorem dX11_passOn_189 : decode cX11_passOn 189 = .ok (.aload_n 0, 1) := by decide +kernel
theorem dX11_passOn_190 : decode cX11_passOn 190 = .ok (.iload_n 3, 1) := by decide +kernel
theorem dX11_passOn_191 : decode cX11_passOn 191 = .ok (.putfield 287, 3) := by decide +kernel
theorem dX11_passOn_194 : decode cX11_passOn 194 = .ok (.return_, 1) := by decide +kernel
theorem dX11_goAll_0 : decode cX11_goAll 0 = .ok (.aload_n 0, 1) := by decide +kernel
theorem dX11_goAll_1 : decode cX11_goAll 1 = .ok (.iconst 0, 1) := by decide +kernel
theorem dX11_goAll_2 : decode cX11_goAll 2 = .ok (.putfield 284, 3) := by decide +kernel
theorem dX11_goAll_5 : decode cX11_goAll 5 = .ok (.aload_n 0, 1) := by decide +kernel
theorem dX11_goAll_6 : decode cX11_goAll 6 = .ok (.iconst 0, 1) := by decide +kernel
theorem dX11_goAll_7 : decode cX11_goAll 7 = .ok (.putfield 287, 3) := by decide +kernel
theorem dX11_goAll_10 : decode cX11_goAll 10 = .ok (.aload_n 0, 1) := by decide +kernel
theorem dX11_goAll_11 : decode cX11_goAll 11 = .ok (.iconst 0, 1) := by decide +kernel
theorem dX11_goAll_12 : decode cX11_goAll 12 = .ok (.putfield 281, 3) := by decide +kernel
theorem dX11_goAll_15 : decode cX11_goAll 15 = .ok (.iconst 0, 1) := by decide +kernel
theorem dX11_goAll_16 : decode cX11_goAll 16 = .ok (.istore_n 1, 1) := by decide +kernel
theorem dX11_goAll_17 : decode cX11_goAll 17 = .ok (.iload_n 1, 1) := by decide +kernel
theorem dX11_goAll_18 : decode cX11_goAll 18 = .ok (.aload_n 0, 1) := by decide +kernel
theorem dX11_goAll_19 : decode cX11_goAll 19 = .ok (.invokevirtual 103, 3) := by decide +kernel
theorem dX11_goAll_22 : decode cX11_goAll 22 = .ok (.if_icmp .gt 60, 3) := by decide +kernel
theorem dX11_goAll_25 : decode cX11_goAll 25 = .ok (.aload_n 0, 1) := by decide +kernel
theorem dX11_goAll_26 : decode cX11_goAll 26 = .ok (.iload_n 1, 1) := by decide +kernel
theorem dX11_goAll_27 : decode cX11_goAll 27 = .ok (.invokevirtual 303, 3) := by decide +kernel
theorem dX11_goAll_30 : decode cX11_goAll 30 = .ok (.aload_n 0, 1) := by decide +kernel
theorem dX11_goAll_31 : decode cX11_goAll 31 = .ok (.getfield 52, 3) := by decide +kernel
theorem dX11_goAll_34 : decode cX11_goAll 34 = .ok (.iload_n 1, 1) := by decide +kernel
theorem dX11_goAll_35 : decode cX11_goAll 35 = .ok (.aload_n 0, 1) := by decide +kernel
theorem dX11_goAll_36 : decode cX11_goAll 36 = .ok (.getfield 284, 3) := by decide +kernel
theorem dX11_goAll_39 : decode cX11_goAll 39 = .ok (.iastore, 1) := by decide +kernel
theorem dX11_goAll_40 : decode cX11_goAll 40 = .ok (.aload_n 0, 1) := by decide +kernel
theorem dX11_goAll_41 : decode cX11_goAll 41 = .ok (.getfield 55, 3) := by decide +kernel
theorem dX11_goAll_44 : decode cX11_goAll 44 = .ok (.iload_n 1, 1) := by decide +kernel
theorem dX11_goAll_45 : decode cX11_goAll 45 = .ok (.aload_n 0, 1) := by decide +kernel
theorem dX11_goAll_46 : decode cX11_goAll 46 = .ok (.getfield 287, 3) := by decide +kernel
theorem dX11_goAll_49 : decode cX11_goAll 49 = .ok (.iastore, 1) := by decide +kernel
theorem dX11_goAll_50 : decode cX11_goAll 50 = .ok (.aload_n 0, 1) := by decide +kernel
theorem dX11_goAll_51 : decode cX11_goAll 51 = .ok (.getfield 58, 3) := by decide +kernel
theorem dX11_goAll_54 : decode cX11_goAll 54 = .ok (.iload_n 1, 1) := by decide +kernel
theorem dX11_goAll_55 : decode cX11_goAll 55 = .ok (.aload_n 0, 1) := by decide +kernel
theorem dX11_goAll_56 : decode cX11_goAll 56 = .ok (.getfield 281, 3) := by decide +kernel
theorem dX11_goAll_59 : decode cX11_goAll 59 = .ok (.iastore, 1) := by decide +kernel
theorem dX11_goAll_60 : decode cX11_goAll 60 = .ok (.aload_n 0, 1) := by decide +kernel
theorem dX11_goAll_61 : decode cX11_goAll 61 = .ok (.getfield 264, 3) := by decide +kernel
theorem dX11_goAll_64 : decode cX11_goAll 64 = .ok (.iload_n 1, 1) := by decide +kernel
theorem dX11_goAll_65 : decode cX11_goAll 65 = .ok (.invokestatic 274, 3) := by decide +kernel
theorem dX11_goAll_68 : decode cX11_goAll 68 = .ok (.ifCond .ne 8, 3) := by decide +kernel
theorem dX11_goAll_71 : decode cX11_goAll 71 = .ok (.aload_n 0, 1) := by decide +kernel
theorem dX11_goAll_72 : decode cX11_goAll 72 = .ok (.iload_n 1, 1) := by decide +kernel
theorem dX11_goAll_73 : decode cX11_goAll 73 = .ok (.invokevirtual 306, 3) := by decide +kernel
theorem dX11_goAll_76 : decode cX11_goAll 76 = .ok (.iinc 1 1, 3) := by decide +kernel
theorem dX11_goAll_79 : decode cX11_goAll 79 = .ok (.goto (-62), 3) := by decide +kernel
theorem dX11_goAll_82 : decode cX11_goAll 82 = .ok (.return_, 1) := by decide +kernel
theorem dX11_asksGarden_0 : decode cX11_asksGarden 0 = .ok (.aload_n 0, 1) := by decide +kernel
theorem dX11_asksGarden_1 : decode cX11_asksGarden 1 = .ok (.invokevirtual 309, 3) := by decide +kernel
theorem dX11_asksGarden_4 : decode cX11_asksGarden 4 = .ok (.aload_n 0, 1) := by decide +kernel
theorem dX11_asksGarden_5 : decode cX11_asksGarden 5 = .ok (.invokevirtual 312, 3) := by decide +kernel
theorem dX11_asksGarden_8 : decode cX11_asksGarden 8 = .ok (.aload_n 0, 1) := by decide +kernel
theorem dX11_asksGarden_9 : decode cX11_asksGarden 9 = .ok (.invokevirtual 99, 3) := by decide +kernel
theorem dX11_asksGarden_12 : decode cX11_asksGarden 12 = .ok (.ireturn, 1) := by decide +kernel
theorem dX11_asksHour_0 : decode cX11_asksHour 0 = .ok (.aload_n 0, 1) := by decide +kernel
theorem dX11_asksHour_1 : decode cX11_asksHour 1 = .ok (.invokevirtual 315, 3) := by decide +kernel
theorem dX11_asksHour_4 : decode cX11_asksHour 4 = .ok (.pop, 1) := by decide +kernel
theorem dX11_asksHour_5 : decode cX11_asksHour 5 = .ok (.aload_n 0, 1) := by decide +kernel
theorem dX11_asksHour_6 : decode cX11_asksHour 6 = .ok (.iload_n 1, 1) := by decide +kernel
theorem dX11_asksHour_7 : decode cX11_asksHour 7 = .ok (.i2l, 1) := by decide +kernel
theorem dX11_asksHour_8 : decode cX11_asksHour 8 = .ok (.invokevirtual 318, 3) := by decide +kernel
theorem dX11_asksHour_11 : decode cX11_asksHour 11 = .ok (.ireturn, 1) := by decide +kernel
theorem dX11_asksHead_0 : decode cX11_asksHead 0 = .ok (.aload_n 0, 1) := by decide +kernel
theorem dX11_asksHead_1 : decode cX11_asksHead 1 = .ok (.invokevirtual 315, 3) := by decide +kernel
theorem dX11_asksHead_4 : decode cX11_asksHead 4 = .ok (.pop, 1) := by decide +kernel
theorem dX11_asksHead_5 : decode cX11_asksHead 5 = .ok (.aload_n 0, 1) := by decide +kernel
theorem dX11_asksHead_6 : decode cX11_asksHead 6 = .ok (.iload_n 1, 1) := by decide +kernel
theorem dX11_asksHead_7 : decode cX11_asksHead 7 = .ok (.i2l, 1) := by decide +kernel
theorem dX11_asksHead_8 : decode cX11_asksHead 8 = .ok (.invokevirtual 237, 3) := by decide +kernel
theorem dX11_asksHead_11 : decode cX11_asksHead 11 = .ok (.ireturn, 1) := by decide +kernel
theorem dX11_areTwo_0 : decode cX11_areTwo 0 = .ok (.aload_n 0, 1) := by decide +kernel
theorem dX11_areTwo_1 : decode cX11_areTwo 1 = .ok (.iload_n 1, 1) := by decide +kernel
theorem dX11_areTwo_2 : decode cX11_areTwo 2 = .ok (.i2l, 1) := by decide +kernel
theorem dX11_areTwo_3 : decode cX11_areTwo 3 = .ok (.invokevirtual 237, 3) := by decide +kernel
theorem dX11_areTwo_6 : decode cX11_areTwo 6 = .ok (.ifCond .eq 21, 3) := by decide +kernel
theorem dX11_areTwo_9 : decode cX11_areTwo 9 = .ok (.aload_n 0, 1) := by decide +kernel
theorem dX11_areTwo_10 : decode cX11_areTwo 10 = .ok (.iload_n 2, 1) := by decide +kernel
theorem dX11_areTwo_11 : decode cX11_areTwo 11 = .ok (.i2l, 1) := by decide +kernel
theorem dX11_areTwo_12 : decode cX11_areTwo 12 = .ok (.invokevirtual 237, 3) := by decide +kernel
theorem dX11_areTwo_15 : decode cX11_areTwo 15 = .ok (.ifCond .eq 12, 3) := by decide +kernel
theorem dX11_areTwo_18 : decode cX11_areTwo 18 = .ok (.iload_n 1, 1) := by decide +kernel
theorem dX11_areTwo_19 : decode cX11_areTwo 19 = .ok (.iload_n 2, 1) := by decide +kernel
theorem dX11_areTwo_20 : decode cX11_areTwo 20 = .ok (.if_icmp .eq 7, 3) := by decide +kernel
theorem dX11_areTwo_23 : decode cX11_areTwo 23 = .ok (.iconst 1, 1) := by decide +kernel
theorem dX11_areTwo_24 : decode cX11_areTwo 24 = .ok (.goto 4, 3) := by decide +kernel
theorem dX11_areTwo_27 : decode cX11_areTwo 27 = .ok (.iconst 0, 1) := by decide +kernel
theorem dX11_areTwo_28 : decode cX11_areTwo 28 = .ok (.ireturn, 1) := by decide +kernel
theorem dX11_isWet_0 : decode cX11_isWet 0 = .ok (.aload_n 0, 1) := by decide +kernel
theorem dX11_isWet_1 : decode cX11_isWet 1 = .ok (.invokevirtual 99, 3) := by decide +kernel
theorem dX11_isWet_4 : decode cX11_isWet 4 = .ok (.ifCond .eq 37, 3) := by decide +kernel
theorem dX11_isWet_7 : decode cX11_isWet 7 = .ok (.iload_n 1, 1) := by decide +kernel
theorem dX11_isWet_8 : decode cX11_isWet 8 = .ok (.i2l, 1) := by decide +kernel
theorem dX11_isWet_9 : decode cX11_isWet 9 = .ok (.lconst 0, 1) := by decide +kernel
theorem dX11_isWet_10 : decode cX11_isWet 10 = .ok (.ldc2_w 474, 3) := by decide +kernel
theorem dX11_isWet_13 : decode cX11_isWet 13 = .ok (.invokestatic 91, 3) := by decide +kernel
theorem dX11_isWet_16 : decode cX11_isWet 16 = .ok (.ifCond .eq 25, 3) := by decide +kernel
theorem dX11_isWet_19 : decode cX11_isWet 19 = .ok (.iload_n 1, 1) := by decide +kernel
theorem dX11_isWet_20 : decode cX11_isWet 20 = .ok (.aload_n 0, 1) := by decide +kernel
theorem dX11_isWet_21 : decode cX11_isWet 21 = .ok (.invokevirtual 103, 3) := by decide +kernel
theorem dX11_isWet_24 : decode cX11_isWet 24 = .ok (.if_icmp .ge 17, 3) := by decide +kernel
theorem dX11_isWet_27 : decode cX11_isWet 27 = .ok (.iload_n 2, 1) := by decide +kernel
theorem dX11_isWet_28 : decode cX11_isWet 28 = .ok (.i2l, 1) := by decide +kernel
theorem dX11_isWet_29 : decode cX11_isWet 29 = .ok (.lconst 0, 1) := by decide +kernel
theorem dX11_isWet_30 : decode cX11_isWet 30 = .ok (.lconst 1, 1) := by decide +kernel
theorem dX11_isWet_31 : decode cX11_isWet 31 = .ok (.invokestatic 91, 3) := by decide +kernel
theorem dX11_isWet_34 : decode cX11_isWet 34 = .ok (.ifCond .eq 7, 3) := by decide +kernel
theorem dX11_isWet_37 : decode cX11_isWet 37 = .ok (.iconst 1, 1) := by decide +kernel
theorem dX11_isWet_38 : decode cX11_isWet 38 = .ok (.goto 4, 3) := by decide +kernel
theorem dX11_isWet_41 : decode cX11_isWet 41 = .ok (.iconst 0, 1) := by decide +kernel
theorem dX11_isWet_42 : decode cX11_isWet 42 = .ok (.ireturn, 1) := by decide +kernel
theorem dX11_askSeen_0 : decode cX11_askSeen 0 = .ok (.iload_n 1, 1) := by decide +kernel
theorem dX11_askSeen_1 : decode cX11_askSeen 1 = .ok (.invokestatic 425, 3) := by decide +kernel
theorem dX11_askSeen_4 : decode cX11_askSeen 4 = .ok (.ifCond .eq 10, 3) := by decide +kernel
theorem dX11_askSeen_7 : decode cX11_askSeen 7 = .ok (.aload_n 0, 1) := by decide +kernel
theorem dX11_askSeen_8 : decode cX11_askSeen 8 = .ok (.invokevirtual 99, 3) := by decide +kernel
theorem dX11_askSeen_11 : decode cX11_askSeen 11 = .ok (.ifCond .ne 6, 3) := by decide +kernel
theorem dX11_askSeen_14 : decode cX11_askSeen 14 = .ok (.bipush (-2), 2) := by decide +kernel
theorem dX11_askSeen_16 : decode cX11_askSeen 16 = .ok (.ireturn, 1) := by decide +kernel
theorem dX11_askSeen_17 : decode cX11_askSeen 17 = .ok (.aload_n 0, 1) := by decide +kernel
theorem dX11_askSeen_18 : decode cX11_askSeen 18 = .ok (.getfield 73, 3) := by decide +kernel
theorem dX11_askSeen_21 : decode cX11_askSeen 21 = .ok (.iload_n 1, 1) := by decide +kernel
theorem dX11_askSeen_22 : decode cX11_askSeen 22 = .ok (.iaload, 1) := by decide +kernel
theorem dX11_askSeen_23 : decode cX11_askSeen 23 = .ok (.iconst (-1), 1) := by decide +kernel
theorem dX11_askSeen_24 : decode cX11_askSeen 24 = .ok (.if_icmp .ne 6, 3) := by decide +kernel
theorem dX11_askSeen_27 : decode cX11_askSeen 27 = .ok (.bipush (-6), 2) := by decide +kernel
theorem dX11_askSeen_29 : decode cX11_askSeen 29 = .ok (.ireturn, 1) := by decide +kernel
theorem dX11_askSeen_30 : decode cX11_askSeen 30 = .ok (.aload_n 0, 1) := by decide +kernel
theorem dX11_askSeen_31 : decode cX11_askSeen 31 = .ok (.getfield 73, 3) := by decide +kernel
theorem dX11_askSeen_34 : decode cX11_askSeen 34 = .ok (.iload_n 1, 1) := by decide +kernel
theorem dX11_askSeen_35 : decode cX11_askSeen 35 = .ok (.iaload, 1) := by decide +kernel
theorem dX11_askSeen_36 : decode cX11_askSeen 36 = .ok (.iconst 3, 1) := by decide +kernel
theorem dX11_askSeen_37 : decode cX11_askSeen 37 = .ok (.irem, 1) := by decide +kernel
theorem dX11_askSeen_38 : decode cX11_askSeen 38 = .ok (.ifCond .eq 6, 3) := by decide +kernel
theorem dX11_askSeen_41 : decode cX11_askSeen 41 = .ok (.bipush (-2), 2) := by decide +kernel
theorem dX11_askSeen_43 : decode cX11_askSeen 43 = .ok (.ireturn, 1) := by decide +kernel
theorem dX11_askSeen_44 : decode cX11_askSeen 44 = .ok (.iconst 0, 1) := by decide +kernel
theorem dX11_askSeen_45 : decode cX11_askSeen 45 = .ok (.istore_n 2, 1) := by decide +kernel
theorem dX11_askSeen_46 : decode cX11_askSeen 46 = .ok (.iload_n 2, 1) := by decide +kernel
theorem dX11_askSeen_47 : decode cX11_askSeen 47 = .ok (.aload_n 0, 1) := by decide +kernel
theorem dX11_askSeen_48 : decode cX11_askSeen 48 = .ok (.getfield 73, 3) := by decide +kernel
theorem dX11_askSeen_51 : decode cX11_askSeen 51 = .ok (.iload_n 1, 1) := by decide +kernel
theorem dX11_askSeen_52 : decode cX11_askSeen 52 = .ok (.iaload, 1) := by decide +kernel
theorem dX11_askSeen_53 : decode cX11_askSeen 53 = .ok (.if_icmp .ge 54, 3) := by decide +kernel
theorem dX11_askSeen_56 : decode cX11_askSeen 56 = .ok (.aload_n 0, 1) := by decide +kernel
theorem dX11_askSeen_57 : decode cX11_askSeen 57 = .ok (.aload_n 0, 1) := by decide +kernel
theorem dX11_askSeen_58 : decode cX11_askSeen 58 = .ok (.iload_n 1, 1) := by decide +kernel
theorem dX11_askSeen_59 : decode cX11_askSeen 59 = .ok (.iload_n 2, 1) := by decide +kernel
theorem dX11_askSeen_60 : decode cX11_askSeen 60 = .ok (.invokevirtual 428, 3) := by decide +kernel
theorem dX11_askSeen_63 : decode cX11_askSeen 63 = .ok (.invokevirtual 237, 3) := by decide +kernel
theorem dX11_askSeen_66 : decode cX11_askSeen 66 = .ok (.ifCond .eq 32, 3) := by decide +kernel
theorem dX11_askSeen_69 : decode cX11_askSeen 69 = .ok (.aload_n 0, 1) := by decide +kernel
theorem dX11_askSeen_70 : decode cX11_askSeen 70 = .ok (.aload_n 0, 1) := by decide +kernel
theorem dX11_askSeen_71 : decode cX11_askSeen 71 = .ok (.iload_n 1, 1) := by decide +kernel
theorem dX11_askSeen_72 : decode cX11_askSeen 72 = .ok (.iload_n 2, 1) := by decide +kernel
theorem dX11_askSeen_73 : decode cX11_askSeen 73 = .ok (.iconst 1, 1) := by decide +kernel
theorem dX11_askSeen_74 : decode cX11_askSeen 74 = .ok (.iadd, 1) := by decide +kernel
theorem dX11_askSeen_75 : decode cX11_askSeen 75 = .ok (.invokevirtual 428, 3) := by decide +kernel
theorem dX11_askSeen_78 : decode cX11_askSeen 78 = .ok (.invokevirtual 318, 3) := by decide +kernel
theorem dX11_askSeen_81 : decode cX11_askSeen 81 = .ok (.ifCond .eq 17, 3) := by decide +kernel
theorem dX11_askSeen_84 : decode cX11_askSeen 84 = .ok (.aload_n 0, 1) := by decide +kernel
theorem dX11_askSeen_85 : decode cX11_askSeen 85 = .ok (.iload_n 1, 1) := by decide +kernel
theorem dX11_askSeen_86 : decode cX11_askSeen 86 = .ok (.iload_n 2, 1) := by decide +kernel
theorem dX11_askSeen_87 : decode cX11_askSeen 87 = .ok (.iconst 2, 1) := by decide +kernel
theorem dX11_askSeen_88 : decode cX11_askSeen 88 = .ok (.iadd, 1) := by decide +kernel
theorem dX11_askSeen_89 : decode cX11_askSeen 89 = .ok (.invokevirtual 428, 3) := by decide +kernel
theorem dX11_askSeen_92 : decode cX11_askSeen 92 = .ok (.invokestatic 336, 3) := by decide +kernel
theorem dX11_askSeen_95 : decode cX11_askSeen 95 = .ok (.ifCond .ne 6, 3) := by decide +kernel
theorem dX11_askSeen_98 : decode cX11_askSeen 98 = .ok (.bipush (-2), 2) := by decide +kernel
theorem dX11_askSeen_100 : decode cX11_askSeen 100 = .ok (.ireturn, 1) := by decide +kernel
theorem dX11_askSeen_101 : decode cX11_askSeen 101 = .ok (.iinc 2 3, 3) := by decide +kernel
theorem dX11_askSeen_104 : decode cX11_askSeen 104 = .ok (.goto (-58), 3) := by decide +kernel
theorem dX11_askSeen_107 : decode cX11_askSeen 107 = .ok (.aload_n 0, 1) := by decide +kernel
theorem dX11_askSeen_108 : decode cX11_askSeen 108 = .ok (.invokevirtual 309, 3) := by decide +kernel
theorem dX11_askSeen_111 : decode cX11_askSeen 111 = .ok (.iconst 0, 1) := by decide +kernel
theorem dX11_askSeen_112 : decode cX11_askSeen 112 = .ok (.ireturn, 1) := by decide +kernel
theorem dX11_askWhom_0 : decode cX11_askWhom 0 = .ok (.iload_n 2, 1) := by decide +kernel
theorem dX11_askWhom_1 : decode cX11_askWhom 1 = .ok (.i2l, 1) := by decide +kernel
theorem dX11_askWhom_2 : decode cX11_askWhom 2 = .ok (.invokestatic 348, 3) := by decide +kernel
theorem dX11_askWhom_5 : decode cX11_askWhom 5 = .ok (.ifCond .eq 11, 3) := by decide +kernel
theorem dX11_askWhom_8 : decode cX11_askWhom 8 = .ok (.aload_n 0, 1) := by decide +kernel
theorem dX11_askWhom_9 : decode cX11_askWhom 9 = .ok (.iload_n 1, 1) := by decide +kernel
theorem dX11_askWhom_10 : decode cX11_askWhom 10 = .ok (.invokevirtual 437, 3) := by decide +kernel
theorem dX11_askWhom_13 : decode cX11_askWhom 13 = .ok (.goto 5, 3) := by decide +kernel
theorem dX11_askWhom_16 : decode cX11_askWhom 16 = .ok (.bipush (-2), 2) := by decide +kernel
theorem dX11_askWhom_18 : decode cX11_askWhom 18 = .ok (.ireturn, 1) := by decide +kernel

set_option maxHeartbeats 4000000 in
set_option maxRecDepth 100000 in
theorem ctX11_in0 (l : Launch) (D : va_G) (k : Nat → ClassId) (p0 : Int64) (p1 : Int64) (p2 : Int64) (hlt : p2 < p1) : RO l yX11_in cX11_in 6 (some .boolean) 0 D k [.long p0, .long p1, .long p2] [] (Qi (fun r : Int32 => r = 0)) := by
  refine RO.of (by decide) (Nat.le_of_ble_eq_true rfl) ?_
  intro p e s m below meth c ls A args Q S hr hlk hQ hK hP hDW hA hS hl
  have hx := S.1
  have hb := S.2.1
  have hl : lv_has ls 6 [(0, .long p0), (2, .long p1), (4, .long p2)] := hl
  refine lv_lload_n hx hb dX11_in_0 rfl (lv_at hl 0 rfl) ?_
  refine lv_lload_n hx hb dX11_in_1 rfl (lv_at hl 1 rfl) ?_
  refine W.lcmp hx hb dX11_in_2 ?_
  refine lv_if_lt (tgt := 17) hx hb dX11_in_3 (by decide) (fun c_1 => ?_) (fun c_1 => ?_)
  · skip
    have c_1 : p0 < p1 := (lg_cmp_lt _ _).mp c_1
    refine lv_iconst (v := 0) hx hb dX11_in_17 (by decide) ?_
    exact x_retz S hr hlk hQ hS rfl () rfl x_T dX11_in_18
  · skip
    have c_1 : ¬ p0 < p1 := fun q => c_1 ((lg_cmp_lt _ _).mpr q)
    refine lv_lload_n hx hb dX11_in_6 rfl (lv_at hl 0 rfl) ?_
    refine lv_lload hx hb dX11_in_7 (lv_at hl 2 rfl) ?_
    refine W.lcmp hx hb dX11_in_9 ?_
    refine lv_if_gt (tgt := 17) hx hb dX11_in_10 (by decide) (fun c_2 => ?_) (fun c_2 => ?_)
    · skip
      have c_2 : p2 < p0 := (lg_cmp_gt _ _).mp c_2
      refine lv_iconst (v := 0) hx hb dX11_in_17 (by decide) ?_
      exact x_retz S hr hlk hQ hS rfl () rfl x_T dX11_in_18
    · skip
      have c_2 : ¬ p2 < p0 := fun q => c_2 ((lg_cmp_gt _ _).mpr q)
      refine lv_iconst (v := 1) hx hb dX11_in_13 (by decide) ?_
      refine lv_goto (tgt := 18) hx hb dX11_in_14 (by decide) ?_
      exact x_retz S hr hlk hQ hS rfl () (absurd (Int64.le_trans (Int64.not_lt.mp c_1) (Int64.not_lt.mp c_2)) (Int64.not_le.mpr hlt)) x_T dX11_in_18

set_option maxHeartbeats 4000000 in
set_option maxRecDepth 100000 in
theorem ctX11_in (l : Launch) (D : va_G) (k : Nat → ClassId) (p0 : Int64) (p1 : Int64) (p2 : Int64)  : RO l yX11_in cX11_in 6 (some .boolean) 0 D k [.long p0, .long p1, .long p2] [] (Qi (fun r : Int32 => r = (bo (p1 ≤ p0 ∧ p0 ≤ p2)))) := by
  refine RO.of (by decide) (Nat.le_of_ble_eq_true rfl) ?_
  intro p e s m below meth c ls A args Q S hr hlk hQ hK hP hDW hA hS hl
  have hx := S.1
  have hb := S.2.1
  have hl : lv_has ls 6 [(0, .long p0), (2, .long p1), (4, .long p2)] := hl
  refine lv_lload_n hx hb dX11_in_0 rfl (lv_at hl 0 rfl) ?_
  refine lv_lload_n hx hb dX11_in_1 rfl (lv_at hl 1 rfl) ?_
  refine W.lcmp hx hb dX11_in_2 ?_
  refine lv_if_lt (tgt := 17) hx hb dX11_in_3 (by decide) (fun c_1 => ?_) (fun c_1 => ?_)
  · skip
    have c_1 : p0 < p1 := (lg_cmp_lt _ _).mp c_1
    refine lv_iconst (v := 0) hx hb dX11_in_17 (by decide) ?_
    exact x_retz S hr hlk hQ hS rfl () (bo_f (fun q => absurd q.1 (Int64.not_le.mpr c_1))).symm x_T dX11_in_18
  · skip
    have c_1 : ¬ p0 < p1 := fun q => c_1 ((lg_cmp_lt _ _).mpr q)
    refine lv_lload_n hx hb dX11_in_6 rfl (lv_at hl 0 rfl) ?_
    refine lv_lload hx hb dX11_in_7 (lv_at hl 2 rfl) ?_
    refine W.lcmp hx hb dX11_in_9 ?_
    refine lv_if_gt (tgt := 17) hx hb dX11_in_10 (by decide) (fun c_2 => ?_) (fun c_2 => ?_)
    · skip
      have c_2 : p2 < p0 := (lg_cmp_gt _ _).mp c_2
      refine lv_iconst (v := 0) hx hb dX11_in_17 (by decide) ?_
      exact x_retz S hr hlk hQ hS rfl () (bo_f (fun q => absurd q.2 (Int64.not_le.mpr c_2))).symm x_T dX11_in_18
    · skip
      have c_2 : ¬ p2 < p0 := fun q => c_2 ((lg_cmp_gt _ _).mpr q)
      refine lv_iconst (v := 1) hx hb dX11_in_13 (by decide) ?_
      refine lv_goto (tgt := 18) hx hb dX11_in_14 (by decide) ?_
      exact x_retz S hr hlk hQ hS rfl () (bo_t ⟨Int64.not_lt.mp c_1, Int64.not_lt.mp c_2⟩).symm x_T dX11_in_18

set_option maxHeartbeats 4000000 in
set_option maxRecDepth 100000 in
theorem ctX11_isView (l : Launch) (D : va_G) (k : Nat → ClassId) (p0 : Int64)  : RO l yX11_isView cX11_isView 2 (some .boolean) 1 D k [.long p0] [] (Qi (fun r : Int32 => r = (bo (1 ≤ p0 ∧ p0 ≤ 2)))) := by
  refine RO.of (by decide) (Nat.le_of_ble_eq_true rfl) ?_
  intro p e s m below meth c ls A args Q S hr hlk hQ hK hP hDW hA hS hl
  have hx := S.1
  have hb := S.2.1
  have hl : lv_has ls 2 [(0, .long p0)] := hl
  refine lv_lload_n hx hb dX11_isView_0 rfl (lv_at hl 0 rfl) ?_
  refine lv_lconst (v := 1) hx hb dX11_isView_1 (by decide) ?_
  refine lv_ldc2 hx hb S.2.2.2.1 (S.2.2.2.2 _ lkX11_89) dX11_isView_2 ?_
  refine x_roSi (As := [.long p0, .long 1, .long 2]) S hK hP hS hA hl mwX11_in lkX11_91 (ctX11_in l D k p0 1 2 ) [] rfl D_nil rfl rfl ⟨Nat.le_of_ble_eq_true rfl, Nat.le_of_ble_eq_true rfl, Nat.le_of_ble_eq_true rfl⟩ dX11_isView_5 ⟨Nat.le_of_ble_eq_true rfl, Nat.le_of_ble_eq_true rfl⟩ (fun r_1 H locs hr_1 hP hS => ?_)
  subst hr_1
  exact x_retz S hr hlk hQ hS bo_nar () rfl x_T dX11_isView_8

set_option maxHeartbeats 4000000 in
set_option maxRecDepth 100000 in
theorem ctX11_isAny (l : Launch) (D : va_G) (k : Nat → ClassId) (p0 : Int64)  : RO l yX11_isAny cX11_isAny 2 (some .boolean) 1 D k [.long p0] [] (Qi (fun r : Int32 => r = (bo (0 ≤ p0 ∧ p0 ≤ 2)))) := by
  refine RO.of (by decide) (Nat.le_of_ble_eq_true rfl) ?_
  intro p e s m below meth c ls A args Q S hr hlk hQ hK hP hDW hA hS hl
  have hx := S.1
  have hb := S.2.1
  have hl : lv_has ls 2 [(0, .long p0)] := hl
  refine lv_lload_n hx hb dX11_isAny_0 rfl (lv_at hl 0 rfl) ?_
  refine lv_lconst (v := 0) hx hb dX11_isAny_1 (by decide) ?_
  refine lv_ldc2 hx hb S.2.2.2.1 (S.2.2.2.2 _ lkX11_89) dX11_isAny_2 ?_
  refine x_roSi (As := [.long p0, .long 0, .long 2]) S hK hP hS hA hl mwX11_in lkX11_91 (ctX11_in l D k p0 0 2 ) [] rfl D_nil rfl rfl ⟨Nat.le_of_ble_eq_true rfl, Nat.le_of_ble_eq_true rfl, Nat.le_of_ble_eq_true rfl⟩ dX11_isAny_5 ⟨Nat.le_of_ble_eq_true rfl, Nat.le_of_ble_eq_true rfl⟩ (fun r_1 H locs hr_1 hP hS => ?_)
  subst hr_1
  exact x_retz S hr hlk hQ hS bo_nar () rfl x_T dX11_isAny_8

set_option maxHeartbeats 4000000 in
set_option maxRecDepth 100000 in
theorem ctX11_isSlot (l : Launch) (D : va_G) (k : Nat → ClassId) (p0 : Int32)  : RO l yX11_isSlot cX11_isSlot 1 (some .boolean) 1 D k [.int p0] [] (Qi (fun r : Int32 => r = (bo (0 ≤ p0.toInt64 ∧ p0.toInt64 ≤ 3)))) := by
  refine RO.of (by decide) (Nat.le_of_ble_eq_true rfl) ?_
  intro p e s m below meth c ls A args Q S hr hlk hQ hK hP hDW hA hS hl
  have hx := S.1
  have hb := S.2.1
  have hl : lv_has ls 1 [(0, .int p0)] := hl
  refine lv_iload_n hx hb dX11_isSlot_0 rfl (lv_at hl 0 rfl) ?_
  refine lv_i2l (v := p0.toInt64) hx hb dX11_isSlot_1 rfl ?_
  refine lv_lconst (v := 0) hx hb dX11_isSlot_2 (by decide) ?_
  refine lv_ldc2 hx hb S.2.2.2.1 (S.2.2.2.2 _ lkX11_241) dX11_isSlot_3 ?_
  refine x_roSi (As := [.long (p0.toInt64), .long 0, .long 3]) S hK hP hS hA hl mwX11_in lkX11_91 (ctX11_in l D k (p0.toInt64) 0 3 ) [] rfl D_nil rfl rfl ⟨Nat.le_of_ble_eq_true rfl, Nat.le_of_ble_eq_true rfl, Nat.le_of_ble_eq_true rfl⟩ dX11_isSlot_6 ⟨Nat.le_of_ble_eq_true rfl, Nat.le_of_ble_eq_true rfl⟩ (fun r_1 H locs hr_1 hP hS => ?_)
  subst hr_1
  exact x_retz S hr hlk hQ hS bo_nar () rfl x_T dX11_isSlot_9

set_option maxHeartbeats 4000000 in
set_option maxRecDepth 100000 in
theorem ctX11_isSeed (l : Launch) (D : va_G) (k : Nat → ClassId) (p0 : Int32)  : RO l yX11_isSeed cX11_isSeed 1 (some .boolean) 1 D k [.int p0] [] (Qi (fun r : Int32 => r = (bo (0 ≤ p0.toInt64 ∧ p0.toInt64 ≤ 2000000000)))) := by
  refine RO.of (by decide) (Nat.le_of_ble_eq_true rfl) ?_
  intro p e s m below meth c ls A args Q S hr hlk hQ hK hP hDW hA hS hl
  have hx := S.1
  have hb := S.2.1
  have hl : lv_has ls 1 [(0, .int p0)] := hl
  refine lv_iload_n hx hb dX11_isSeed_0 rfl (lv_at hl 0 rfl) ?_
  refine lv_i2l (v := p0.toInt64) hx hb dX11_isSeed_1 rfl ?_
  refine lv_lconst (v := 0) hx hb dX11_isSeed_2 (by decide) ?_
  refine lv_ldc2 hx hb S.2.2.2.1 (S.2.2.2.2 _ lkX11_496) dX11_isSeed_3 ?_
  refine x_roSi (As := [.long (p0.toInt64), .long 0, .long 2000000000]) S hK hP hS hA hl mwX11_in lkX11_91 (ctX11_in l D k (p0.toInt64) 0 2000000000 ) [] rfl D_nil rfl rfl ⟨Nat.le_of_ble_eq_true rfl, Nat.le_of_ble_eq_true rfl, Nat.le_of_ble_eq_true rfl⟩ dX11_isSeed_6 ⟨Nat.le_of_ble_eq_true rfl, Nat.le_of_ble_eq_true rfl⟩ (fun r_1 H locs hr_1 hP hS => ?_)
  subst hr_1
  exact x_retz S hr hlk hQ hS bo_nar () rfl x_T dX11_isSeed_9

set_option maxHeartbeats 4000000 in
set_option maxRecDepth 100000 in
theorem ctX11_bit (l : Launch) (D : va_G) (k : Nat → ClassId) (p0 : Int32) (p1 : Int32)  : RO l yX11_bit cX11_bit 2 (some .int) 0 D k [.int p0, .int p1] [] (Qi (fun r : Int32 => True)) := by
  refine RO.of (by decide) (Nat.le_of_ble_eq_true rfl) ?_
  intro p e s m below meth c ls A args Q S hr hlk hQ hK hP hDW hA hS hl
  have hx := S.1
  have hb := S.2.1
  have hl : lv_has ls 2 [(0, .int p0), (1, .int p1)] := hl
  refine lv_iload_n hx hb dX11_bit_0 rfl (lv_at hl 0 rfl) ?_
  refine lv_iload_n hx hb dX11_bit_1 rfl (lv_at hl 1 rfl) ?_
  refine lv_ishr hx hb dX11_bit_2 ?_
  refine lv_topi (fun v_1 ev_1 => ?_)
  refine lv_iconst (v := 1) hx hb dX11_bit_3 (by decide) ?_
  refine lv_iand hx hb dX11_bit_4 ?_
  refine lv_topi (fun v_2 ev_2 => ?_)
  exact x_reti S hr hlk hQ hS () trivial x_T dX11_bit_5

set_option maxHeartbeats 4000000 in
set_option maxRecDepth 100000 in
theorem ctX11_isGarden (l : Launch) (D : va_G) (k : Nat → ClassId) (n : Nat → Nat)  : RO l yX11_isGarden cX11_isGarden 1 (some .boolean) 0 D k [.ref (n 0)] [((n 0), .inr (11, [.int 0, .ref (n 1), .ref (n 2), .ref (n 3), .ref (n 4), .int 0, .ref (n 5), .int 0, .int 0, .int 0, .int 0, .int 0, .int 0, .int (-1), .ref (n 6), .ref (n 7), .ref (n 8), .ref (n 9), .ref (n 10), .ref (n 11), .ref (n 12), .int 0, .int 0, .int 0, .int 0, .ref (n 13), .ref (n 14), .ref (n 15), .int 0, .int 0, .int 0, .ref (n 16), .ref (n 17), .int 0, .ref (n 18), .long 0, .long 0, .ref (n 19), .int 0, .long 0, .long 0, .long 0, .ref (n 20), .ref (n 21), .ref (n 22), .ref (n 23)])), ((n 1), .inl (k 0, 99, .inl (fun _ => 0)))] (Qi (fun r : Int32 => r = 0)) := by
  refine RO.of (by decide) (Nat.le_of_ble_eq_true rfl) ?_
  intro p e s m below meth c ls A args Q S hr hlk hQ hK hP hDW hA hS hl
  have hx := S.1
  have hb := S.2.1
  have hl : lv_has ls 1 [(0, .ref (n 0))] := hl
  refine lv_aload_n hx hb dX11_isGarden_0 rfl (lv_at hl 0 rfl) ?_
  refine x_get S hK hP 0 rfl cfX11 1 lkX11_9 (by decide) rfl dX11_isGarden_1 ?_
  refine lv_bipush (v := 8) hx hb dX11_isGarden_4 (by decide) ?_
  refine x_iald S hK hP 1 rfl (vp_lit (by decide)) dX11_isGarden_6 ?_
  refine x_is 0 rfl ?_
  refine lv_if_le (tgt := 14) hx hb dX11_isGarden_7 (by decide) (fun c_1 => ?_) (fun c_1 => absurd (by decide) c_1)
  refine lv_iconst (v := 0) hx hb dX11_isGarden_14 (by decide) ?_
  exact x_retz S hr hlk hQ hS rfl () rfl x_T dX11_isGarden_15

set_option maxHeartbeats 4000000 in
set_option maxRecDepth 100000 in
theorem ctX11_hours (l : Launch) (D : va_G) (k : Nat → ClassId) (n : Nat → Nat)  : RO l yX11_hours cX11_hours 1 (some .int) 0 D k [.ref (n 0)] [((n 0), .inr (11, [.int 0, .ref (n 1), .ref (n 2), .ref (n 3), .ref (n 4), .int 0, .ref (n 5), .int 0, .int 0, .int 0, .int 0, .int 0, .int 0, .int (-1), .ref (n 6), .ref (n 7), .ref (n 8), .ref (n 9), .ref (n 10), .ref (n 11), .ref (n 12), .int 0, .int 0, .int 0, .int 0, .ref (n 13), .ref (n 14), .ref (n 15), .int 0, .int 0, .int 0, .ref (n 16), .ref (n 17), .int 0, .ref (n 18), .long 0, .long 0, .ref (n 19), .int 0, .long 0, .long 0, .long 0, .ref (n 20), .ref (n 21), .ref (n 22), .ref (n 23)])), ((n 1), .inl (k 0, 99, .inl (fun _ => 0)))] (Qi (fun r : Int32 => r = 0)) := by
  refine RO.of (by decide) (Nat.le_of_ble_eq_true rfl) ?_
  intro p e s m below meth c ls A args Q S hr hlk hQ hK hP hDW hA hS hl
  have hx := S.1
  have hb := S.2.1
  have hl : lv_has ls 1 [(0, .ref (n 0))] := hl
  refine lv_aload_n hx hb dX11_hours_0 rfl (lv_at hl 0 rfl) ?_
  refine x_get S hK hP 0 rfl cfX11 1 lkX11_9 (by decide) rfl dX11_hours_1 ?_
  refine lv_iconst (v := 0) hx hb dX11_hours_4 (by decide) ?_
  refine x_iald S hK hP 1 rfl (vp_lit (by decide)) dX11_hours_5 ?_
  refine x_is 0 rfl ?_
  exact x_reti S hr hlk hQ hS () rfl x_T dX11_hours_6

set_option maxHeartbeats 4000000 in
set_option maxRecDepth 100000 in
theorem ctX11_headMany (l : Launch) (D : va_G) (k : Nat → ClassId) (n : Nat → Nat)  : RO l yX11_headMany cX11_headMany 1 (some .int) 0 D k [.ref (n 0)] [((n 0), .inr (11, [.int 0, .ref (n 1), .ref (n 2), .ref (n 3), .ref (n 4), .int 0, .ref (n 5), .int 0, .int 0, .int 0, .int 0, .int 0, .int 0, .int (-1), .ref (n 6), .ref (n 7), .ref (n 8), .ref (n 9), .ref (n 10), .ref (n 11), .ref (n 12), .int 0, .int 0, .int 0, .int 0, .ref (n 13), .ref (n 14), .ref (n 15), .int 0, .int 0, .int 0, .ref (n 16), .ref (n 17), .int 0, .ref (n 18), .long 0, .long 0, .ref (n 19), .int 0, .long 0, .long 0, .long 0, .ref (n 20), .ref (n 21), .ref (n 22), .ref (n 23)])), ((n 1), .inl (k 0, 99, .inl (fun _ => 0)))] (Qi (fun r : Int32 => r = 0)) := by
  refine RO.of (by decide) (Nat.le_of_ble_eq_true rfl) ?_
  intro p e s m below meth c ls A args Q S hr hlk hQ hK hP hDW hA hS hl
  have hx := S.1
  have hb := S.2.1
  have hl : lv_has ls 1 [(0, .ref (n 0))] := hl
  refine lv_aload_n hx hb dX11_headMany_0 rfl (lv_at hl 0 rfl) ?_
  refine x_get S hK hP 0 rfl cfX11 1 lkX11_9 (by decide) rfl dX11_headMany_1 ?_
  refine lv_iconst (v := 4) hx hb dX11_headMany_4 (by decide) ?_
  refine x_iald S hK hP 1 rfl (vp_lit (by decide)) dX11_headMany_5 ?_
  refine x_is 0 rfl ?_
  exact x_reti S hr hlk hQ hS () rfl x_T dX11_headMany_6

set_option maxHeartbeats 4000000 in
set_option maxRecDepth 100000 in
theorem ctX11_isHead (l : Launch) (D : va_G) (k : Nat → ClassId) (n : Nat → Nat) (p0 : Int64)  : RO l yX11_isHead cX11_isHead 3 (some .boolean) 1 D k [.ref (n 0), .long p0] [((n 0), .inr (11, [.int 0, .ref (n 1), .ref (n 2), .ref (n 3), .ref (n 4), .int 0, .ref (n 5), .int 0, .int 0, .int 0, .int 0, .int 0, .int 0, .int (-1), .ref (n 6), .ref (n 7), .ref (n 8), .ref (n 9), .ref (n 10), .ref (n 11), .ref (n 12), .int 0, .int 0, .int 0, .int 0, .ref (n 13), .ref (n 14), .ref (n 15), .int 0, .int 0, .int 0, .ref (n 16), .ref (n 17), .int 0, .ref (n 18), .long 0, .long 0, .ref (n 19), .int 0, .long 0, .long 0, .long 0, .ref (n 20), .ref (n 21), .ref (n 22), .ref (n 23)])), ((n 1), .inl (k 0, 99, .inl (fun _ => 0)))] (Qi (fun r : Int32 => r = 0)) := by
  refine RO.of (by decide) (Nat.le_of_ble_eq_true rfl) ?_
  intro p e s m below meth c ls A args Q S hr hlk hQ hK hP hDW hA hS hl
  have hx := S.1
  have hb := S.2.1
  have hl : lv_has ls 3 [(0, .ref (n 0)), (1, .long p0)] := hl
  refine lv_lload_n hx hb dX11_isHead_0 rfl (lv_at hl 1 rfl) ?_
  refine lv_lconst (v := 0) hx hb dX11_isHead_1 (by decide) ?_
  refine lv_aload_n hx hb dX11_isHead_2 rfl (lv_at hl 0 rfl) ?_
  refine x_roVi (As := []) S hK hP hS hA hl mwX11_headMany lkX11_95 (ctX11_headMany l D k n ) [0, 1] rfl (hDW.sub [0, 1] (by decide) rfl) rfl rfl rfl rfl rfl ⟨Nat.le_of_ble_eq_true rfl, Nat.le_of_ble_eq_true rfl, Nat.le_of_ble_eq_true rfl⟩ dX11_isHead_3 ⟨Nat.le_of_ble_eq_true rfl, Nat.le_of_ble_eq_true rfl⟩ (fun r_1 H locs hr_1 hP hS => ?_)
  subst hr_1
  refine lv_iconst (v := 1) hx hb dX11_isHead_6 (by decide) ?_
  refine lv_isub hx hb dX11_isHead_7 ?_
  refine x_is (-1) (by decide) ?_
  refine lv_i2l (v := (-1)) hx hb dX11_isHead_8 (by decide) ?_
  refine x_roSi (As := [.long p0, .long 0, .long (-1)]) S hK hP hS hA hl mwX11_in lkX11_91 (ctX11_in0 l D k p0 0 (-1) (by decide)) [] rfl D_nil rfl rfl ⟨Nat.le_of_ble_eq_true rfl, Nat.le_of_ble_eq_true rfl, Nat.le_of_ble_eq_true rfl⟩ dX11_isHead_9 ⟨Nat.le_of_ble_eq_true rfl, Nat.le_of_ble_eq_true rfl⟩ (fun r_2 H locs hr_2 hP hS => ?_)
  subst hr_2
  exact x_retz S hr hlk hQ hS rfl () rfl x_T dX11_isHead_12

set_option maxHeartbeats 4000000 in
set_option maxRecDepth 100000 in
theorem ctX11_isHour (l : Launch) (D : va_G) (k : Nat → ClassId) (n : Nat → Nat) (p0 : Int64)  : RO l yX11_isHour cX11_isHour 3 (some .boolean) 1 D k [.ref (n 0), .long p0] [((n 0), .inr (11, [.int 0, .ref (n 1), .ref (n 2), .ref (n 3), .ref (n 4), .int 0, .ref (n 5), .int 0, .int 0, .int 0, .int 0, .int 0, .int 0, .int (-1), .ref (n 6), .ref (n 7), .ref (n 8), .ref (n 9), .ref (n 10), .ref (n 11), .ref (n 12), .int 0, .int 0, .int 0, .int 0, .ref (n 13), .ref (n 14), .ref (n 15), .int 0, .int 0, .int 0, .ref (n 16), .ref (n 17), .int 0, .ref (n 18), .long 0, .long 0, .ref (n 19), .int 0, .long 0, .long 0, .long 0, .ref (n 20), .ref (n 21), .ref (n 22), .ref (n 23)])), ((n 1), .inl (k 0, 99, .inl (fun _ => 0)))] (Qi (fun r : Int32 => r = 0)) := by
  refine RO.of (by decide) (Nat.le_of_ble_eq_true rfl) ?_
  intro p e s m below meth c ls A args Q S hr hlk hQ hK hP hDW hA hS hl
  have hx := S.1
  have hb := S.2.1
  have hl : lv_has ls 3 [(0, .ref (n 0)), (1, .long p0)] := hl
  refine lv_aload_n hx hb dX11_isHour_0 rfl (lv_at hl 0 rfl) ?_
  refine x_roVi (As := []) S hK hP hS hA hl mwX11_isGarden lkX11_99 (ctX11_isGarden l D k n ) [0, 1] rfl (hDW.sub [0, 1] (by decide) rfl) rfl rfl rfl rfl rfl ⟨Nat.le_of_ble_eq_true rfl, Nat.le_of_ble_eq_true rfl, Nat.le_of_ble_eq_true rfl⟩ dX11_isHour_1 ⟨Nat.le_of_ble_eq_true rfl, Nat.le_of_ble_eq_true rfl⟩ (fun r_1 H locs hr_1 hP hS => ?_)
  subst hr_1
  refine lv_if_eq (tgt := 24) hx hb dX11_isHour_4 (by decide) (fun c_2 => ?_) (fun c_2 => absurd (by decide) c_2)
  refine lv_iconst (v := 0) hx hb dX11_isHour_24 (by decide) ?_
  exact x_retz S hr hlk hQ hS rfl () rfl x_T dX11_isHour_25

set_option maxHeartbeats 4000000 in
set_option maxRecDepth 100000 in
theorem ctX11_isRow (l : Launch) (D : va_G) (k : Nat → ClassId) (n : Nat → Nat) (p0 : Int32)  : RO l yX11_isRow cX11_isRow 2 (some .boolean) 1 D k [.ref (n 0), .int p0] [((n 0), .inr (11, [.int 0, .ref (n 1), .ref (n 2), .ref (n 3), .ref (n 4), .int 0, .ref (n 5), .int 0, .int 0, .int 0, .int 0, .int 0, .int 0, .int (-1), .ref (n 6), .ref (n 7), .ref (n 8), .ref (n 9), .ref (n 10), .ref (n 11), .ref (n 12), .int 0, .int 0, .int 0, .int 0, .ref (n 13), .ref (n 14), .ref (n 15), .int 0, .int 0, .int 0, .ref (n 16), .ref (n 17), .int 0, .ref (n 18), .long 0, .long 0, .ref (n 19), .int 0, .long 0, .long 0, .long 0, .ref (n 20), .ref (n 21), .ref (n 22), .ref (n 23)])), ((n 1), .inl (k 0, 99, .inl (fun _ => 0)))] (Qi (fun r : Int32 => r = 0)) := by
  refine RO.of (by decide) (Nat.le_of_ble_eq_true rfl) ?_
  intro p e s m below meth c ls A args Q S hr hlk hQ hK hP hDW hA hS hl
  have hx := S.1
  have hb := S.2.1
  have hl : lv_has ls 2 [(0, .ref (n 0)), (1, .int p0)] := hl
  refine lv_iload_n hx hb dX11_isRow_0 rfl (lv_at hl 1 rfl) ?_
  refine lv_i2l (v := p0.toInt64) hx hb dX11_isRow_1 rfl ?_
  refine lv_lconst (v := 0) hx hb dX11_isRow_2 (by decide) ?_
  refine lv_aload_n hx hb dX11_isRow_3 rfl (lv_at hl 0 rfl) ?_
  refine x_get S hK hP 0 rfl cfX11 1 lkX11_9 (by decide) rfl dX11_isRow_4 ?_
  refine lv_iconst (v := 3) hx hb dX11_isRow_7 (by decide) ?_
  refine x_iald S hK hP 1 rfl (vp_lit (by decide)) dX11_isRow_8 ?_
  refine x_is 0 rfl ?_
  refine lv_iconst (v := 1) hx hb dX11_isRow_9 (by decide) ?_
  refine lv_isub hx hb dX11_isRow_10 ?_
  refine x_is (-1) (by decide) ?_
  refine lv_i2l (v := (-1)) hx hb dX11_isRow_11 (by decide) ?_
  refine x_roSi (As := [.long (p0.toInt64), .long 0, .long (-1)]) S hK hP hS hA hl mwX11_in lkX11_91 (ctX11_in0 l D k (p0.toInt64) 0 (-1) (by decide)) [] rfl D_nil rfl rfl ⟨Nat.le_of_ble_eq_true rfl, Nat.le_of_ble_eq_true rfl, Nat.le_of_ble_eq_true rfl⟩ dX11_isRow_12 ⟨Nat.le_of_ble_eq_true rfl, Nat.le_of_ble_eq_true rfl⟩ (fun r_1 H locs hr_1 hP hS => ?_)
  subst hr_1
  exact x_retz S hr hlk hQ hS rfl () rfl x_T dX11_isRow_15

set_option maxHeartbeats 4000000 in
set_option maxRecDepth 100000 in
theorem ctX11_hardOf (l : Launch) (D : va_G) (k : Nat → ClassId) (n : Nat → Nat) (j : Nat) (hj : j < 12) : RO l yX11_hardOf cX11_hardOf 2 (some .int) 0 D k [.ref (n 0), .int (nI j)] [((n 0), .inr (11, [.int 0, .ref (n 1), .ref (n 2), .ref (n 3), .ref (n 4), .int 0, .ref (n 5), .int 0, .int 0, .int 0, .int 0, .int 0, .int 0, .int (-1), .ref (n 6), .ref (n 7), .ref (n 8), .ref (n 9), .ref (n 10), .ref (n 11), .ref (n 12), .int 0, .int 0, .int 0, .int 0, .ref (n 13), .ref (n 14), .ref (n 15), .int 0, .int 0, .int 0, .ref (n 16), .ref (n 17), .int 0, .ref (n 18), .long 0, .long 0, .ref (n 19), .int 0, .long 0, .long 0, .long 0, .ref (n 20), .ref (n 21), .ref (n 22), .ref (n 23)])), ((n 1), .inl (k 0, 99, .inl (fun _ => 0)))] (Qi (fun r : Int32 => r = 0)) := by
  refine RO.of (by decide) (Nat.le_of_ble_eq_true rfl) ?_
  intro p e s m below meth c ls A args Q S hr hlk hQ hK hP hDW hA hS hl
  have hx := S.1
  have hb := S.2.1
  have hl : lv_has ls 2 [(0, .ref (n 0)), (1, .int (nI j))] := hl
  refine lv_aload_n hx hb dX11_hardOf_0 rfl (lv_at hl 0 rfl) ?_
  refine x_get S hK hP 0 rfl cfX11 1 lkX11_9 (by decide) rfl dX11_hardOf_1 ?_
  refine lv_bipush (v := 13) hx hb dX11_hardOf_4 (by decide) ?_
  refine lv_iconst (v := 2) hx hb dX11_hardOf_6 (by decide) ?_
  refine lv_iload_n hx hb dX11_hardOf_7 rfl (lv_at hl 1 rfl) ?_
  refine lv_imul hx hb dX11_hardOf_8 ?_
  refine x_is (nI (2 * j)) (ni_mul (by decide) rfl) ?_
  refine lv_iadd hx hb dX11_hardOf_9 ?_
  refine x_is (nI (13 + 2 * j)) (ni_add (by decide) rfl) ?_
  refine x_iald S hK hP 1 rfl (vp_in_nI (by omega) (by decide)) dX11_hardOf_10 ?_
  refine x_is 0 rfl ?_
  exact x_reti S hr hlk hQ hS () rfl x_T dX11_hardOf_11

set_option maxHeartbeats 4000000 in
set_option maxRecDepth 100000 in
theorem ctX11_layRows (l : Launch) (D : va_G) (k : Nat → ClassId) (n : Nat → Nat)  : MU l yX11_layRows cX11_layRows 4 none 0 D k [.ref (n 0)] [((n 0), .inr (11, [.int 0, .ref (n 1), .ref (n 2), .ref (n 3), .ref (n 4), .int 0, .ref (n 5), .int 0, .int 0, .int 0, .int 0, .int 0, .int 0, .int (-1), .ref (n 6), .ref (n 7), .ref (n 8), .ref (n 9), .ref (n 10), .ref (n 11), .ref (n 12), .int 0, .int 0, .int 0, .int 0, .ref (n 13), .ref (n 14), .ref (n 15), .int 0, .int 0, .int 0, .ref (n 16), .ref (n 17), .int 0, .ref (n 18), .long 0, .long 0, .ref (n 19), .int 0, .long 0, .long 0, .long 0, .ref (n 20), .ref (n 21), .ref (n 22), .ref (n 23)])), ((n 1), .inl (k 0, 99, .inl (fun _ => 0)))] 0 0 (Uv D (fun _ : Unit => True) (fun u : Unit => [((n 0), .inr (11, [.int 0, .ref (n 1), .ref (n 2), .ref (n 3), .ref (n 4), .int 0, .ref (n 5), .int 0, .int 0, .int 0, .int 0, .int 0, .int 0, .int (-1), .ref (n 6), .ref (n 7), .ref (n 8), .ref (n 9), .ref (n 10), .ref (n 11), .ref (n 12), .int 0, .int 0, .int 0, .int 0, .ref (n 13), .ref (n 14), .ref (n 15), .int 0, .int 0, .int 0, .ref (n 16), .ref (n 17), .int 0, .ref (n 18), .long 0, .long 0, .ref (n 19), .int 0, .long 0, .long 0, .long 0, .ref (n 20), .ref (n 21), .ref (n 22), .ref (n 23)])), ((n 1), .inl (k 0, 99, .inl (fun _ => 0)))])) := by
  refine MU.of (by decide) (Nat.le_of_ble_eq_true rfl) ?_
  intro p e s m below meth c ls A args Q S hr hlk hnm hQ hK hP hD hA hS hl
  have hx := S.1
  have hb := S.2.1
  have hl : lv_has ls 4 [(0, .ref (n 0))] := hl
  refine lv_iconst (v := 0) hx hb dX11_layRows_0 (by decide) ?_
  refine lv_istore_n (lv' := [(1, .int 0), (0, .ref (n 0))]) hx hb dX11_layRows_1 rfl hl (by decide) rfl (fun ls hl => ?_)
  refine lv_iconst (v := 0) hx hb dX11_layRows_2 (by decide) ?_
  refine lv_istore_n (lv' := [(2, .int 0), (1, .int 0), (0, .ref (n 0))]) hx hb dX11_layRows_3 rfl hl (by decide) rfl (fun ls hl => ?_)
  refine lv_iload_n hx hb dX11_layRows_4 rfl (lv_at hl 0 rfl) ?_
  refine lv_aload_n hx hb dX11_layRows_5 rfl (lv_at hl 2 rfl) ?_
  refine x_get S hK hP 0 rfl cfX11 1 lkX11_9 (by decide) rfl dX11_layRows_6 ?_
  refine lv_iconst (v := 3) hx hb dX11_layRows_9 (by decide) ?_
  refine x_iald S hK hP 1 rfl (vp_lit (by decide)) dX11_layRows_10 ?_
  refine x_is 0 rfl ?_
  refine lv_icmp_ge (tgt := 65) hx hb dX11_layRows_11 (by decide) (fun c_1 => ?_) (fun c_1 => absurd (by decide) c_1)
  exact x_retv S hr hlk hQ hS () trivial (x_B (hP.sub [0, 1] rfl) (hD.sub [0, 1] (by decide) rfl)) dX11_layRows_65

set_option maxHeartbeats 4000000 in
set_option maxRecDepth 100000 in
theorem ctX11_asItIs (l : Launch) (D : va_G) (k : Nat → ClassId) (n : Nat → Nat) (f0 : Nat → Int32)  : MU l yX11_asItIs cX11_asItIs 2 none 1 D k [.ref (n 0)] [((n 0), .inr (11, [.int 0, .ref (n 1), .ref (n 2), .ref (n 3), .ref (n 4), .int 0, .ref (n 5), .int 0, .int 0, .int 0, .int 0, .int 0, .int 0, .int (-1), .ref (n 6), .ref (n 7), .ref (n 8), .ref (n 9), .ref (n 10), .ref (n 11), .ref (n 12), .int 0, .int 0, .int 0, .int 0, .ref (n 13), .ref (n 14), .ref (n 15), .int 0, .int 0, .int 0, .ref (n 16), .ref (n 17), .int 0, .ref (n 18), .long 0, .long 0, .ref (n 19), .int 0, .long 0, .long 0, .long 0, .ref (n 20), .ref (n 21), .ref (n 22), .ref (n 23)])), ((n 1), .inl (k 0, 99, .inl (fun _ => 0))), ((n 10), .inl (k 0, 12, .inl f0))] 0 0 (Uv D (fun _ : Nat → Int32 => True) (fun u : Nat → Int32 => [((n 0), .inr (11, [.int 0, .ref (n 1), .ref (n 2), .ref (n 3), .ref (n 4), .int 0, .ref (n 5), .int 0, .int 0, .int 0, .int 0, .int 0, .int 0, .int (-1), .ref (n 6), .ref (n 7), .ref (n 8), .ref (n 9), .ref (n 10), .ref (n 11), .ref (n 12), .int 0, .int 0, .int 0, .int 0, .ref (n 13), .ref (n 14), .ref (n 15), .int 0, .int 0, .int 0, .ref (n 16), .ref (n 17), .int 0, .ref (n 18), .long 0, .long 0, .ref (n 19), .int 0, .long 0, .long 0, .long 0, .ref (n 20), .ref (n 21), .ref (n 22), .ref (n 23)])), ((n 1), .inl (k 0, 99, .inl (fun _ => 0))), ((n 10), .inl (k 0, 12, .inl u))])) := by
  refine MU.of (by decide) (Nat.le_of_ble_eq_true rfl) ?_
  intro p e s m below meth c ls A args Q S hr hlk hnm hQ hK hP hD hA hS hl
  have hx := S.1
  have hb := S.2.1
  have hl : lv_has ls 2 [(0, .ref (n 0))] := hl
  refine lv_aload_n hx hb dX11_asItIs_0 rfl (lv_at hl 0 rfl) ?_
  refine x_muVv (wr := [((n 10), .inl (k 0, 12, .inl f0))]) (As := []) S hK hP hD hS hA hl mwX11_layRows lkX11_243 (ctX11_layRows l D k n ) [0, 1] [2] rfl rfl (by decide) (by decide) (by decide) rfl rfl rfl rfl rfl ⟨Nat.le_of_ble_eq_true rfl, Nat.le_of_ble_eq_true rfl, Nat.le_of_ble_eq_true rfl⟩ dX11_asItIs_1 ⟨Nat.le_of_ble_eq_true rfl, Nat.le_of_ble_eq_true rfl⟩ (fun u_2 H locs hr_1 hP hD hS => ?_)
  have hP : va_P D vwCl [((n 10), .inl (k 0, 12, .inl f0)), ((n 0), .inr (11, [.int 0, .ref (n 1), .ref (n 2), .ref (n 3), .ref (n 4), .int 0, .ref (n 5), .int 0, .int 0, .int 0, .int 0, .int 0, .int 0, .int (-1), .ref (n 6), .ref (n 7), .ref (n 8), .ref (n 9), .ref (n 10), .ref (n 11), .ref (n 12), .int 0, .int 0, .int 0, .int 0, .ref (n 13), .ref (n 14), .ref (n 15), .int 0, .int 0, .int 0, .ref (n 16), .ref (n 17), .int 0, .ref (n 18), .long 0, .long 0, .ref (n 19), .int 0, .long 0, .long 0, .long 0, .ref (n 20), .ref (n 21), .ref (n 22), .ref (n 23)])), ((n 1), .inl (k 0, 99, .inl (fun _ => 0)))] H := hP
  have hD : va_D A [((n 10), .inl (k 0, 12, .inl f0)), ((n 0), .inr (11, [.int 0, .ref (n 1), .ref (n 2), .ref (n 3), .ref (n 4), .int 0, .ref (n 5), .int 0, .int 0, .int 0, .int 0, .int 0, .int 0, .int (-1), .ref (n 6), .ref (n 7), .ref (n 8), .ref (n 9), .ref (n 10), .ref (n 11), .ref (n 12), .int 0, .int 0, .int 0, .int 0, .ref (n 13), .ref (n 14), .ref (n 15), .int 0, .int 0, .int 0, .ref (n 16), .ref (n 17), .int 0, .ref (n 18), .long 0, .long 0, .ref (n 19), .int 0, .long 0, .long 0, .long 0, .ref (n 20), .ref (n 21), .ref (n 22), .ref (n 23)])), ((n 1), .inl (k 0, 99, .inl (fun _ => 0)))] := hD
  refine lv_aload_n hx hb dX11_asItIs_4 rfl (lv_at hl 0 rfl) ?_
  refine lv_aload_n hx hb dX11_asItIs_5 rfl (lv_at hl 0 rfl) ?_
  refine x_get S hK hP 1 rfl cfX11 1 lkX11_9 (by decide) rfl dX11_asItIs_6 ?_
  refine lv_iconst (v := 1) hx hb dX11_asItIs_9 (by decide) ?_
  refine x_iald S hK hP 2 rfl (vp_lit (by decide)) dX11_asItIs_10 ?_
  refine x_is 0 rfl ?_
  refine x_put (ws' := [((n 10), .inl (k 0, 12, .inl f0)), ((n 0), .inr (11, [.int 0, .ref (n 1), .ref (n 2), .ref (n 3), .ref (n 4), .int 0, .ref (n 5), .int 0, .int 0, .int 0, .int 0, .int 0, .int 0, .int (-1), .ref (n 6), .ref (n 7), .ref (n 8), .ref (n 9), .ref (n 10), .ref (n 11), .ref (n 12), .int 0, .int 0, .int 0, .int 0, .ref (n 13), .ref (n 14), .ref (n 15), .int 0, .int 0, .int 0, .ref (n 16), .ref (n 17), .int 0, .ref (n 18), .long 0, .long 0, .ref (n 19), .int 0, .long 0, .long 0, .long 0, .ref (n 20), .ref (n 21), .ref (n 22), .ref (n 23)])), ((n 1), .inl (k 0, 99, .inl (fun _ => 0)))]) S hK hP hD hS 1 rfl cfX11 22 lkX11_261 (by decide) rfl rfl rfl (Nat.le_of_ble_eq_true rfl) rfl dX11_asItIs_11 (fun H locs hP hD hS => ?_)
  refine lv_aload_n hx hb dX11_asItIs_14 rfl (lv_at hl 0 rfl) ?_
  refine lv_iconst (v := 0) hx hb dX11_asItIs_15 (by decide) ?_
  refine x_put (ws' := [((n 10), .inl (k 0, 12, .inl f0)), ((n 0), .inr (11, [.int 0, .ref (n 1), .ref (n 2), .ref (n 3), .ref (n 4), .int 0, .ref (n 5), .int 0, .int 0, .int 0, .int 0, .int 0, .int 0, .int (-1), .ref (n 6), .ref (n 7), .ref (n 8), .ref (n 9), .ref (n 10), .ref (n 11), .ref (n 12), .int 0, .int 0, .int 0, .int 0, .ref (n 13), .ref (n 14), .ref (n 15), .int 0, .int 0, .int 0, .ref (n 16), .ref (n 17), .int 0, .ref (n 18), .long 0, .long 0, .ref (n 19), .int 0, .long 0, .long 0, .long 0, .ref (n 20), .ref (n 21), .ref (n 22), .ref (n 23)])), ((n 1), .inl (k 0, 99, .inl (fun _ => 0)))]) S hK hP hD hS 1 rfl cfX11 23 lkX11_264 (by decide) rfl rfl rfl (Nat.le_of_ble_eq_true rfl) rfl dX11_asItIs_16 (fun H locs hP hD hS => ?_)
  refine lv_aload_n hx hb dX11_asItIs_19 rfl (lv_at hl 0 rfl) ?_
  refine lv_iconst (v := 0) hx hb dX11_asItIs_20 (by decide) ?_
  refine x_put (ws' := [((n 10), .inl (k 0, 12, .inl f0)), ((n 0), .inr (11, [.int 0, .ref (n 1), .ref (n 2), .ref (n 3), .ref (n 4), .int 0, .ref (n 5), .int 0, .int 0, .int 0, .int 0, .int 0, .int 0, .int (-1), .ref (n 6), .ref (n 7), .ref (n 8), .ref (n 9), .ref (n 10), .ref (n 11), .ref (n 12), .int 0, .int 0, .int 0, .int 0, .ref (n 13), .ref (n 14), .ref (n 15), .int 0, .int 0, .int 0, .ref (n 16), .ref (n 17), .int 0, .ref (n 18), .long 0, .long 0, .ref (n 19), .int 0, .long 0, .long 0, .long 0, .ref (n 20), .ref (n 21), .ref (n 22), .ref (n 23)])), ((n 1), .inl (k 0, 99, .inl (fun _ => 0)))]) S hK hP hD hS 1 rfl cfX11 21 lkX11_267 (by decide) rfl rfl rfl (Nat.le_of_ble_eq_true rfl) rfl dX11_asItIs_21 (fun H locs hP hD hS => ?_)
  refine lv_aload_n hx hb dX11_asItIs_24 rfl (lv_at hl 0 rfl) ?_
  refine lv_iconst (v := 0) hx hb dX11_asItIs_25 (by decide) ?_
  refine x_put (ws' := [((n 10), .inl (k 0, 12, .inl f0)), ((n 0), .inr (11, [.int 0, .ref (n 1), .ref (n 2), .ref (n 3), .ref (n 4), .int 0, .ref (n 5), .int 0, .int 0, .int 0, .int 0, .int 0, .int 0, .int (-1), .ref (n 6), .ref (n 7), .ref (n 8), .ref (n 9), .ref (n 10), .ref (n 11), .ref (n 12), .int 0, .int 0, .int 0, .int 0, .ref (n 13), .ref (n 14), .ref (n 15), .int 0, .int 0, .int 0, .ref (n 16), .ref (n 17), .int 0, .ref (n 18), .long 0, .long 0, .ref (n 19), .int 0, .long 0, .long 0, .long 0, .ref (n 20), .ref (n 21), .ref (n 22), .ref (n 23)])), ((n 1), .inl (k 0, 99, .inl (fun _ => 0)))]) S hK hP hD hS 1 rfl cfX11 24 lkX11_270 (by decide) rfl rfl rfl (Nat.le_of_ble_eq_true rfl) rfl dX11_asItIs_26 (fun H locs hP hD hS => ?_)
  refine lv_iconst (v := 0) hx hb dX11_asItIs_29 (by decide) ?_
  refine lv_istore_n (lv' := [(1, .int 0), (0, .ref (n 0))]) hx hb dX11_asItIs_30 rfl hl (by decide) rfl (fun ls hl => ?_)
  have lp_5 : ∀ (nn j_3 : Nat) (g_4 : Nat → Int32) (H : Heap) (locs : List Loc) (ls : Array Slot), j_3 ≤ 12 → 12 - j_3 < nn → va_P D vwCl [((n 10), .inl (k 0, 12, .inl g_4)), ((n 0), .inr (11, [.int 0, .ref (n 1), .ref (n 2), .ref (n 3), .ref (n 4), .int 0, .ref (n 5), .int 0, .int 0, .int 0, .int 0, .int 0, .int 0, .int (-1), .ref (n 6), .ref (n 7), .ref (n 8), .ref (n 9), .ref (n 10), .ref (n 11), .ref (n 12), .int 0, .int 0, .int 0, .int 0, .ref (n 13), .ref (n 14), .ref (n 15), .int 0, .int 0, .int 0, .ref (n 16), .ref (n 17), .int 0, .ref (n 18), .long 0, .long 0, .ref (n 19), .int 0, .long 0, .long 0, .long 0, .ref (n 20), .ref (n 21), .ref (n 22), .ref (n 23)])), ((n 1), .inl (k 0, 99, .inl (fun _ => 0)))] H → va_D A [((n 10), .inl (k 0, 12, .inl g_4)), ((n 0), .inr (11, [.int 0, .ref (n 1), .ref (n 2), .ref (n 3), .ref (n 4), .int 0, .ref (n 5), .int 0, .int 0, .int 0, .int 0, .int 0, .int 0, .int (-1), .ref (n 6), .ref (n 7), .ref (n 8), .ref (n 9), .ref (n 10), .ref (n 11), .ref (n 12), .int 0, .int 0, .int 0, .int 0, .ref (n 13), .ref (n 14), .ref (n 15), .int 0, .int 0, .int 0, .ref (n 16), .ref (n 17), .int 0, .ref (n 18), .long 0, .long 0, .ref (n 19), .int 0, .long 0, .long 0, .long 0, .ref (n 20), .ref (n 21), .ref (n 22), .ref (n 23)])), ((n 1), .inl (k 0, 99, .inl (fun _ => 0)))] → va_S A s.heap H locs → lv_has ls 2 [(1, .int (nI j_3)), (0, .ref (n 0))] → W p l e (Rm 1 0 0) s m args below meth c H locs 0 0 Q (F0 m 31 ls []) := by
    intro nn
    induction nn with
    | zero => intro j_3 g_4 H locs ls hjj_3 hnj_3; exact absurd hnj_3 (by omega)
    | succ nn ihj_3 =>
      intro j_3 g_4 H locs ls hjj_3 hnj_3 hP hD hS hl
      refine lv_iload_n hx hb dX11_asItIs_31 rfl (lv_at hl 0 rfl) ?_
      refine lv_bipush (v := 12) hx hb dX11_asItIs_32 (by decide) ?_
      refine lv_icmp_ge (tgt := 54) hx hb dX11_asItIs_34 (by decide) (fun c_6 => ?_) (fun c_6 => ?_)
      · skip
        have c_6 : 12 ≤ j_3 := (ni_le (by decide) rfl (by omega) (by omega)).mp c_6
        exact x_retv S hr hlk hQ hS g_4 trivial (x_B (hP.sub [1, 2, 0] rfl) (hD.sub [1, 2, 0] (by decide) rfl)) dX11_asItIs_54
      · skip
        have c_6 : ¬ 12 ≤ j_3 := fun q => c_6 ((ni_le (by decide) rfl (by omega) (by omega)).mpr q)
        refine lv_aload_n hx hb dX11_asItIs_37 rfl (lv_at hl 1 rfl) ?_
        refine x_get S hK hP 1 rfl cfX11 18 lkX11_43 (by decide) rfl dX11_asItIs_38 ?_
        refine lv_iload_n hx hb dX11_asItIs_41 rfl (lv_at hl 0 rfl) ?_
        refine lv_aload_n hx hb dX11_asItIs_42 rfl (lv_at hl 1 rfl) ?_
        refine lv_iload_n hx hb dX11_asItIs_43 rfl (lv_at hl 0 rfl) ?_
        refine x_roVi (As := [.int (nI j_3)]) S hK hP hS hA hl mwX11_hardOf lkX11_246 (ctX11_hardOf l D k n j_3 (by omega)) [1, 2] rfl ((hD.sub [1, 2] (by decide) rfl).weaken (fun _ _ _ _ => trivial)) rfl rfl rfl rfl rfl ⟨Nat.le_of_ble_eq_true rfl, Nat.le_of_ble_eq_true rfl, Nat.le_of_ble_eq_true rfl⟩ dX11_asItIs_44 ⟨Nat.le_of_ble_eq_true rfl, Nat.le_of_ble_eq_true rfl⟩ (fun r_7 H locs hr_7 hP hS => ?_)
        subst hr_7
        refine x_iast (ws' := fun f_8 => [((n 10), .inl (k 0, 12, .inl f_8)), ((n 0), .inr (11, [.int 0, .ref (n 1), .ref (n 2), .ref (n 3), .ref (n 4), .int 0, .ref (n 5), .int 0, .int 0, .int 0, .int 0, .int 0, .int 0, .int (-1), .ref (n 6), .ref (n 7), .ref (n 8), .ref (n 9), .ref (n 10), .ref (n 11), .ref (n 12), .int 0, .int 0, .int 0, .int 0, .ref (n 13), .ref (n 14), .ref (n 15), .int 0, .int 0, .int 0, .ref (n 16), .ref (n 17), .int 0, .ref (n 18), .long 0, .long 0, .ref (n 19), .int 0, .long 0, .long 0, .long 0, .ref (n 20), .ref (n 21), .ref (n 22), .ref (n 23)])), ((n 1), .inl (k 0, 99, .inl (fun _ => 0)))]) S hK hP hD hS 0 rfl (vp_in_nI (by omega) (by decide)) (fun _ => rfl) dX11_asItIs_47 (fun f_8 H locs ef_8 hP hD hS => ?_)
        refine lv_iinc (v := (nI (j_3 + 1))) (lv' := [(1, .int (nI (j_3 + 1))), (0, .ref (n 0))]) hx hb dX11_asItIs_48 hl (k := 0) rfl (ni_inc _) (by decide) rfl (fun ls hl => ?_)
        refine lv_goto (tgt := 31) hx hb dX11_asItIs_51 (by decide) ?_
        exact ihj_3 (j_3 + 1) f_8 _ _ _ (by omega) (by omega) hP hD hS (lv_sub hl [0, 1] rfl)
  exact lp_5 (12 + 1) 0 f0 _ _ _ (by omega) (by omega) hP hD hS (lv_sub hl [0, 1] rfl)

set_option maxHeartbeats 4000000 in
set_option maxRecDepth 100000 in
theorem ctX11_beginHour (l : Launch) (D : va_G) (k : Nat → ClassId) (n : Nat → Nat)  : MU l yX11_beginHour cX11_beginHour 4 none 0 D k [.ref (n 0), .int 0] [((n 0), .inr (11, [.int 0, .ref (n 1), .ref (n 2), .ref (n 3), .ref (n 4), .int 0, .ref (n 5), .int 0, .int 0, .int 0, .int 0, .int 0, .int 0, .int (-1), .ref (n 6), .ref (n 7), .ref (n 8), .ref (n 9), .ref (n 10), .ref (n 11), .ref (n 12), .int 0, .int 0, .int 0, .int 0, .ref (n 13), .ref (n 14), .ref (n 15), .int 0, .int 0, .int 0, .ref (n 16), .ref (n 17), .int 0, .ref (n 18), .long 0, .long 0, .ref (n 19), .int 0, .long 0, .long 0, .long 0, .ref (n 20), .ref (n 21), .ref (n 22), .ref (n 23)])), ((n 1), .inl (k 0, 99, .inl (fun _ => 0)))] 0 0 (Uv D (fun _ : Unit => True) (fun u : Unit => [((n 0), .inr (11, [.int 0, .ref (n 1), .ref (n 2), .ref (n 3), .ref (n 4), .int 0, .ref (n 5), .int 0, .int 0, .int 0, .int 0, .int 0, .int 0, .int (-1), .ref (n 6), .ref (n 7), .ref (n 8), .ref (n 9), .ref (n 10), .ref (n 11), .ref (n 12), .int 0, .int 0, .int 0, .int 0, .ref (n 13), .ref (n 14), .ref (n 15), .int 0, .int 0, .int 0, .ref (n 16), .ref (n 17), .int 0, .ref (n 18), .long 0, .long 0, .ref (n 19), .int 0, .long 0, .long 0, .long 0, .ref (n 20), .ref (n 21), .ref (n 22), .ref (n 23)])), ((n 1), .inl (k 0, 99, .inl (fun _ => 0)))])) := by
  refine MU.of (by decide) (Nat.le_of_ble_eq_true rfl) ?_
  intro p e s m below meth c ls A args Q S hr hlk hnm hQ hK hP hD hA hS hl
  have hx := S.1
  have hb := S.2.1
  have hl : lv_has ls 4 [(0, .ref (n 0)), (1, .int 0)] := hl
  refine lv_iconst (v := 0) hx hb dX11_beginHour_0 (by decide) ?_
  refine lv_istore_n (lv' := [(2, .int 0), (0, .ref (n 0)), (1, .int 0)]) hx hb dX11_beginHour_1 rfl hl (by decide) rfl (fun ls hl => ?_)
  refine lv_iload_n hx hb dX11_beginHour_2 rfl (lv_at hl 0 rfl) ?_
  refine lv_aload_n hx hb dX11_beginHour_3 rfl (lv_at hl 1 rfl) ?_
  refine x_get S hK hP 0 rfl cfX11 1 lkX11_9 (by decide) rfl dX11_beginHour_4 ?_
  refine lv_iconst (v := 5) hx hb dX11_beginHour_7 (by decide) ?_
  refine x_iald S hK hP 1 rfl (vp_lit (by decide)) dX11_beginHour_8 ?_
  refine x_is 0 rfl ?_
  refine lv_icmp_ge (tgt := 63) hx hb dX11_beginHour_9 (by decide) (fun c_1 => ?_) (fun c_1 => absurd (by decide) c_1)
  refine lv_iconst (v := 0) hx hb dX11_beginHour_63 (by decide) ?_
  refine lv_istore_n (lv' := [(2, .int 0), (0, .ref (n 0)), (1, .int 0)]) hx hb dX11_beginHour_64 rfl hl (by decide) rfl (fun ls hl => ?_)
  refine lv_iload_n hx hb dX11_beginHour_65 rfl (lv_at hl 0 rfl) ?_
  refine lv_aload_n hx hb dX11_beginHour_66 rfl (lv_at hl 1 rfl) ?_
  refine x_get S hK hP 0 rfl cfX11 1 lkX11_9 (by decide) rfl dX11_beginHour_67 ?_
  refine lv_bipush (v := 7) hx hb dX11_beginHour_70 (by decide) ?_
  refine x_iald S hK hP 1 rfl (vp_lit (by decide)) dX11_beginHour_72 ?_
  refine x_is 0 rfl ?_
  refine lv_icmp_ge (tgt := 123) hx hb dX11_beginHour_73 (by decide) (fun c_2 => ?_) (fun c_2 => absurd (by decide) c_2)
  refine lv_iconst (v := 0) hx hb dX11_beginHour_123 (by decide) ?_
  refine lv_istore_n (lv' := [(2, .int 0), (0, .ref (n 0)), (1, .int 0)]) hx hb dX11_beginHour_124 rfl hl (by decide) rfl (fun ls hl => ?_)
  refine lv_iload_n hx hb dX11_beginHour_125 rfl (lv_at hl 0 rfl) ?_
  refine lv_aload_n hx hb dX11_beginHour_126 rfl (lv_at hl 1 rfl) ?_
  refine x_get S hK hP 0 rfl cfX11 21 lkX11_267 (by decide) rfl dX11_beginHour_127 ?_
  refine lv_icmp_ge (tgt := 159) hx hb dX11_beginHour_130 (by decide) (fun c_3 => ?_) (fun c_3 => absurd (by decide) c_3)
  refine lv_iconst (v := 0) hx hb dX11_beginHour_159 (by decide) ?_
  refine lv_istore_n (lv' := [(2, .int 0), (0, .ref (n 0)), (1, .int 0)]) hx hb dX11_beginHour_160 rfl hl (by decide) rfl (fun ls hl => ?_)
  refine lv_iload_n hx hb dX11_beginHour_161 rfl (lv_at hl 0 rfl) ?_
  refine lv_aload_n hx hb dX11_beginHour_162 rfl (lv_at hl 1 rfl) ?_
  refine x_get S hK hP 0 rfl cfX11 1 lkX11_9 (by decide) rfl dX11_beginHour_163 ?_
  refine lv_bipush (v := 6) hx hb dX11_beginHour_166 (by decide) ?_
  refine x_iald S hK hP 1 rfl (vp_lit (by decide)) dX11_beginHour_168 ?_
  refine x_is 0 rfl ?_
  refine lv_icmp_ge (tgt := 210) hx hb dX11_beginHour_169 (by decide) (fun c_4 => ?_) (fun c_4 => absurd (by decide) c_4)
  refine lv_iconst (v := 0) hx hb dX11_beginHour_210 (by decide) ?_
  refine lv_istore_n (lv' := [(2, .int 0), (0, .ref (n 0)), (1, .int 0)]) hx hb dX11_beginHour_211 rfl hl (by decide) rfl (fun ls hl => ?_)
  refine lv_iload_n hx hb dX11_beginHour_212 rfl (lv_at hl 0 rfl) ?_
  refine lv_aload_n hx hb dX11_beginHour_213 rfl (lv_at hl 1 rfl) ?_
  refine x_get S hK hP 0 rfl cfX11 1 lkX11_9 (by decide) rfl dX11_beginHour_214 ?_
  refine lv_bipush (v := 7) hx hb dX11_beginHour_217 (by decide) ?_
  refine x_iald S hK hP 1 rfl (vp_lit (by decide)) dX11_beginHour_219 ?_
  refine x_is 0 rfl ?_
  refine lv_icmp_ge (tgt := 262) hx hb dX11_beginHour_220 (by decide) (fun c_5 => ?_) (fun c_5 => absurd (by decide) c_5)
  exact x_retv S hr hlk hQ hS () trivial (x_B (hP.sub [0, 1] rfl) (hD.sub [0, 1] (by decide) rfl)) dX11_beginHour_262

set_option maxHeartbeats 4000000 in
set_option maxRecDepth 100000 in
theorem ctX11_passOn (l : Launch) (D : va_G) (k : Nat → ClassId) (n : Nat → Nat)  : MU l yX11_passOn cX11_passOn 7 none 1 D k [.ref (n 0), .int 0] [((n 0), .inr (11, [.int 0, .ref (n 1), .ref (n 2), .ref (n 3), .ref (n 4), .int 0, .ref (n 5), .int 0, .int 0, .int 0, .int 0, .int 0, .int 0, .int (-1), .ref (n 6), .ref (n 7), .ref (n 8), .ref (n 9), .ref (n 10), .ref (n 11), .ref (n 12), .int 0, .int 0, .int 0, .int 0, .ref (n 13), .ref (n 14), .ref (n 15), .int 0, .int 0, .int 0, .ref (n 16), .ref (n 17), .int 0, .ref (n 18), .long 0, .long 0, .ref (n 19), .int 0, .long 0, .long 0, .long 0, .ref (n 20), .ref (n 21), .ref (n 22), .ref (n 23)])), ((n 1), .inl (k 0, 99, .inl (fun _ => 0)))] 0 0 (Uv D (fun _ : Unit => True) (fun u : Unit => [((n 0), .inr (11, [.int 0, .ref (n 1), .ref (n 2), .ref (n 3), .ref (n 4), .int 0, .ref (n 5), .int 0, .int 0, .int 0, .int 0, .int 0, .int 0, .int (-1), .ref (n 6), .ref (n 7), .ref (n 8), .ref (n 9), .ref (n 10), .ref (n 11), .ref (n 12), .int 0, .int 0, .int 0, .int 0, .ref (n 13), .ref (n 14), .ref (n 15), .int 0, .int 0, .int 0, .ref (n 16), .ref (n 17), .int 0, .ref (n 18), .long 0, .long 0, .ref (n 19), .int 0, .long 0, .long 0, .long 0, .ref (n 20), .ref (n 21), .ref (n 22), .ref (n 23)])), ((n 1), .inl (k 0, 99, .inl (fun _ => 0)))])) := by
  refine MU.of (by decide) (Nat.le_of_ble_eq_true rfl) ?_
  intro p e s m below meth c ls A args Q S hr hlk hnm hQ hK hP hD hA hS hl
  have hx := S.1
  have hb := S.2.1
  have hl : lv_has ls 7 [(0, .ref (n 0)), (1, .int 0)] := hl
  refine lv_aload_n hx hb dX11_passOn_0 rfl (lv_at hl 0 rfl) ?_
  refine x_get S hK hP 0 rfl cfX11 28 lkX11_284 (by decide) rfl dX11_passOn_1 ?_
  refine lv_istore_n (lv' := [(2, .int 0), (0, .ref (n 0)), (1, .int 0)]) hx hb dX11_passOn_4 rfl hl (by decide) rfl (fun ls hl => ?_)
  refine lv_aload_n hx hb dX11_passOn_5 rfl (lv_at hl 1 rfl) ?_
  refine x_get S hK hP 0 rfl cfX11 29 lkX11_287 (by decide) rfl dX11_passOn_6 ?_
  refine lv_istore_n (lv' := [(3, .int 0), (2, .int 0), (0, .ref (n 0)), (1, .int 0)]) hx hb dX11_passOn_9 rfl hl (by decide) rfl (fun ls hl => ?_)
  refine lv_iconst (v := 0) hx hb dX11_passOn_10 (by decide) ?_
  refine lv_istore (lv' := [(4, .int 0), (3, .int 0), (2, .int 0), (0, .ref (n 0)), (1, .int 0)]) hx hb dX11_passOn_11 hl (by decide) rfl (fun ls hl => ?_)
  refine lv_iload hx hb dX11_passOn_13 (lv_at hl 0 rfl) ?_
  refine lv_aload_n hx hb dX11_passOn_15 rfl (lv_at hl 3 rfl) ?_
  refine x_roVi (As := []) S hK hP hS hA hl mwX11_headMany lkX11_95 (ctX11_headMany l D k n ) [0, 1] rfl ((hD.sub [0, 1] (by decide) rfl).weaken (fun _ _ _ _ => trivial)) rfl rfl rfl rfl rfl ⟨Nat.le_of_ble_eq_true rfl, Nat.le_of_ble_eq_true rfl, Nat.le_of_ble_eq_true rfl⟩ dX11_passOn_16 ⟨Nat.le_of_ble_eq_true rfl, Nat.le_of_ble_eq_true rfl⟩ (fun r_1 H locs hr_1 hP hS => ?_)
  subst hr_1
  refine lv_icmp_ge (tgt := 184) hx hb dX11_passOn_19 (by decide) (fun c_2 => ?_) (fun c_2 => absurd (by decide) c_2)
  refine lv_aload_n hx hb dX11_passOn_184 rfl (lv_at hl 3 rfl) ?_
  refine lv_iload_n hx hb dX11_passOn_185 rfl (lv_at hl 2 rfl) ?_
  refine x_put (ws' := [((n 0), .inr (11, [.int 0, .ref (n 1), .ref (n 2), .ref (n 3), .ref (n 4), .int 0, .ref (n 5), .int 0, .int 0, .int 0, .int 0, .int 0, .int 0, .int (-1), .ref (n 6), .ref (n 7), .ref (n 8), .ref (n 9), .ref (n 10), .ref (n 11), .ref (n 12), .int 0, .int 0, .int 0, .int 0, .ref (n 13), .ref (n 14), .ref (n 15), .int 0, .int 0, .int 0, .ref (n 16), .ref (n 17), .int 0, .ref (n 18), .long 0, .long 0, .ref (n 19), .int 0, .long 0, .long 0, .long 0, .ref (n 20), .ref (n 21), .ref (n 22), .ref (n 23)])), ((n 1), .inl (k 0, 99, .inl (fun _ => 0)))]) S hK hP hD hS 0 rfl cfX11 28 lkX11_284 (by decide) rfl rfl rfl (Nat.le_of_ble_eq_true rfl) rfl dX11_passOn_186 (fun H locs hP hD hS => ?_)
  refine lv_aload_n hx hb dX11_passOn_189 rfl (lv_at hl 3 rfl) ?_
  refine lv_iload_n hx hb dX11_passOn_190 rfl (lv_at hl 1 rfl) ?_
  refine x_put (ws' := [((n 0), .inr (11, [.int 0, .ref (n 1), .ref (n 2), .ref (n 3), .ref (n 4), .int 0, .ref (n 5), .int 0, .int 0, .int 0, .int 0, .int 0, .int 0, .int (-1), .ref (n 6), .ref (n 7), .ref (n 8), .ref (n 9), .ref (n 10), .ref (n 11), .ref (n 12), .int 0, .int 0, .int 0, .int 0, .ref (n 13), .ref (n 14), .ref (n 15), .int 0, .int 0, .int 0, .ref (n 16), .ref (n 17), .int 0, .ref (n 18), .long 0, .long 0, .ref (n 19), .int 0, .long 0, .long 0, .long 0, .ref (n 20), .ref (n 21), .ref (n 22), .ref (n 23)])), ((n 1), .inl (k 0, 99, .inl (fun _ => 0)))]) S hK hP hD hS 0 rfl cfX11 29 lkX11_287 (by decide) rfl rfl rfl (Nat.le_of_ble_eq_true rfl) rfl dX11_passOn_191 (fun H locs hP hD hS => ?_)
  exact x_retv S hr hlk hQ hS () trivial (x_B (hP.sub [0, 1] rfl) (hD.sub [0, 1] (by decide) rfl)) dX11_passOn_194

set_option maxHeartbeats 4000000 in
set_option maxRecDepth 100000 in
theorem ctX11_goAll (l : Launch) (D : va_G) (k : Nat → ClassId) (n : Nat → Nat) (f1 : Nat → Int32) (f2 : Nat → Int32) (f3 : Nat → Int32)  : MU l yX11_goAll cX11_goAll 2 none 2 D k [.ref (n 0)] [((n 0), .inr (11, [.int 0, .ref (n 1), .ref (n 2), .ref (n 3), .ref (n 4), .int 0, .ref (n 5), .int 0, .int 0, .int 0, .int 0, .int 0, .int 0, .int (-1), .ref (n 6), .ref (n 7), .ref (n 8), .ref (n 9), .ref (n 10), .ref (n 11), .ref (n 12), .int 0, .int 0, .int 0, .int 0, .ref (n 13), .ref (n 14), .ref (n 15), .int 0, .int 0, .int 0, .ref (n 16), .ref (n 17), .int 0, .ref (n 18), .long 0, .long 0, .ref (n 19), .int 0, .long 0, .long 0, .long 0, .ref (n 20), .ref (n 21), .ref (n 22), .ref (n 23)])), ((n 1), .inl (k 0, 99, .inl (fun _ => 0))), ((n 13), .inl (k 0, 17, .inl f1)), ((n 14), .inl (k 0, 17, .inl f2)), ((n 15), .inl (k 0, 17, .inl f3))] 0 0 (Uv D (fun _ : Unit => True) (fun u : Unit => [((n 0), .inr (11, [.int 0, .ref (n 1), .ref (n 2), .ref (n 3), .ref (n 4), .int 0, .ref (n 5), .int 0, .int 0, .int 0, .int 0, .int 0, .int 0, .int (-1), .ref (n 6), .ref (n 7), .ref (n 8), .ref (n 9), .ref (n 10), .ref (n 11), .ref (n 12), .int 0, .int 0, .int 0, .int 0, .ref (n 13), .ref (n 14), .ref (n 15), .int 0, .int 0, .int 0, .ref (n 16), .ref (n 17), .int 0, .ref (n 18), .long 0, .long 0, .ref (n 19), .int 0, .long 0, .long 0, .long 0, .ref (n 20), .ref (n 21), .ref (n 22), .ref (n 23)])), ((n 1), .inl (k 0, 99, .inl (fun _ => 0)))])) := by
  refine MU.of (by decide) (Nat.le_of_ble_eq_true rfl) ?_
  intro p e s m below meth c ls A args Q S hr hlk hnm hQ hK hP hD hA hS hl
  have hx := S.1
  have hb := S.2.1
  have hl : lv_has ls 2 [(0, .ref (n 0))] := hl
  refine lv_aload_n hx hb dX11_goAll_0 rfl (lv_at hl 0 rfl) ?_
  refine lv_iconst (v := 0) hx hb dX11_goAll_1 (by decide) ?_
  refine x_put (ws' := [((n 0), .inr (11, [.int 0, .ref (n 1), .ref (n 2), .ref (n 3), .ref (n 4), .int 0, .ref (n 5), .int 0, .int 0, .int 0, .int 0, .int 0, .int 0, .int (-1), .ref (n 6), .ref (n 7), .ref (n 8), .ref (n 9), .ref (n 10), .ref (n 11), .ref (n 12), .int 0, .int 0, .int 0, .int 0, .ref (n 13), .ref (n 14), .ref (n 15), .int 0, .int 0, .int 0, .ref (n 16), .ref (n 17), .int 0, .ref (n 18), .long 0, .long 0, .ref (n 19), .int 0, .long 0, .long 0, .long 0, .ref (n 20), .ref (n 21), .ref (n 22), .ref (n 23)])), ((n 1), .inl (k 0, 99, .inl (fun _ => 0))), ((n 13), .inl (k 0, 17, .inl f1)), ((n 14), .inl (k 0, 17, .inl f2)), ((n 15), .inl (k 0, 17, .inl f3))]) S hK hP hD hS 0 rfl cfX11 28 lkX11_284 (by decide) rfl rfl rfl (Nat.le_of_ble_eq_true rfl) rfl dX11_goAll_2 (fun H locs hP hD hS => ?_)
  refine lv_aload_n hx hb dX11_goAll_5 rfl (lv_at hl 0 rfl) ?_
  refine lv_iconst (v := 0) hx hb dX11_goAll_6 (by decide) ?_
  refine x_put (ws' := [((n 0), .inr (11, [.int 0, .ref (n 1), .ref (n 2), .ref (n 3), .ref (n 4), .int 0, .ref (n 5), .int 0, .int 0, .int 0, .int 0, .int 0, .int 0, .int (-1), .ref (n 6), .ref (n 7), .ref (n 8), .ref (n 9), .ref (n 10), .ref (n 11), .ref (n 12), .int 0, .int 0, .int 0, .int 0, .ref (n 13), .ref (n 14), .ref (n 15), .int 0, .int 0, .int 0, .ref (n 16), .ref (n 17), .int 0, .ref (n 18), .long 0, .long 0, .ref (n 19), .int 0, .long 0, .long 0, .long 0, .ref (n 20), .ref (n 21), .ref (n 22), .ref (n 23)])), ((n 1), .inl (k 0, 99, .inl (fun _ => 0))), ((n 13), .inl (k 0, 17, .inl f1)), ((n 14), .inl (k 0, 17, .inl f2)), ((n 15), .inl (k 0, 17, .inl f3))]) S hK hP hD hS 0 rfl cfX11 29 lkX11_287 (by decide) rfl rfl rfl (Nat.le_of_ble_eq_true rfl) rfl dX11_goAll_7 (fun H locs hP hD hS => ?_)
  refine lv_aload_n hx hb dX11_goAll_10 rfl (lv_at hl 0 rfl) ?_
  refine lv_iconst (v := 0) hx hb dX11_goAll_11 (by decide) ?_
  refine x_put (ws' := [((n 0), .inr (11, [.int 0, .ref (n 1), .ref (n 2), .ref (n 3), .ref (n 4), .int 0, .ref (n 5), .int 0, .int 0, .int 0, .int 0, .int 0, .int 0, .int (-1), .ref (n 6), .ref (n 7), .ref (n 8), .ref (n 9), .ref (n 10), .ref (n 11), .ref (n 12), .int 0, .int 0, .int 0, .int 0, .ref (n 13), .ref (n 14), .ref (n 15), .int 0, .int 0, .int 0, .ref (n 16), .ref (n 17), .int 0, .ref (n 18), .long 0, .long 0, .ref (n 19), .int 0, .long 0, .long 0, .long 0, .ref (n 20), .ref (n 21), .ref (n 22), .ref (n 23)])), ((n 1), .inl (k 0, 99, .inl (fun _ => 0))), ((n 13), .inl (k 0, 17, .inl f1)), ((n 14), .inl (k 0, 17, .inl f2)), ((n 15), .inl (k 0, 17, .inl f3))]) S hK hP hD hS 0 rfl cfX11 30 lkX11_281 (by decide) rfl rfl rfl (Nat.le_of_ble_eq_true rfl) rfl dX11_goAll_12 (fun H locs hP hD hS => ?_)
  refine lv_iconst (v := 0) hx hb dX11_goAll_15 (by decide) ?_
  refine lv_istore_n (lv' := [(1, .int 0), (0, .ref (n 0))]) hx hb dX11_goAll_16 rfl hl (by decide) rfl (fun ls hl => ?_)
  refine lv_iload_n hx hb dX11_goAll_17 rfl (lv_at hl 0 rfl) ?_
  refine lv_aload_n hx hb dX11_goAll_18 rfl (lv_at hl 1 rfl) ?_
  refine x_roVi (As := []) S hK hP hS hA hl mwX11_hours lkX11_103 (ctX11_hours l D k n ) [0, 1] rfl ((hD.sub [0, 1] (by decide) rfl).weaken (fun _ _ _ _ => trivial)) rfl rfl rfl rfl rfl ⟨Nat.le_of_ble_eq_true rfl, Nat.le_of_ble_eq_true rfl, Nat.le_of_ble_eq_true rfl⟩ dX11_goAll_19 ⟨Nat.le_of_ble_eq_true rfl, Nat.le_of_ble_eq_true rfl⟩ (fun r_1 H locs hr_1 hP hS => ?_)
  subst hr_1
  refine lv_icmp_gt (tgt := 82) hx hb dX11_goAll_22 (by decide) (fun c_2 => absurd c_2 (by decide)) (fun c_2 => ?_)
  refine lv_aload_n hx hb dX11_goAll_25 rfl (lv_at hl 1 rfl) ?_
  refine lv_iload_n hx hb dX11_goAll_26 rfl (lv_at hl 0 rfl) ?_
  refine x_muVv (wr := [((n 13), .inl (k 0, 17, .inl f1)), ((n 14), .inl (k 0, 17, .inl f2)), ((n 15), .inl (k 0, 17, .inl f3))]) (As := [.int 0]) S hK hP hD hS hA hl mwX11_beginHour lkX11_303 (ctX11_beginHour l D k n ) [0, 1] [2, 3, 4] rfl rfl (by decide) (by decide) (by decide) rfl rfl rfl rfl rfl ⟨Nat.le_of_ble_eq_true rfl, Nat.le_of_ble_eq_true rfl, Nat.le_of_ble_eq_true rfl⟩ dX11_goAll_27 ⟨Nat.le_of_ble_eq_true rfl, Nat.le_of_ble_eq_true rfl⟩ (fun u_4 H locs hr_3 hP hD hS => ?_)
  have hP : va_P D vwCl [((n 13), .inl (k 0, 17, .inl f1)), ((n 14), .inl (k 0, 17, .inl f2)), ((n 15), .inl (k 0, 17, .inl f3)), ((n 0), .inr (11, [.int 0, .ref (n 1), .ref (n 2), .ref (n 3), .ref (n 4), .int 0, .ref (n 5), .int 0, .int 0, .int 0, .int 0, .int 0, .int 0, .int (-1), .ref (n 6), .ref (n 7), .ref (n 8), .ref (n 9), .ref (n 10), .ref (n 11), .ref (n 12), .int 0, .int 0, .int 0, .int 0, .ref (n 13), .ref (n 14), .ref (n 15), .int 0, .int 0, .int 0, .ref (n 16), .ref (n 17), .int 0, .ref (n 18), .long 0, .long 0, .ref (n 19), .int 0, .long 0, .long 0, .long 0, .ref (n 20), .ref (n 21), .ref (n 22), .ref (n 23)])), ((n 1), .inl (k 0, 99, .inl (fun _ => 0)))] H := hP
  have hD : va_D A [((n 13), .inl (k 0, 17, .inl f1)), ((n 14), .inl (k 0, 17, .inl f2)), ((n 15), .inl (k 0, 17, .inl f3)), ((n 0), .inr (11, [.int 0, .ref (n 1), .ref (n 2), .ref (n 3), .ref (n 4), .int 0, .ref (n 5), .int 0, .int 0, .int 0, .int 0, .int 0, .int 0, .int (-1), .ref (n 6), .ref (n 7), .ref (n 8), .ref (n 9), .ref (n 10), .ref (n 11), .ref (n 12), .int 0, .int 0, .int 0, .int 0, .ref (n 13), .ref (n 14), .ref (n 15), .int 0, .int 0, .int 0, .ref (n 16), .ref (n 17), .int 0, .ref (n 18), .long 0, .long 0, .ref (n 19), .int 0, .long 0, .long 0, .long 0, .ref (n 20), .ref (n 21), .ref (n 22), .ref (n 23)])), ((n 1), .inl (k 0, 99, .inl (fun _ => 0)))] := hD
  refine lv_aload_n hx hb dX11_goAll_30 rfl (lv_at hl 1 rfl) ?_
  refine x_get S hK hP 3 rfl cfX11 25 lkX11_52 (by decide) rfl dX11_goAll_31 ?_
  refine lv_iload_n hx hb dX11_goAll_34 rfl (lv_at hl 0 rfl) ?_
  refine lv_aload_n hx hb dX11_goAll_35 rfl (lv_at hl 1 rfl) ?_
  refine x_get S hK hP 3 rfl cfX11 28 lkX11_284 (by decide) rfl dX11_goAll_36 ?_
  refine x_iast (ws' := fun f_5 => [((n 13), .inl (k 0, 17, .inl f_5)), ((n 14), .inl (k 0, 17, .inl f2)), ((n 15), .inl (k 0, 17, .inl f3)), ((n 0), .inr (11, [.int 0, .ref (n 1), .ref (n 2), .ref (n 3), .ref (n 4), .int 0, .ref (n 5), .int 0, .int 0, .int 0, .int 0, .int 0, .int 0, .int (-1), .ref (n 6), .ref (n 7), .ref (n 8), .ref (n 9), .ref (n 10), .ref (n 11), .ref (n 12), .int 0, .int 0, .int 0, .int 0, .ref (n 13), .ref (n 14), .ref (n 15), .int 0, .int 0, .int 0, .ref (n 16), .ref (n 17), .int 0, .ref (n 18), .long 0, .long 0, .ref (n 19), .int 0, .long 0, .long 0, .long 0, .ref (n 20), .ref (n 21), .ref (n 22), .ref (n 23)])), ((n 1), .inl (k 0, 99, .inl (fun _ => 0)))]) S hK hP hD hS 0 rfl (vp_lit (by decide)) (fun _ => rfl) dX11_goAll_39 (fun f_5 H locs ef_5 hP hD hS => ?_)
  refine lv_aload_n hx hb dX11_goAll_40 rfl (lv_at hl 1 rfl) ?_
  refine x_get S hK hP 3 rfl cfX11 26 lkX11_55 (by decide) rfl dX11_goAll_41 ?_
  refine lv_iload_n hx hb dX11_goAll_44 rfl (lv_at hl 0 rfl) ?_
  refine lv_aload_n hx hb dX11_goAll_45 rfl (lv_at hl 1 rfl) ?_
  refine x_get S hK hP 3 rfl cfX11 29 lkX11_287 (by decide) rfl dX11_goAll_46 ?_
  refine x_iast (ws' := fun f_6 => [((n 13), .inl (k 0, 17, .inl f_5)), ((n 14), .inl (k 0, 17, .inl f_6)), ((n 15), .inl (k 0, 17, .inl f3)), ((n 0), .inr (11, [.int 0, .ref (n 1), .ref (n 2), .ref (n 3), .ref (n 4), .int 0, .ref (n 5), .int 0, .int 0, .int 0, .int 0, .int 0, .int 0, .int (-1), .ref (n 6), .ref (n 7), .ref (n 8), .ref (n 9), .ref (n 10), .ref (n 11), .ref (n 12), .int 0, .int 0, .int 0, .int 0, .ref (n 13), .ref (n 14), .ref (n 15), .int 0, .int 0, .int 0, .ref (n 16), .ref (n 17), .int 0, .ref (n 18), .long 0, .long 0, .ref (n 19), .int 0, .long 0, .long 0, .long 0, .ref (n 20), .ref (n 21), .ref (n 22), .ref (n 23)])), ((n 1), .inl (k 0, 99, .inl (fun _ => 0)))]) S hK hP hD hS 1 rfl (vp_lit (by decide)) (fun _ => rfl) dX11_goAll_49 (fun f_6 H locs ef_6 hP hD hS => ?_)
  refine lv_aload_n hx hb dX11_goAll_50 rfl (lv_at hl 1 rfl) ?_
  refine x_get S hK hP 3 rfl cfX11 27 lkX11_58 (by decide) rfl dX11_goAll_51 ?_
  refine lv_iload_n hx hb dX11_goAll_54 rfl (lv_at hl 0 rfl) ?_
  refine lv_aload_n hx hb dX11_goAll_55 rfl (lv_at hl 1 rfl) ?_
  refine x_get S hK hP 3 rfl cfX11 30 lkX11_281 (by decide) rfl dX11_goAll_56 ?_
  refine x_iast (ws' := fun f_7 => [((n 13), .inl (k 0, 17, .inl f_5)), ((n 14), .inl (k 0, 17, .inl f_6)), ((n 15), .inl (k 0, 17, .inl f_7)), ((n 0), .inr (11, [.int 0, .ref (n 1), .ref (n 2), .ref (n 3), .ref (n 4), .int 0, .ref (n 5), .int 0, .int 0, .int 0, .int 0, .int 0, .int 0, .int (-1), .ref (n 6), .ref (n 7), .ref (n 8), .ref (n 9), .ref (n 10), .ref (n 11), .ref (n 12), .int 0, .int 0, .int 0, .int 0, .ref (n 13), .ref (n 14), .ref (n 15), .int 0, .int 0, .int 0, .ref (n 16), .ref (n 17), .int 0, .ref (n 18), .long 0, .long 0, .ref (n 19), .int 0, .long 0, .long 0, .long 0, .ref (n 20), .ref (n 21), .ref (n 22), .ref (n 23)])), ((n 1), .inl (k 0, 99, .inl (fun _ => 0)))]) S hK hP hD hS 2 rfl (vp_lit (by decide)) (fun _ => rfl) dX11_goAll_59 (fun f_7 H locs ef_7 hP hD hS => ?_)
  refine lv_aload_n hx hb dX11_goAll_60 rfl (lv_at hl 1 rfl) ?_
  refine x_get S hK hP 3 rfl cfX11 23 lkX11_264 (by decide) rfl dX11_goAll_61 ?_
  refine lv_iload_n hx hb dX11_goAll_64 rfl (lv_at hl 0 rfl) ?_
  refine x_roSi (As := [.int 0, .int 0]) S hK hP hS hA hl mwX11_bit lkX11_274 (ctX11_bit l D k 0 0 ) [] rfl D_nil rfl rfl ⟨Nat.le_of_ble_eq_true rfl, Nat.le_of_ble_eq_true rfl, Nat.le_of_ble_eq_true rfl⟩ dX11_goAll_65 ⟨Nat.le_of_ble_eq_true rfl, Nat.le_of_ble_eq_true rfl⟩ (fun r_8 H locs hr_8 hP hS => ?_)
  refine lv_if_ne (tgt := 76) hx hb dX11_goAll_68 (by decide) (fun c_9 => ?_) (fun c_9 => ?_)
  · skip
    refine lv_iinc (v := 1) (lv' := [(1, .int 1), (0, .ref (n 0))]) hx hb dX11_goAll_76 hl (k := 0) rfl (by decide) (by decide) rfl (fun ls hl => ?_)
    refine lv_goto (tgt := 17) hx hb dX11_goAll_79 (by decide) ?_
    refine lv_iload_n hx hb dX11_goAll_17 rfl (lv_at hl 0 rfl) ?_
    refine lv_aload_n hx hb dX11_goAll_18 rfl (lv_at hl 1 rfl) ?_
    refine x_roVi (As := []) S hK hP hS hA hl mwX11_hours lkX11_103 (ctX11_hours l D k n ) [3, 4] rfl ((hD.sub [3, 4] (by decide) rfl).weaken (fun _ _ _ _ => trivial)) rfl rfl rfl rfl rfl ⟨Nat.le_of_ble_eq_true rfl, Nat.le_of_ble_eq_true rfl, Nat.le_of_ble_eq_true rfl⟩ dX11_goAll_19 ⟨Nat.le_of_ble_eq_true rfl, Nat.le_of_ble_eq_true rfl⟩ (fun r_10 H locs hr_10 hP hS => ?_)
    subst hr_10
    refine lv_icmp_gt (tgt := 82) hx hb dX11_goAll_22 (by decide) (fun c_11 => ?_) (fun c_11 => absurd (by decide) c_11)
    exact x_retv S hr hlk hQ hS () trivial (x_B (hP.sub [3, 4] rfl) (hD.sub [3, 4] (by decide) rfl)) dX11_goAll_82
  · skip
    refine lv_aload_n hx hb dX11_goAll_71 rfl (lv_at hl 1 rfl) ?_
    refine lv_iload_n hx hb dX11_goAll_72 rfl (lv_at hl 0 rfl) ?_
    refine x_muVv (wr := [((n 13), .inl (k 0, 17, .inl f_5)), ((n 14), .inl (k 0, 17, .inl f_6)), ((n 15), .inl (k 0, 17, .inl f_7))]) (As := [.int 0]) S hK hP hD hS hA hl mwX11_passOn lkX11_306 (ctX11_passOn l D k n ) [3, 4] [0, 1, 2] rfl rfl (by decide) (by decide) (by decide) rfl rfl rfl rfl rfl ⟨Nat.le_of_ble_eq_true rfl, Nat.le_of_ble_eq_true rfl, Nat.le_of_ble_eq_true rfl⟩ dX11_goAll_73 ⟨Nat.le_of_ble_eq_true rfl, Nat.le_of_ble_eq_true rfl⟩ (fun u_13 H locs hr_12 hP hD hS => ?_)
    have hP : va_P D vwCl [((n 13), .inl (k 0, 17, .inl f_5)), ((n 14), .inl (k 0, 17, .inl f_6)), ((n 15), .inl (k 0, 17, .inl f_7)), ((n 0), .inr (11, [.int 0, .ref (n 1), .ref (n 2), .ref (n 3), .ref (n 4), .int 0, .ref (n 5), .int 0, .int 0, .int 0, .int 0, .int 0, .int 0, .int (-1), .ref (n 6), .ref (n 7), .ref (n 8), .ref (n 9), .ref (n 10), .ref (n 11), .ref (n 12), .int 0, .int 0, .int 0, .int 0, .ref (n 13), .ref (n 14), .ref (n 15), .int 0, .int 0, .int 0, .ref (n 16), .ref (n 17), .int 0, .ref (n 18), .long 0, .long 0, .ref (n 19), .int 0, .long 0, .long 0, .long 0, .ref (n 20), .ref (n 21), .ref (n 22), .ref (n 23)])), ((n 1), .inl (k 0, 99, .inl (fun _ => 0)))] H := hP
    have hD : va_D A [((n 13), .inl (k 0, 17, .inl f_5)), ((n 14), .inl (k 0, 17, .inl f_6)), ((n 15), .inl (k 0, 17, .inl f_7)), ((n 0), .inr (11, [.int 0, .ref (n 1), .ref (n 2), .ref (n 3), .ref (n 4), .int 0, .ref (n 5), .int 0, .int 0, .int 0, .int 0, .int 0, .int 0, .int (-1), .ref (n 6), .ref (n 7), .ref (n 8), .ref (n 9), .ref (n 10), .ref (n 11), .ref (n 12), .int 0, .int 0, .int 0, .int 0, .ref (n 13), .ref (n 14), .ref (n 15), .int 0, .int 0, .int 0, .ref (n 16), .ref (n 17), .int 0, .ref (n 18), .long 0, .long 0, .ref (n 19), .int 0, .long 0, .long 0, .long 0, .ref (n 20), .ref (n 21), .ref (n 22), .ref (n 23)])), ((n 1), .inl (k 0, 99, .inl (fun _ => 0)))] := hD
    refine lv_iinc (v := 1) (lv' := [(1, .int 1), (0, .ref (n 0))]) hx hb dX11_goAll_76 hl (k := 0) rfl (by decide) (by decide) rfl (fun ls hl => ?_)
    refine lv_goto (tgt := 17) hx hb dX11_goAll_79 (by decide) ?_
    refine lv_iload_n hx hb dX11_goAll_17 rfl (lv_at hl 0 rfl) ?_
    refine lv_aload_n hx hb dX11_goAll_18 rfl (lv_at hl 1 rfl) ?_
    refine x_roVi (As := []) S hK hP hS hA hl mwX11_hours lkX11_103 (ctX11_hours l D k n ) [3, 4] rfl ((hD.sub [3, 4] (by decide) rfl).weaken (fun _ _ _ _ => trivial)) rfl rfl rfl rfl rfl ⟨Nat.le_of_ble_eq_true rfl, Nat.le_of_ble_eq_true rfl, Nat.le_of_ble_eq_true rfl⟩ dX11_goAll_19 ⟨Nat.le_of_ble_eq_true rfl, Nat.le_of_ble_eq_true rfl⟩ (fun r_14 H locs hr_14 hP hS => ?_)
    subst hr_14
    refine lv_icmp_gt (tgt := 82) hx hb dX11_goAll_22 (by decide) (fun c_15 => ?_) (fun c_15 => absurd (by decide) c_15)
    exact x_retv S hr hlk hQ hS () trivial (x_B (hP.sub [3, 4] rfl) (hD.sub [3, 4] (by decide) rfl)) dX11_goAll_82

set_option maxHeartbeats 4000000 in
set_option maxRecDepth 100000 in
theorem ctX11_asksGarden (l : Launch) (D : va_G) (k : Nat → ClassId) (n : Nat → Nat) (f0 : Nat → Int32) (f1 : Nat → Int32) (f2 : Nat → Int32) (f3 : Nat → Int32)  : MU l yX11_asksGarden cX11_asksGarden 1 (some .boolean) 3 D k [.ref (n 0)] [((n 0), .inr (11, [.int 0, .ref (n 1), .ref (n 2), .ref (n 3), .ref (n 4), .int 0, .ref (n 5), .int 0, .int 0, .int 0, .int 0, .int 0, .int 0, .int (-1), .ref (n 6), .ref (n 7), .ref (n 8), .ref (n 9), .ref (n 10), .ref (n 11), .ref (n 12), .int 0, .int 0, .int 0, .int 0, .ref (n 13), .ref (n 14), .ref (n 15), .int 0, .int 0, .int 0, .ref (n 16), .ref (n 17), .int 0, .ref (n 18), .long 0, .long 0, .ref (n 19), .int 0, .long 0, .long 0, .long 0, .ref (n 20), .ref (n 21), .ref (n 22), .ref (n 23)])), ((n 1), .inl (k 0, 99, .inl (fun _ => 0))), ((n 10), .inl (k 0, 12, .inl f0)), ((n 13), .inl (k 0, 17, .inl f1)), ((n 14), .inl (k 0, 17, .inl f2)), ((n 15), .inl (k 0, 17, .inl f3))] 0 0 (Ui D (fun (r : Int32) (u : Unit) => r = 0) (fun u : Unit => [((n 0), .inr (11, [.int 0, .ref (n 1), .ref (n 2), .ref (n 3), .ref (n 4), .int 0, .ref (n 5), .int 0, .int 0, .int 0, .int 0, .int 0, .int 0, .int (-1), .ref (n 6), .ref (n 7), .ref (n 8), .ref (n 9), .ref (n 10), .ref (n 11), .ref (n 12), .int 0, .int 0, .int 0, .int 0, .ref (n 13), .ref (n 14), .ref (n 15), .int 0, .int 0, .int 0, .ref (n 16), .ref (n 17), .int 0, .ref (n 18), .long 0, .long 0, .ref (n 19), .int 0, .long 0, .long 0, .long 0, .ref (n 20), .ref (n 21), .ref (n 22), .ref (n 23)])), ((n 1), .inl (k 0, 99, .inl (fun _ => 0)))])) := by
  refine MU.of (by decide) (Nat.le_of_ble_eq_true rfl) ?_
  intro p e s m below meth c ls A args Q S hr hlk hnm hQ hK hP hD hA hS hl
  have hx := S.1
  have hb := S.2.1
  have hl : lv_has ls 1 [(0, .ref (n 0))] := hl
  refine lv_aload_n hx hb dX11_asksGarden_0 rfl (lv_at hl 0 rfl) ?_
  refine x_muVv (wr := [((n 13), .inl (k 0, 17, .inl f1)), ((n 14), .inl (k 0, 17, .inl f2)), ((n 15), .inl (k 0, 17, .inl f3))]) (As := []) S hK hP hD hS hA hl mwX11_asItIs lkX11_309 (ctX11_asItIs l D k n f0 ) [0, 1, 2] [3, 4, 5] rfl rfl (by decide) (by decide) (by decide) rfl rfl rfl rfl rfl ⟨Nat.le_of_ble_eq_true rfl, Nat.le_of_ble_eq_true rfl, Nat.le_of_ble_eq_true rfl⟩ dX11_asksGarden_1 ⟨Nat.le_of_ble_eq_true rfl, Nat.le_of_ble_eq_true rfl⟩ (fun u_2 H locs hr_1 hP hD hS => ?_)
  have hP : va_P D vwCl [((n 13), .inl (k 0, 17, .inl f1)), ((n 14), .inl (k 0, 17, .inl f2)), ((n 15), .inl (k 0, 17, .inl f3)), ((n 0), .inr (11, [.int 0, .ref (n 1), .ref (n 2), .ref (n 3), .ref (n 4), .int 0, .ref (n 5), .int 0, .int 0, .int 0, .int 0, .int 0, .int 0, .int (-1), .ref (n 6), .ref (n 7), .ref (n 8), .ref (n 9), .ref (n 10), .ref (n 11), .ref (n 12), .int 0, .int 0, .int 0, .int 0, .ref (n 13), .ref (n 14), .ref (n 15), .int 0, .int 0, .int 0, .ref (n 16), .ref (n 17), .int 0, .ref (n 18), .long 0, .long 0, .ref (n 19), .int 0, .long 0, .long 0, .long 0, .ref (n 20), .ref (n 21), .ref (n 22), .ref (n 23)])), ((n 1), .inl (k 0, 99, .inl (fun _ => 0))), ((n 10), .inl (k 0, 12, .inl u_2))] H := hP
  have hD : va_D A [((n 13), .inl (k 0, 17, .inl f1)), ((n 14), .inl (k 0, 17, .inl f2)), ((n 15), .inl (k 0, 17, .inl f3)), ((n 0), .inr (11, [.int 0, .ref (n 1), .ref (n 2), .ref (n 3), .ref (n 4), .int 0, .ref (n 5), .int 0, .int 0, .int 0, .int 0, .int 0, .int 0, .int (-1), .ref (n 6), .ref (n 7), .ref (n 8), .ref (n 9), .ref (n 10), .ref (n 11), .ref (n 12), .int 0, .int 0, .int 0, .int 0, .ref (n 13), .ref (n 14), .ref (n 15), .int 0, .int 0, .int 0, .ref (n 16), .ref (n 17), .int 0, .ref (n 18), .long 0, .long 0, .ref (n 19), .int 0, .long 0, .long 0, .long 0, .ref (n 20), .ref (n 21), .ref (n 22), .ref (n 23)])), ((n 1), .inl (k 0, 99, .inl (fun _ => 0))), ((n 10), .inl (k 0, 12, .inl u_2))] := hD
  refine lv_aload_n hx hb dX11_asksGarden_4 rfl (lv_at hl 0 rfl) ?_
  refine x_muVv (wr := [((n 10), .inl (k 0, 12, .inl u_2))]) (As := []) S hK hP hD hS hA hl mwX11_goAll lkX11_312 (ctX11_goAll l D k n f1 f2 f3 ) [3, 4, 0, 1, 2] [5] rfl rfl (by decide) (by decide) (by decide) rfl rfl rfl rfl rfl ⟨Nat.le_of_ble_eq_true rfl, Nat.le_of_ble_eq_true rfl, Nat.le_of_ble_eq_true rfl⟩ dX11_asksGarden_5 ⟨Nat.le_of_ble_eq_true rfl, Nat.le_of_ble_eq_true rfl⟩ (fun u_4 H locs hr_3 hP hD hS => ?_)
  have hP : va_P D vwCl [((n 10), .inl (k 0, 12, .inl u_2)), ((n 0), .inr (11, [.int 0, .ref (n 1), .ref (n 2), .ref (n 3), .ref (n 4), .int 0, .ref (n 5), .int 0, .int 0, .int 0, .int 0, .int 0, .int 0, .int (-1), .ref (n 6), .ref (n 7), .ref (n 8), .ref (n 9), .ref (n 10), .ref (n 11), .ref (n 12), .int 0, .int 0, .int 0, .int 0, .ref (n 13), .ref (n 14), .ref (n 15), .int 0, .int 0, .int 0, .ref (n 16), .ref (n 17), .int 0, .ref (n 18), .long 0, .long 0, .ref (n 19), .int 0, .long 0, .long 0, .long 0, .ref (n 20), .ref (n 21), .ref (n 22), .ref (n 23)])), ((n 1), .inl (k 0, 99, .inl (fun _ => 0)))] H := hP
  have hD : va_D A [((n 10), .inl (k 0, 12, .inl u_2)), ((n 0), .inr (11, [.int 0, .ref (n 1), .ref (n 2), .ref (n 3), .ref (n 4), .int 0, .ref (n 5), .int 0, .int 0, .int 0, .int 0, .int 0, .int 0, .int (-1), .ref (n 6), .ref (n 7), .ref (n 8), .ref (n 9), .ref (n 10), .ref (n 11), .ref (n 12), .int 0, .int 0, .int 0, .int 0, .ref (n 13), .ref (n 14), .ref (n 15), .int 0, .int 0, .int 0, .ref (n 16), .ref (n 17), .int 0, .ref (n 18), .long 0, .long 0, .ref (n 19), .int 0, .long 0, .long 0, .long 0, .ref (n 20), .ref (n 21), .ref (n 22), .ref (n 23)])), ((n 1), .inl (k 0, 99, .inl (fun _ => 0)))] := hD
  refine lv_aload_n hx hb dX11_asksGarden_8 rfl (lv_at hl 0 rfl) ?_
  refine x_roVi (As := []) S hK hP hS hA hl mwX11_isGarden lkX11_99 (ctX11_isGarden l D k n ) [1, 2] rfl ((hD.sub [1, 2] (by decide) rfl).weaken (fun _ _ _ _ => trivial)) rfl rfl rfl rfl rfl ⟨Nat.le_of_ble_eq_true rfl, Nat.le_of_ble_eq_true rfl, Nat.le_of_ble_eq_true rfl⟩ dX11_asksGarden_9 ⟨Nat.le_of_ble_eq_true rfl, Nat.le_of_ble_eq_true rfl⟩ (fun r_5 H locs hr_5 hP hS => ?_)
  subst hr_5
  exact x_retz S hr hlk hQ hS rfl () rfl (x_B (hP.sub [1, 2] rfl) (hD.sub [1, 2] (by decide) rfl)) dX11_asksGarden_12

set_option maxHeartbeats 4000000 in
set_option maxRecDepth 100000 in
theorem ctX11_asksHour (l : Launch) (D : va_G) (k : Nat → ClassId) (n : Nat → Nat) (f0 : Nat → Int32) (f1 : Nat → Int32) (f2 : Nat → Int32) (f3 : Nat → Int32) (p0 : Int32)  : MU l yX11_asksHour cX11_asksHour 2 (some .boolean) 4 D k [.ref (n 0), .int p0] [((n 0), .inr (11, [.int 0, .ref (n 1), .ref (n 2), .ref (n 3), .ref (n 4), .int 0, .ref (n 5), .int 0, .int 0, .int 0, .int 0, .int 0, .int 0, .int (-1), .ref (n 6), .ref (n 7), .ref (n 8), .ref (n 9), .ref (n 10), .ref (n 11), .ref (n 12), .int 0, .int 0, .int 0, .int 0, .ref (n 13), .ref (n 14), .ref (n 15), .int 0, .int 0, .int 0, .ref (n 16), .ref (n 17), .int 0, .ref (n 18), .long 0, .long 0, .ref (n 19), .int 0, .long 0, .long 0, .long 0, .ref (n 20), .ref (n 21), .ref (n 22), .ref (n 23)])), ((n 1), .inl (k 0, 99, .inl (fun _ => 0))), ((n 10), .inl (k 0, 12, .inl f0)), ((n 13), .inl (k 0, 17, .inl f1)), ((n 14), .inl (k 0, 17, .inl f2)), ((n 15), .inl (k 0, 17, .inl f3))] 0 0 (Ui D (fun (r : Int32) (u : Unit) => r = 0) (fun _ : Unit => [])) := by
  refine MU.of (by decide) (Nat.le_of_ble_eq_true rfl) ?_
  intro p e s m below meth c ls A args Q S hr hlk hnm hQ hK hP hD hA hS hl
  have hx := S.1
  have hb := S.2.1
  have hl : lv_has ls 2 [(0, .ref (n 0)), (1, .int p0)] := hl
  refine lv_aload_n hx hb dX11_asksHour_0 rfl (lv_at hl 0 rfl) ?_
  refine x_muVi (wr := []) (As := []) S hK hP hD hS hA hl mwX11_asksGarden lkX11_315 (ctX11_asksGarden l D k n f0 f1 f2 f3 ) [0, 1, 2, 3, 4, 5] [] rfl rfl (by decide) (by decide) (by decide) rfl rfl rfl rfl rfl ⟨Nat.le_of_ble_eq_true rfl, Nat.le_of_ble_eq_true rfl, Nat.le_of_ble_eq_true rfl⟩ dX11_asksHour_1 ⟨Nat.le_of_ble_eq_true rfl, Nat.le_of_ble_eq_true rfl⟩ (fun r_1 u_2 H locs hr_1 hP hD hS => ?_)
  have hP : va_P D vwCl [((n 0), .inr (11, [.int 0, .ref (n 1), .ref (n 2), .ref (n 3), .ref (n 4), .int 0, .ref (n 5), .int 0, .int 0, .int 0, .int 0, .int 0, .int 0, .int (-1), .ref (n 6), .ref (n 7), .ref (n 8), .ref (n 9), .ref (n 10), .ref (n 11), .ref (n 12), .int 0, .int 0, .int 0, .int 0, .ref (n 13), .ref (n 14), .ref (n 15), .int 0, .int 0, .int 0, .ref (n 16), .ref (n 17), .int 0, .ref (n 18), .long 0, .long 0, .ref (n 19), .int 0, .long 0, .long 0, .long 0, .ref (n 20), .ref (n 21), .ref (n 22), .ref (n 23)])), ((n 1), .inl (k 0, 99, .inl (fun _ => 0)))] H := hP
  have hD : va_D A [((n 0), .inr (11, [.int 0, .ref (n 1), .ref (n 2), .ref (n 3), .ref (n 4), .int 0, .ref (n 5), .int 0, .int 0, .int 0, .int 0, .int 0, .int 0, .int (-1), .ref (n 6), .ref (n 7), .ref (n 8), .ref (n 9), .ref (n 10), .ref (n 11), .ref (n 12), .int 0, .int 0, .int 0, .int 0, .ref (n 13), .ref (n 14), .ref (n 15), .int 0, .int 0, .int 0, .ref (n 16), .ref (n 17), .int 0, .ref (n 18), .long 0, .long 0, .ref (n 19), .int 0, .long 0, .long 0, .long 0, .ref (n 20), .ref (n 21), .ref (n 22), .ref (n 23)])), ((n 1), .inl (k 0, 99, .inl (fun _ => 0)))] := hD
  subst hr_1
  refine lv_pop hx hb dX11_asksHour_4 rfl ?_
  refine lv_aload_n hx hb dX11_asksHour_5 rfl (lv_at hl 0 rfl) ?_
  refine lv_iload_n hx hb dX11_asksHour_6 rfl (lv_at hl 1 rfl) ?_
  refine lv_i2l (v := p0.toInt64) hx hb dX11_asksHour_7 rfl ?_
  refine x_roVi (As := [.long (p0.toInt64)]) S hK hP hS hA hl mwX11_isHour lkX11_318 (ctX11_isHour l D k n (p0.toInt64) ) [0, 1] rfl ((hD.sub [0, 1] (by decide) rfl).weaken (fun _ _ _ _ => trivial)) rfl rfl rfl rfl rfl ⟨Nat.le_of_ble_eq_true rfl, Nat.le_of_ble_eq_true rfl, Nat.le_of_ble_eq_true rfl⟩ dX11_asksHour_8 ⟨Nat.le_of_ble_eq_true rfl, Nat.le_of_ble_eq_true rfl⟩ (fun r_3 H locs hr_3 hP hS => ?_)
  subst hr_3
  exact x_retz S hr hlk hQ hS rfl () rfl (x_B P_nil D_nil) dX11_asksHour_11

set_option maxHeartbeats 4000000 in
set_option maxRecDepth 100000 in
theorem ctX11_asksHead (l : Launch) (D : va_G) (k : Nat → ClassId) (n : Nat → Nat) (f0 : Nat → Int32) (f1 : Nat → Int32) (f2 : Nat → Int32) (f3 : Nat → Int32) (p0 : Int32)  : MU l yX11_asksHead cX11_asksHead 2 (some .boolean) 4 D k [.ref (n 0), .int p0] [((n 0), .inr (11, [.int 0, .ref (n 1), .ref (n 2), .ref (n 3), .ref (n 4), .int 0, .ref (n 5), .int 0, .int 0, .int 0, .int 0, .int 0, .int 0, .int (-1), .ref (n 6), .ref (n 7), .ref (n 8), .ref (n 9), .ref (n 10), .ref (n 11), .ref (n 12), .int 0, .int 0, .int 0, .int 0, .ref (n 13), .ref (n 14), .ref (n 15), .int 0, .int 0, .int 0, .ref (n 16), .ref (n 17), .int 0, .ref (n 18), .long 0, .long 0, .ref (n 19), .int 0, .long 0, .long 0, .long 0, .ref (n 20), .ref (n 21), .ref (n 22), .ref (n 23)])), ((n 1), .inl (k 0, 99, .inl (fun _ => 0))), ((n 10), .inl (k 0, 12, .inl f0)), ((n 13), .inl (k 0, 17, .inl f1)), ((n 14), .inl (k 0, 17, .inl f2)), ((n 15), .inl (k 0, 17, .inl f3))] 0 0 (Ui D (fun (r : Int32) (u : Unit) => r = 0) (fun _ : Unit => [])) := by
  refine MU.of (by decide) (Nat.le_of_ble_eq_true rfl) ?_
  intro p e s m below meth c ls A args Q S hr hlk hnm hQ hK hP hD hA hS hl
  have hx := S.1
  have hb := S.2.1
  have hl : lv_has ls 2 [(0, .ref (n 0)), (1, .int p0)] := hl
  refine lv_aload_n hx hb dX11_asksHead_0 rfl (lv_at hl 0 rfl) ?_
  refine x_muVi (wr := []) (As := []) S hK hP hD hS hA hl mwX11_asksGarden lkX11_315 (ctX11_asksGarden l D k n f0 f1 f2 f3 ) [0, 1, 2, 3, 4, 5] [] rfl rfl (by decide) (by decide) (by decide) rfl rfl rfl rfl rfl ⟨Nat.le_of_ble_eq_true rfl, Nat.le_of_ble_eq_true rfl, Nat.le_of_ble_eq_true rfl⟩ dX11_asksHead_1 ⟨Nat.le_of_ble_eq_true rfl, Nat.le_of_ble_eq_true rfl⟩ (fun r_1 u_2 H locs hr_1 hP hD hS => ?_)
  have hP : va_P D vwCl [((n 0), .inr (11, [.int 0, .ref (n 1), .ref (n 2), .ref (n 3), .ref (n 4), .int 0, .ref (n 5), .int 0, .int 0, .int 0, .int 0, .int 0, .int 0, .int (-1), .ref (n 6), .ref (n 7), .ref (n 8), .ref (n 9), .ref (n 10), .ref (n 11), .ref (n 12), .int 0, .int 0, .int 0, .int 0, .ref (n 13), .ref (n 14), .ref (n 15), .int 0, .int 0, .int 0, .ref (n 16), .ref (n 17), .int 0, .ref (n 18), .long 0, .long 0, .ref (n 19), .int 0, .long 0, .long 0, .long 0, .ref (n 20), .ref (n 21), .ref (n 22), .ref (n 23)])), ((n 1), .inl (k 0, 99, .inl (fun _ => 0)))] H := hP
  have hD : va_D A [((n 0), .inr (11, [.int 0, .ref (n 1), .ref (n 2), .ref (n 3), .ref (n 4), .int 0, .ref (n 5), .int 0, .int 0, .int 0, .int 0, .int 0, .int 0, .int (-1), .ref (n 6), .ref (n 7), .ref (n 8), .ref (n 9), .ref (n 10), .ref (n 11), .ref (n 12), .int 0, .int 0, .int 0, .int 0, .ref (n 13), .ref (n 14), .ref (n 15), .int 0, .int 0, .int 0, .ref (n 16), .ref (n 17), .int 0, .ref (n 18), .long 0, .long 0, .ref (n 19), .int 0, .long 0, .long 0, .long 0, .ref (n 20), .ref (n 21), .ref (n 22), .ref (n 23)])), ((n 1), .inl (k 0, 99, .inl (fun _ => 0)))] := hD
  subst hr_1
  refine lv_pop hx hb dX11_asksHead_4 rfl ?_
  refine lv_aload_n hx hb dX11_asksHead_5 rfl (lv_at hl 0 rfl) ?_
  refine lv_iload_n hx hb dX11_asksHead_6 rfl (lv_at hl 1 rfl) ?_
  refine lv_i2l (v := p0.toInt64) hx hb dX11_asksHead_7 rfl ?_
  refine x_roVi (As := [.long (p0.toInt64)]) S hK hP hS hA hl mwX11_isHead lkX11_237 (ctX11_isHead l D k n (p0.toInt64) ) [0, 1] rfl ((hD.sub [0, 1] (by decide) rfl).weaken (fun _ _ _ _ => trivial)) rfl rfl rfl rfl rfl ⟨Nat.le_of_ble_eq_true rfl, Nat.le_of_ble_eq_true rfl, Nat.le_of_ble_eq_true rfl⟩ dX11_asksHead_8 ⟨Nat.le_of_ble_eq_true rfl, Nat.le_of_ble_eq_true rfl⟩ (fun r_3 H locs hr_3 hP hS => ?_)
  subst hr_3
  exact x_retz S hr hlk hQ hS rfl () rfl (x_B P_nil D_nil) dX11_asksHead_11

set_option maxHeartbeats 4000000 in
set_option maxRecDepth 100000 in
theorem ctX11_areTwo (l : Launch) (D : va_G) (k : Nat → ClassId) (n : Nat → Nat) (p0 : Int32) (p1 : Int32)  : RO l yX11_areTwo cX11_areTwo 3 (some .boolean) 2 D k [.ref (n 0), .int p0, .int p1] [((n 0), .inr (11, [.int 0, .ref (n 1), .ref (n 2), .ref (n 3), .ref (n 4), .int 0, .ref (n 5), .int 0, .int 0, .int 0, .int 0, .int 0, .int 0, .int (-1), .ref (n 6), .ref (n 7), .ref (n 8), .ref (n 9), .ref (n 10), .ref (n 11), .ref (n 12), .int 0, .int 0, .int 0, .int 0, .ref (n 13), .ref (n 14), .ref (n 15), .int 0, .int 0, .int 0, .ref (n 16), .ref (n 17), .int 0, .ref (n 18), .long 0, .long 0, .ref (n 19), .int 0, .long 0, .long 0, .long 0, .ref (n 20), .ref (n 21), .ref (n 22), .ref (n 23)])), ((n 1), .inl (k 0, 99, .inl (fun _ => 0)))] (Qi (fun r : Int32 => r = 0)) := by
  refine RO.of (by decide) (Nat.le_of_ble_eq_true rfl) ?_
  intro p e s m below meth c ls A args Q S hr hlk hQ hK hP hDW hA hS hl
  have hx := S.1
  have hb := S.2.1
  have hl : lv_has ls 3 [(0, .ref (n 0)), (1, .int p0), (2, .int p1)] := hl
  refine lv_aload_n hx hb dX11_areTwo_0 rfl (lv_at hl 0 rfl) ?_
  refine lv_iload_n hx hb dX11_areTwo_1 rfl (lv_at hl 1 rfl) ?_
  refine lv_i2l (v := p0.toInt64) hx hb dX11_areTwo_2 rfl ?_
  refine x_roVi (As := [.long (p0.toInt64)]) S hK hP hS hA hl mwX11_isHead lkX11_237 (ctX11_isHead l D k n (p0.toInt64) ) [0, 1] rfl (hDW.sub [0, 1] (by decide) rfl) rfl rfl rfl rfl rfl ⟨Nat.le_of_ble_eq_true rfl, Nat.le_of_ble_eq_true rfl, Nat.le_of_ble_eq_true rfl⟩ dX11_areTwo_3 ⟨Nat.le_of_ble_eq_true rfl, Nat.le_of_ble_eq_true rfl⟩ (fun r_1 H locs hr_1 hP hS => ?_)
  subst hr_1
  refine lv_if_eq (tgt := 27) hx hb dX11_areTwo_6 (by decide) (fun c_2 => ?_) (fun c_2 => absurd (by decide) c_2)
  refine lv_iconst (v := 0) hx hb dX11_areTwo_27 (by decide) ?_
  exact x_retz S hr hlk hQ hS rfl () rfl x_T dX11_areTwo_28

set_option maxHeartbeats 4000000 in
set_option maxRecDepth 100000 in
theorem ctX11_isWet (l : Launch) (D : va_G) (k : Nat → ClassId) (n : Nat → Nat) (p0 : Int32) (p1 : Int32)  : RO l yX11_isWet cX11_isWet 3 (some .boolean) 1 D k [.ref (n 0), .int p0, .int p1] [((n 0), .inr (11, [.int 0, .ref (n 1), .ref (n 2), .ref (n 3), .ref (n 4), .int 0, .ref (n 5), .int 0, .int 0, .int 0, .int 0, .int 0, .int 0, .int (-1), .ref (n 6), .ref (n 7), .ref (n 8), .ref (n 9), .ref (n 10), .ref (n 11), .ref (n 12), .int 0, .int 0, .int 0, .int 0, .ref (n 13), .ref (n 14), .ref (n 15), .int 0, .int 0, .int 0, .ref (n 16), .ref (n 17), .int 0, .ref (n 18), .long 0, .long 0, .ref (n 19), .int 0, .long 0, .long 0, .long 0, .ref (n 20), .ref (n 21), .ref (n 22), .ref (n 23)])), ((n 1), .inl (k 0, 99, .inl (fun _ => 0)))] (Qi (fun r : Int32 => r = 0)) := by
  refine RO.of (by decide) (Nat.le_of_ble_eq_true rfl) ?_
  intro p e s m below meth c ls A args Q S hr hlk hQ hK hP hDW hA hS hl
  have hx := S.1
  have hb := S.2.1
  have hl : lv_has ls 3 [(0, .ref (n 0)), (1, .int p0), (2, .int p1)] := hl
  refine lv_aload_n hx hb dX11_isWet_0 rfl (lv_at hl 0 rfl) ?_
  refine x_roVi (As := []) S hK hP hS hA hl mwX11_isGarden lkX11_99 (ctX11_isGarden l D k n ) [0, 1] rfl (hDW.sub [0, 1] (by decide) rfl) rfl rfl rfl rfl rfl ⟨Nat.le_of_ble_eq_true rfl, Nat.le_of_ble_eq_true rfl, Nat.le_of_ble_eq_true rfl⟩ dX11_isWet_1 ⟨Nat.le_of_ble_eq_true rfl, Nat.le_of_ble_eq_true rfl⟩ (fun r_1 H locs hr_1 hP hS => ?_)
  subst hr_1
  refine lv_if_eq (tgt := 41) hx hb dX11_isWet_4 (by decide) (fun c_2 => ?_) (fun c_2 => absurd (by decide) c_2)
  refine lv_iconst (v := 0) hx hb dX11_isWet_41 (by decide) ?_
  exact x_retz S hr hlk hQ hS rfl () rfl x_T dX11_isWet_42

set_option maxHeartbeats 4000000 in
set_option maxRecDepth 100000 in
theorem ctX11_askSeen (l : Launch) (D : va_G) (k : Nat → ClassId) (n : Nat → Nat) (p0 : Int32)  : RO l yX11_askSeen cX11_askSeen 3 (some .int) 2 D k [.ref (n 0), .int p0] [((n 0), .inr (11, [.int 0, .ref (n 1), .ref (n 2), .ref (n 3), .ref (n 4), .int 0, .ref (n 5), .int 0, .int 0, .int 0, .int 0, .int 0, .int 0, .int (-1), .ref (n 6), .ref (n 7), .ref (n 8), .ref (n 9), .ref (n 10), .ref (n 11), .ref (n 12), .int 0, .int 0, .int 0, .int 0, .ref (n 13), .ref (n 14), .ref (n 15), .int 0, .int 0, .int 0, .ref (n 16), .ref (n 17), .int 0, .ref (n 18), .long 0, .long 0, .ref (n 19), .int 0, .long 0, .long 0, .long 0, .ref (n 20), .ref (n 21), .ref (n 22), .ref (n 23)])), ((n 1), .inl (k 0, 99, .inl (fun _ => 0)))] (Qi (fun r : Int32 => r = (-2))) := by
  refine RO.of (by decide) (Nat.le_of_ble_eq_true rfl) ?_
  intro p e s m below meth c ls A args Q S hr hlk hQ hK hP hDW hA hS hl
  have hx := S.1
  have hb := S.2.1
  have hl : lv_has ls 3 [(0, .ref (n 0)), (1, .int p0)] := hl
  refine lv_iload_n hx hb dX11_askSeen_0 rfl (lv_at hl 1 rfl) ?_
  refine x_roSi (As := [.int p0]) S hK hP hS hA hl mwX11_isSlot lkX11_425 (ctX11_isSlot l D k p0 ) [] rfl D_nil rfl rfl ⟨Nat.le_of_ble_eq_true rfl, Nat.le_of_ble_eq_true rfl, Nat.le_of_ble_eq_true rfl⟩ dX11_askSeen_1 ⟨Nat.le_of_ble_eq_true rfl, Nat.le_of_ble_eq_true rfl⟩ (fun r_1 H locs hr_1 hP hS => ?_)
  subst hr_1
  refine lv_if_eq (tgt := 14) hx hb dX11_askSeen_4 (by decide) (fun c_2 => ?_) (fun c_2 => ?_)
  · skip
    have c_2 : ¬ (0 ≤ p0.toInt64 ∧ p0.toInt64 ≤ 3) := bo_0.mp c_2
    refine lv_bipush (v := (-2)) hx hb dX11_askSeen_14 (by decide) ?_
    exact x_reti S hr hlk hQ hS () rfl x_T dX11_askSeen_16
  · skip
    have c_2 : 0 ≤ p0.toInt64 ∧ p0.toInt64 ≤ 3 := bo_1.mp c_2
    refine lv_aload_n hx hb dX11_askSeen_7 rfl (lv_at hl 0 rfl) ?_
    refine x_roVi (As := []) S hK hP hS hA hl mwX11_isGarden lkX11_99 (ctX11_isGarden l D k n ) [0, 1] rfl (hDW.sub [0, 1] (by decide) rfl) rfl rfl rfl rfl rfl ⟨Nat.le_of_ble_eq_true rfl, Nat.le_of_ble_eq_true rfl, Nat.le_of_ble_eq_true rfl⟩ dX11_askSeen_8 ⟨Nat.le_of_ble_eq_true rfl, Nat.le_of_ble_eq_true rfl⟩ (fun r_3 H locs hr_3 hP hS => ?_)
    subst hr_3
    refine lv_if_ne (tgt := 17) hx hb dX11_askSeen_11 (by decide) (fun c_4 => absurd (by decide) c_4) (fun c_4 => ?_)
    refine lv_bipush (v := (-2)) hx hb dX11_askSeen_14 (by decide) ?_
    exact x_reti S hr hlk hQ hS () rfl x_T dX11_askSeen_16

set_option maxHeartbeats 4000000 in
set_option maxRecDepth 100000 in
theorem ctX11_askWhom (l : Launch) (D : va_G) (k : Nat → ClassId) (n : Nat → Nat) (p0 : Int32) (p1 : Int32)  : RO l yX11_askWhom cX11_askWhom 3 (some .int) 3 D k [.ref (n 0), .int p0, .int p1] [((n 0), .inr (11, [.int 0, .ref (n 1), .ref (n 2), .ref (n 3), .ref (n 4), .int 0, .ref (n 5), .int 0, .int 0, .int 0, .int 0, .int 0, .int 0, .int (-1), .ref (n 6), .ref (n 7), .ref (n 8), .ref (n 9), .ref (n 10), .ref (n 11), .ref (n 12), .int 0, .int 0, .int 0, .int 0, .ref (n 13), .ref (n 14), .ref (n 15), .int 0, .int 0, .int 0, .ref (n 16), .ref (n 17), .int 0, .ref (n 18), .long 0, .long 0, .ref (n 19), .int 0, .long 0, .long 0, .long 0, .ref (n 20), .ref (n 21), .ref (n 22), .ref (n 23)])), ((n 1), .inl (k 0, 99, .inl (fun _ => 0)))] (Qi (fun r : Int32 => r = (-2))) := by
  refine RO.of (by decide) (Nat.le_of_ble_eq_true rfl) ?_
  intro p e s m below meth c ls A args Q S hr hlk hQ hK hP hDW hA hS hl
  have hx := S.1
  have hb := S.2.1
  have hl : lv_has ls 3 [(0, .ref (n 0)), (1, .int p0), (2, .int p1)] := hl
  refine lv_iload_n hx hb dX11_askWhom_0 rfl (lv_at hl 2 rfl) ?_
  refine lv_i2l (v := p1.toInt64) hx hb dX11_askWhom_1 rfl ?_
  refine x_roSi (As := [.long (p1.toInt64)]) S hK hP hS hA hl mwX11_isView lkX11_348 (ctX11_isView l D k (p1.toInt64) ) [] rfl D_nil rfl rfl ⟨Nat.le_of_ble_eq_true rfl, Nat.le_of_ble_eq_true rfl, Nat.le_of_ble_eq_true rfl⟩ dX11_askWhom_2 ⟨Nat.le_of_ble_eq_true rfl, Nat.le_of_ble_eq_true rfl⟩ (fun r_1 H locs hr_1 hP hS => ?_)
  subst hr_1
  refine lv_if_eq (tgt := 16) hx hb dX11_askWhom_5 (by decide) (fun c_2 => ?_) (fun c_2 => ?_)
  · skip
    have c_2 : ¬ (1 ≤ p1.toInt64 ∧ p1.toInt64 ≤ 2) := bo_0.mp c_2
    refine lv_bipush (v := (-2)) hx hb dX11_askWhom_16 (by decide) ?_
    exact x_reti S hr hlk hQ hS () rfl x_T dX11_askWhom_18
  · skip
    have c_2 : 1 ≤ p1.toInt64 ∧ p1.toInt64 ≤ 2 := bo_1.mp c_2
    refine lv_aload_n hx hb dX11_askWhom_8 rfl (lv_at hl 0 rfl) ?_
    refine lv_iload_n hx hb dX11_askWhom_9 rfl (lv_at hl 1 rfl) ?_
    refine x_roVi (As := [.int p0]) S hK hP hS hA hl mwX11_askSeen lkX11_437 (ctX11_askSeen l D k n p0 ) [0, 1] rfl (hDW.sub [0, 1] (by decide) rfl) rfl rfl rfl rfl rfl ⟨Nat.le_of_ble_eq_true rfl, Nat.le_of_ble_eq_true rfl, Nat.le_of_ble_eq_true rfl⟩ dX11_askWhom_10 ⟨Nat.le_of_ble_eq_true rfl, Nat.le_of_ble_eq_true rfl⟩ (fun r_3 H locs hr_3 hP hS => ?_)
    subst hr_3
    refine lv_goto (tgt := 18) hx hb dX11_askWhom_13 (by decide) ?_
    exact x_reti S hr hlk hQ hS () rfl x_T dX11_askWhom_18
