def m1 : Nat → Int32 := upd (upd (upd (upd (fun _ => 0) 0 (-1)) 1 (-1)) 2 (-1)) 3 (-1)
theorem m1_at {j : Nat} (h : j < 4) : m1 j = -1 := by
  rcases (show j = 0 ∨ j = 1 ∨ j = 2 ∨ j = 3 by omega) with rfl | rfl | rfl | rfl <;> rfl
theorem dX4_init_0 : decode cX4_init 0 = .ok (.aload_n 0, 1) := by decide +kernel
theorem dX4_init_1 : decode cX4_init 1 = .ok (.invokespecial 3, 3) := by decide +kernel
theorem dX4_init_4 : decode cX4_init 4 = .ok (.aload_n 0, 1) := by decide +kernel
theorem dX4_init_5 : decode cX4_init 5 = .ok (.sipush 600, 3) := by decide +kernel
theorem dX4_init_8 : decode cX4_init 8 = .ok (.newarray .byte, 2) := by decide +kernel
theorem dX4_init_10 : decode cX4_init 10 = .ok (.putfield 9, 3) := by decide +kernel
theorem dX4_init_13 : decode cX4_init 13 = .ok (.aload_n 0, 1) := by decide +kernel
theorem dX4_init_14 : decode cX4_init 14 = .ok (.iconst (-1), 1) := by decide +kernel
theorem dX4_init_15 : decode cX4_init 15 = .ok (.putfield 15, 3) := by decide +kernel
theorem dX4_init_18 : decode cX4_init 18 = .ok (.return_, 1) := by decide +kernel
theorem dX2_init_0 : decode cX2_init 0 = .ok (.aload_n 0, 1) := by decide +kernel
theorem dX2_init_1 : decode cX2_init 1 = .ok (.invokespecial 3, 3) := by decide +kernel
theorem dX2_init_4 : decode cX2_init 4 = .ok (.aload_n 0, 1) := by decide +kernel
theorem dX2_init_5 : decode cX2_init 5 = .ok (.bipush 12, 2) := by decide +kernel
theorem dX2_init_7 : decode cX2_init 7 = .ok (.newarray .int, 2) := by decide +kernel
theorem dX2_init_9 : decode cX2_init 9 = .ok (.putfield 9, 3) := by decide +kernel
theorem dX2_init_12 : decode cX2_init 12 = .ok (.aload_n 0, 1) := by decide +kernel
theorem dX2_init_13 : decode cX2_init 13 = .ok (.bipush 12, 2) := by decide +kernel
theorem dX2_init_15 : decode cX2_init 15 = .ok (.newarray .int, 2) := by decide +kernel
theorem dX2_init_17 : decode cX2_init 17 = .ok (.putfield 15, 3) := by decide +kernel
theorem dX2_init_20 : decode cX2_init 20 = .ok (.aload_n 0, 1) := by decide +kernel
theorem dX2_init_21 : decode cX2_init 21 = .ok (.bipush 12, 2) := by decide +kernel
theorem dX2_init_23 : decode cX2_init 23 = .ok (.newarray .int, 2) := by decide +kernel
theorem dX2_init_25 : decode cX2_init 25 = .ok (.putfield 18, 3) := by decide +kernel
theorem dX2_init_28 : decode cX2_init 28 = .ok (.aload_n 0, 1) := by decide +kernel
theorem dX2_init_29 : decode cX2_init 29 = .ok (.bipush 12, 2) := by decide +kernel
theorem dX2_init_31 : decode cX2_init 31 = .ok (.newarray .int, 2) := by decide +kernel
theorem dX2_init_33 : decode cX2_init 33 = .ok (.putfield 21, 3) := by decide +kernel
theorem dX2_init_36 : decode cX2_init 36 = .ok (.aload_n 0, 1) := by decide +kernel
theorem dX2_init_37 : decode cX2_init 37 = .ok (.bipush 12, 2) := by decide +kernel
theorem dX2_init_39 : decode cX2_init 39 = .ok (.newarray .int, 2) := by decide +kernel
theorem dX2_init_41 : decode cX2_init 41 = .ok (.putfield 24, 3) := by decide +kernel
theorem dX2_init_44 : decode cX2_init 44 = .ok (.aload_n 0, 1) := by decide +kernel
theorem dX2_init_45 : decode cX2_init 45 = .ok (.bipush 12, 2) := by decide +kernel
theorem dX2_init_47 : decode cX2_init 47 = .ok (.newarray .int, 2) := by decide +kernel
theorem dX2_init_49 : decode cX2_init 49 = .ok (.putfield 27, 3) := by decide +kernel
theorem dX2_init_52 : decode cX2_init 52 = .ok (.aload_n 0, 1) := by decide +kernel
theorem dX2_init_53 : decode cX2_init 53 = .ok (.iconst 4, 1) := by decide +kernel
theorem dX2_init_54 : decode cX2_init 54 = .ok (.newarray .int, 2) := by decide +kernel
theorem dX2_init_56 : decode cX2_init 56 = .ok (.putfield 30, 3) := by decide +kernel
theorem dX2_init_59 : decode cX2_init 59 = .ok (.aload_n 0, 1) := by decide +kernel
theorem dX2_init_60 : decode cX2_init 60 = .ok (.bipush 42, 2) := by decide +kernel
theorem dX2_init_62 : decode cX2_init 62 = .ok (.newarray .int, 2) := by decide +kernel
theorem dX2_init_64 : decode cX2_init 64 = .ok (.putfield 33, 3) := by decide +kernel
theorem dX2_init_67 : decode cX2_init 67 = .ok (.aload_n 0, 1) := by decide +kernel
theorem dX2_init_68 : decode cX2_init 68 = .ok (.bipush 42, 2) := by decide +kernel
theorem dX2_init_70 : decode cX2_init 70 = .ok (.newarray .int, 2) := by decide +kernel
theorem dX2_init_72 : decode cX2_init 72 = .ok (.putfield 36, 3) := by decide +kernel
theorem dX2_init_75 : decode cX2_init 75 = .ok (.aload_n 0, 1) := by decide +kernel
theorem dX2_init_76 : decode cX2_init 76 = .ok (.bipush 42, 2) := by decide +kernel
theorem dX2_init_78 : decode cX2_init 78 = .ok (.newarray .int, 2) := by decide +kernel
theorem dX2_init_80 : decode cX2_init 80 = .ok (.putfield 39, 3) := by decide +kernel
theorem dX2_init_83 : decode cX2_init 83 = .ok (.return_, 1) := by decide +kernel
theorem dX3_init_0 : decode cX3_init 0 = .ok (.aload_n 0, 1) := by decide +kernel
theorem dX3_init_1 : decode cX3_init 1 = .ok (.invokespecial 3, 3) := by decide +kernel
theorem dX3_init_4 : decode cX3_init 4 = .ok (.aload_n 0, 1) := by decide +kernel
theorem dX3_init_5 : decode cX3_init 5 = .ok (.bipush 17, 2) := by decide +kernel
theorem dX3_init_7 : decode cX3_init 7 = .ok (.newarray .int, 2) := by decide +kernel
theorem dX3_init_9 : decode cX3_init 9 = .ok (.putfield 9, 3) := by decide +kernel
theorem dX3_init_12 : decode cX3_init 12 = .ok (.aload_n 0, 1) := by decide +kernel
theorem dX3_init_13 : decode cX3_init 13 = .ok (.bipush 17, 2) := by decide +kernel
theorem dX3_init_15 : decode cX3_init 15 = .ok (.newarray .int, 2) := by decide +kernel
theorem dX3_init_17 : decode cX3_init 17 = .ok (.putfield 15, 3) := by decide +kernel
theorem dX3_init_20 : decode cX3_init 20 = .ok (.aload_n 0, 1) := by decide +kernel
theorem dX3_init_21 : decode cX3_init 21 = .ok (.bipush 17, 2) := by decide +kernel
theorem dX3_init_23 : decode cX3_init 23 = .ok (.newarray .int, 2) := by decide +kernel
theorem dX3_init_25 : decode cX3_init 25 = .ok (.putfield 18, 3) := by decide +kernel
theorem dX3_init_28 : decode cX3_init 28 = .ok (.return_, 1) := by decide +kernel
theorem dX1_init_0 : decode cX1_init 0 = .ok (.aload_n 0, 1) := by decide +kernel
theorem dX1_init_1 : decode cX1_init 1 = .ok (.invokespecial 3, 3) := by decide +kernel
theorem dX1_init_4 : decode cX1_init 4 = .ok (.aload_n 0, 1) := by decide +kernel
theorem dX1_init_5 : decode cX1_init 5 = .ok (.bipush 17, 2) := by decide +kernel
theorem dX1_init_7 : decode cX1_init 7 = .ok (.newarray .int, 2) := by decide +kernel
theorem dX1_init_9 : decode cX1_init 9 = .ok (.putfield 9, 3) := by decide +kernel
theorem dX1_init_12 : decode cX1_init 12 = .ok (.aload_n 0, 1) := by decide +kernel
theorem dX1_init_13 : decode cX1_init 13 = .ok (.aload_n 1, 1) := by decide +kernel
theorem dX1_init_14 : decode cX1_init 14 = .ok (.putfield 15, 3) := by decide +kernel
theorem dX1_init_17 : decode cX1_init 17 = .ok (.aload_n 0, 1) := by decide +kernel
theorem dX1_init_18 : decode cX1_init 18 = .ok (.aload_n 2, 1) := by decide +kernel
theorem dX1_init_19 : decode cX1_init 19 = .ok (.putfield 19, 3) := by decide +kernel
theorem dX1_init_22 : decode cX1_init 22 = .ok (.return_, 1) := by decide +kernel
theorem dX7_init_0 : decode cX7_init 0 = .ok (.aload_n 0, 1) := by decide +kernel
theorem dX7_init_1 : decode cX7_init 1 = .ok (.invokespecial 3, 3) := by decide +kernel
theorem dX7_init_4 : decode cX7_init 4 = .ok (.aload_n 0, 1) := by decide +kernel
theorem dX7_init_5 : decode cX7_init 5 = .ok (.aload_n 1, 1) := by decide +kernel
theorem dX7_init_6 : decode cX7_init 6 = .ok (.putfield 9, 3) := by decide +kernel
theorem dX7_init_9 : decode cX7_init 9 = .ok (.aload_n 0, 1) := by decide +kernel
theorem dX7_init_10 : decode cX7_init 10 = .ok (.aload_n 2, 1) := by decide +kernel
theorem dX7_init_11 : decode cX7_init 11 = .ok (.putfield 15, 3) := by decide +kernel
theorem dX7_init_14 : decode cX7_init 14 = .ok (.aload_n 0, 1) := by decide +kernel
theorem dX7_init_15 : decode cX7_init 15 = .ok (.aload_n 3, 1) := by decide +kernel
theorem dX7_init_16 : decode cX7_init 16 = .ok (.putfield 19, 3) := by decide +kernel
theorem dX7_init_19 : decode cX7_init 19 = .ok (.return_, 1) := by decide +kernel
theorem dX0_init_0 : decode cX0_init 0 = .ok (.aload_n 0, 1) := by decide +kernel
theorem dX0_init_1 : decode cX0_init 1 = .ok (.invokespecial 3, 3) := by decide +kernel
theorem dX0_init_4 : decode cX0_init 4 = .ok (.aload_n 0, 1) := by decide +kernel
theorem dX0_init_5 : decode cX0_init 5 = .ok (.bipush (-2), 2) := by decide +kernel
theorem dX0_init_7 : decode cX0_init 7 = .ok (.putfield 11, 3) := by decide +kernel
theorem dX0_init_10 : decode cX0_init 10 = .ok (.aload_n 0, 1) := by decide +kernel
theorem dX0_init_11 : decode cX0_init 11 = .ok (.aload_n 1, 1) := by decide +kernel
theorem dX0_init_12 : decode cX0_init 12 = .ok (.putfield 15, 3) := by decide +kernel
theorem dX0_init_15 : decode cX0_init 15 = .ok (.aload_n 0, 1) := by decide +kernel
theorem dX0_init_16 : decode cX0_init 16 = .ok (.aload_n 2, 1) := by decide +kernel
theorem dX0_init_17 : decode cX0_init 17 = .ok (.putfield 19, 3) := by decide +kernel
theorem dX0_init_20 : decode cX0_init 20 = .ok (.return_, 1) := by decide +kernel
theorem dX9_init_0 : decode cX9_init 0 = .ok (.aload_n 0, 1) := by decide +kernel
theorem dX9_init_1 : decode cX9_init 1 = .ok (.invokespecial 3, 3) := by decide +kernel
theorem dX9_init_4 : decode cX9_init 4 = .ok (.aload_n 0, 1) := by decide +kernel
theorem dX9_init_5 : decode cX9_init 5 = .ok (.sipush 256, 3) := by decide +kernel
theorem dX9_init_8 : decode cX9_init 8 = .ok (.newarray .int, 2) := by decide +kernel
theorem dX9_init_10 : decode cX9_init 10 = .ok (.putfield 11, 3) := by decide +kernel
theorem dX9_init_13 : decode cX9_init 13 = .ok (.aload_n 0, 1) := by decide +kernel
theorem dX9_init_14 : decode cX9_init 14 = .ok (.sipush 256, 3) := by decide +kernel
theorem dX9_init_17 : decode cX9_init 17 = .ok (.newarray .long, 2) := by decide +kernel
theorem dX9_init_19 : decode cX9_init 19 = .ok (.putfield 15, 3) := by decide +kernel
theorem dX9_init_22 : decode cX9_init 22 = .ok (.aload_n 0, 1) := by decide +kernel
theorem dX9_init_23 : decode cX9_init 23 = .ok (.sipush 256, 3) := by decide +kernel
theorem dX9_init_26 : decode cX9_init 26 = .ok (.newarray .int, 2) := by decide +kernel
theorem dX9_init_28 : decode cX9_init 28 = .ok (.putfield 19, 3) := by decide +kernel
theorem dX9_init_31 : decode cX9_init 31 = .ok (.aload_n 0, 1) := by decide +kernel
theorem dX9_init_32 : decode cX9_init 32 = .ok (.sipush 256, 3) := by decide +kernel
theorem dX9_init_35 : decode cX9_init 35 = .ok (.newarray .long, 2) := by decide +kernel
theorem dX9_init_37 : decode cX9_init 37 = .ok (.putfield 22, 3) := by decide +kernel
theorem dX9_init_40 : decode cX9_init 40 = .ok (.aload_n 0, 1) := by decide +kernel
theorem dX9_init_41 : decode cX9_init 41 = .ok (.aload_n 1, 1) := by decide +kernel
theorem dX9_init_42 : decode cX9_init 42 = .ok (.putfield 25, 3) := by decide +kernel
theorem dX9_init_45 : decode cX9_init 45 = .ok (.aload_n 0, 1) := by decide +kernel
theorem dX9_init_46 : decode cX9_init 46 = .ok (.aload_n 2, 1) := by decide +kernel
theorem dX9_init_47 : decode cX9_init 47 = .ok (.putfield 29, 3) := by decide +kernel
theorem dX9_init_50 : decode cX9_init 50 = .ok (.aload_n 0, 1) := by decide +kernel
theorem dX9_init_51 : decode cX9_init 51 = .ok (.aload_n 3, 1) := by decide +kernel
theorem dX9_init_52 : decode cX9_init 52 = .ok (.putfield 33, 3) := by decide +kernel
theorem dX9_init_55 : decode cX9_init 55 = .ok (.return_, 1) := by decide +kernel
theorem dX6_init_0 : decode cX6_init 0 = .ok (.aload_n 0, 1) := by decide +kernel
theorem dX6_init_1 : decode cX6_init 1 = .ok (.invokespecial 3, 3) := by decide +kernel
theorem dX6_init_4 : decode cX6_init 4 = .ok (.aload_n 0, 1) := by decide +kernel
theorem dX6_init_5 : decode cX6_init 5 = .ok (.iconst 4, 1) := by decide +kernel
theorem dX6_init_6 : decode cX6_init 6 = .ok (.bipush 60, 2) := by decide +kernel
theorem dX6_init_8 : decode cX6_init 8 = .ok (.multianewarray 9 2, 4) := by decide +kernel
theorem dX6_init_12 : decode cX6_init 12 = .ok (.putfield 11, 3) := by decide +kernel
theorem dX6_init_15 : decode cX6_init 15 = .ok (.aload_n 0, 1) := by decide +kernel
theorem dX6_init_16 : decode cX6_init 16 = .ok (.iconst 4, 1) := by decide +kernel
theorem dX6_init_17 : decode cX6_init 17 = .ok (.newarray .int, 2) := by decide +kernel
theorem dX6_init_19 : decode cX6_init 19 = .ok (.putfield 16, 3) := by decide +kernel
theorem dX6_init_22 : decode cX6_init 22 = .ok (.aload_n 0, 1) := by decide +kernel
theorem dX6_init_23 : decode cX6_init 23 = .ok (.iconst 4, 1) := by decide +kernel
theorem dX6_init_24 : decode cX6_init 24 = .ok (.newarray .int, 2) := by decide +kernel
theorem dX6_init_26 : decode cX6_init 26 = .ok (.dup, 1) := by decide +kernel
theorem dX6_init_27 : decode cX6_init 27 = .ok (.iconst 0, 1) := by decide +kernel
theorem dX6_init_28 : decode cX6_init 28 = .ok (.iconst (-1), 1) := by decide +kernel
theorem dX6_init_29 : decode cX6_init 29 = .ok (.iastore, 1) := by decide +kernel
theorem dX6_init_30 : decode cX6_init 30 = .ok (.dup, 1) := by decide +kernel
theorem dX6_init_31 : decode cX6_init 31 = .ok (.iconst 1, 1) := by decide +kernel
theorem dX6_init_32 : decode cX6_init 32 = .ok (.iconst (-1), 1) := by decide +kernel
theorem dX6_init_33 : decode cX6_init 33 = .ok (.iastore, 1) := by decide +kernel
theorem dX6_init_34 : decode cX6_init 34 = .ok (.dup, 1) := by decide +kernel
theorem dX6_init_35 : decode cX6_init 35 = .ok (.iconst 2, 1) := by decide +kernel
theorem dX6_init_36 : decode cX6_init 36 = .ok (.iconst (-1), 1) := by decide +kernel
theorem dX6_init_37 : decode cX6_init 37 = .ok (.iastore, 1) := by decide +kernel
theorem dX6_init_38 : decode cX6_init 38 = .ok (.dup, 1) := by decide +kernel
theorem dX6_init_39 : decode cX6_init 39 = .ok (.iconst 3, 1) := by decide +kernel
theorem dX6_init_40 : decode cX6_init 40 = .ok (.iconst (-1), 1) := by decide +kernel
theorem dX6_init_41 : decode cX6_init 41 = .ok (.iastore, 1) := by decide +kernel
theorem dX6_init_42 : decode cX6_init 42 = .ok (.putfield 20, 3) := by decide +kernel
theorem dX6_init_45 : decode cX6_init 45 = .ok (.return_, 1) := by decide +kernel
theorem dX5_init_0 : decode cX5_init 0 = .ok (.aload_n 0, 1) := by decide +kernel
theorem dX5_init_1 : decode cX5_init 1 = .ok (.invokespecial 3, 3) := by decide +kernel
theorem dX5_init_4 : decode cX5_init 4 = .ok (.aload_n 0, 1) := by decide +kernel
theorem dX5_init_5 : decode cX5_init 5 = .ok (.bipush 12, 2) := by decide +kernel
theorem dX5_init_7 : decode cX5_init 7 = .ok (.bipush 17, 2) := by decide +kernel
theorem dX5_init_9 : decode cX5_init 9 = .ok (.multianewarray 9 2, 4) := by decide +kernel
theorem dX5_init_13 : decode cX5_init 13 = .ok (.putfield 11, 3) := by decide +kernel
theorem dX5_init_16 : decode cX5_init 16 = .ok (.aload_n 0, 1) := by decide +kernel
theorem dX5_init_17 : decode cX5_init 17 = .ok (.aload_n 1, 1) := by decide +kernel
theorem dX5_init_18 : decode cX5_init 18 = .ok (.putfield 16, 3) := by decide +kernel
theorem dX5_init_21 : decode cX5_init 21 = .ok (.aload_n 0, 1) := by decide +kernel
theorem dX5_init_22 : decode cX5_init 22 = .ok (.aload_n 2, 1) := by decide +kernel
theorem dX5_init_23 : decode cX5_init 23 = .ok (.putfield 20, 3) := by decide +kernel
theorem dX5_init_26 : decode cX5_init 26 = .ok (.aload_n 0, 1) := by decide +kernel
theorem dX5_init_27 : decode cX5_init 27 = .ok (.aload_n 3, 1) := by decide +kernel
theorem dX5_init_28 : decode cX5_init 28 = .ok (.putfield 24, 3) := by decide +kernel
theorem dX5_init_31 : decode cX5_init 31 = .ok (.return_, 1) := by decide +kernel
theorem dX8_init_0 : decode cX8_init 0 = .ok (.aload_n 0, 1) := by decide +kernel
theorem dX8_init_1 : decode cX8_init 1 = .ok (.invokespecial 3, 3) := by decide +kernel
theorem dX8_init_4 : decode cX8_init 4 = .ok (.aload_n 0, 1) := by decide +kernel
theorem dX8_init_5 : decode cX8_init 5 = .ok (.iconst 3, 1) := by decide +kernel
theorem dX8_init_6 : decode cX8_init 6 = .ok (.newarray .int, 2) := by decide +kernel
theorem dX8_init_8 : decode cX8_init 8 = .ok (.dup, 1) := by decide +kernel
theorem dX8_init_9 : decode cX8_init 9 = .ok (.iconst 0, 1) := by decide +kernel
theorem dX8_init_10 : decode cX8_init 10 = .ok (.bipush (-2), 2) := by decide +kernel
theorem dX8_init_12 : decode cX8_init 12 = .ok (.iastore, 1) := by decide +kernel
theorem dX8_init_13 : decode cX8_init 13 = .ok (.dup, 1) := by decide +kernel
theorem dX8_init_14 : decode cX8_init 14 = .ok (.iconst 1, 1) := by decide +kernel
theorem dX8_init_15 : decode cX8_init 15 = .ok (.bipush (-2), 2) := by decide +kernel
theorem dX8_init_17 : decode cX8_init 17 = .ok (.iastore, 1) := by decide +kernel
theorem dX8_init_18 : decode cX8_init 18 = .ok (.dup, 1) := by decide +kernel
theorem dX8_init_19 : decode cX8_init 19 = .ok (.iconst 2, 1) := by decide +kernel
theorem dX8_init_20 : decode cX8_init 20 = .ok (.bipush (-2), 2) := by decide +kernel
theorem dX8_init_22 : decode cX8_init 22 = .ok (.iastore, 1) := by decide +kernel
theorem dX8_init_23 : decode cX8_init 23 = .ok (.putfield 11, 3) := by decide +kernel
theorem dX8_init_26 : decode cX8_init 26 = .ok (.aload_n 0, 1) := by decide +kernel
theorem dX8_init_27 : decode cX8_init 27 = .ok (.iconst 3, 1) := by decide +kernel
theorem dX8_init_28 : decode cX8_init 28 = .ok (.sipush 256, 3) := by decide +kernel
theorem dX8_init_31 : decode cX8_init 31 = .ok (.multianewarray 15 2, 4) := by decide +kernel
theorem dX8_init_35 : decode cX8_init 35 = .ok (.putfield 17, 3) := by decide +kernel
theorem dX8_init_38 : decode cX8_init 38 = .ok (.aload_n 0, 1) := by decide +kernel
theorem dX8_init_39 : decode cX8_init 39 = .ok (.iconst 3, 1) := by decide +kernel
theorem dX8_init_40 : decode cX8_init 40 = .ok (.newarray .boolean, 2) := by decide +kernel
theorem dX8_init_42 : decode cX8_init 42 = .ok (.putfield 20, 3) := by decide +kernel
theorem dX8_init_45 : decode cX8_init 45 = .ok (.aload_n 0, 1) := by decide +kernel
theorem dX8_init_46 : decode cX8_init 46 = .ok (.aload_n 1, 1) := by decide +kernel
theorem dX8_init_47 : decode cX8_init 47 = .ok (.putfield 24, 3) := by decide +kernel
theorem dX8_init_50 : decode cX8_init 50 = .ok (.aload_n 0, 1) := by decide +kernel
theorem dX8_init_51 : decode cX8_init 51 = .ok (.aload_n 2, 1) := by decide +kernel
theorem dX8_init_52 : decode cX8_init 52 = .ok (.putfield 28, 3) := by decide +kernel
theorem dX8_init_55 : decode cX8_init 55 = .ok (.aload_n 0, 1) := by decide +kernel
theorem dX8_init_56 : decode cX8_init 56 = .ok (.aload_n 3, 1) := by decide +kernel
theorem dX8_init_57 : decode cX8_init 57 = .ok (.putfield 32, 3) := by decide +kernel
theorem dX8_init_60 : decode cX8_init 60 = .ok (.return_, 1) := by decide +kernel

set_option maxHeartbeats 4000000 in
set_option maxRecDepth 100000 in
theorem ctX4_init (l : Launch) (D : va_G) (k : Nat → ClassId) (h : Nat)  : MU l yX4_init cX4_init 1 none 1 D k [.ref h] [(h, .inr (4, [.null, .int 0, .int 0, .int 0, .int 0, .int 0, .int 0, .int 0, .int 0]))] 1 600 (Uv D (fun _ : Nat → Nat => True) (fun u : Nat → Nat => [(h, .inr (4, [.ref (u 0), .int 0, .int 0, .int (-1), .int 0, .int 0, .int 0, .int 0, .int 0])), ((u 0), .inl (k 1, 600, .inl (fun _ => 0)))])) := by
  refine MU.of (by decide) (Nat.le_of_ble_eq_true rfl) ?_
  intro p e s m below meth c ls A args Q S hr hlk hnm hQ hK hP hD hA hS hl
  have hin : meth.name = "<init>" := hnm
  have hx := S.1
  have hb := S.2.1
  have hl : lv_has ls 1 [(0, .ref h)] := hl
  refine lv_aload_n hx hb dX4_init_0 rfl (lv_at hl 0 rfl) ?_
  refine x_objInit S lkX4_3 ob_i ob_c hl dX4_init_1 (Nat.le_of_ble_eq_true rfl) (Nat.le_of_ble_eq_true rfl) (Nat.le_of_ble_eq_true rfl) ?_
  refine lv_aload_n hx hb dX4_init_4 rfl (lv_at hl 0 rfl) ?_
  refine lv_sipush (v := 600) hx hb dX4_init_5 (by decide) ?_
  refine x_newb (ws' := fun q_1 => [(h, .inr (4, [.null, .int 0, .int 0, .int 0, .int 0, .int 0, .int 0, .int 0, .int 0])), (q_1, .inl (k 1, 600, .inl (fun _ => 0)))]) S hK hP hD hS hA ac_byte 600 (by decide) (by decide) (by decide) (Nat.le_of_ble_eq_true rfl) (Nat.le_of_ble_eq_true rfl) (fun _ => rfl) dX4_init_8 (fun q_1 H hP hD hS => ?_)
  refine W.widen (k := 1) (n := 600) (Nat.le_of_ble_eq_true rfl) (Nat.le_of_ble_eq_true rfl) ?_
  refine x_putF (ws' := [(h, .inr (4, [.ref q_1, .int 0, .int 0, .int 0, .int 0, .int 0, .int 0, .int 0, .int 0])), (q_1, .inl (k 1, 600, .inl (fun _ => 0)))]) S hin hK hP hD hS 0 rfl cfX4 0 lkX4_9 (by decide) rfl rfl rfl rfl (Nat.le_of_ble_eq_true rfl) rfl dX4_init_10 (fun H locs hP hD hS => ?_)
  refine lv_aload_n hx hb dX4_init_13 rfl (lv_at hl 0 rfl) ?_
  refine lv_iconst (v := (-1)) hx hb dX4_init_14 (by decide) ?_
  refine x_put (ws' := [(h, .inr (4, [.ref q_1, .int 0, .int 0, .int (-1), .int 0, .int 0, .int 0, .int 0, .int 0])), (q_1, .inl (k 1, 600, .inl (fun _ => 0)))]) S hK hP hD hS 0 rfl cfX4 3 lkX4_15 (by decide) rfl rfl rfl (Nat.le_of_ble_eq_true rfl) rfl dX4_init_15 (fun H locs hP hD hS => ?_)
  exact x_retv S hr hlk hQ hS (fun i => ([q_1] : List (Nat)).getD i 0) trivial (x_B (hP.sub [0, 1] rfl) (hD.sub [0, 1] (by decide) rfl)) dX4_init_18

set_option maxHeartbeats 4000000 in
set_option maxRecDepth 100000 in
theorem ctX2_init (l : Launch) (D : va_G) (k : Nat → ClassId) (h : Nat)  : MU l yX2_init cX2_init 1 none 1 D k [.ref h] [(h, .inr (2, [.int 0, .int 0, .int 0, .int 0, .int 0, .int 0, .int 0, .int 0, .int 0, .null, .null, .null, .null, .null, .null, .null, .null, .null, .null]))] 10 202 (Uv D (fun _ : Nat → Nat => True) (fun u : Nat → Nat => [(h, .inr (2, [.int 0, .int 0, .int 0, .int 0, .int 0, .int 0, .int 0, .int 0, .int 0, .ref (u 0), .ref (u 1), .ref (u 2), .ref (u 3), .ref (u 4), .ref (u 5), .ref (u 6), .ref (u 7), .ref (u 8), .ref (u 9)])), ((u 0), .inl (k 0, 12, .inl (fun _ => 0))), ((u 1), .inl (k 0, 12, .inl (fun _ => 0))), ((u 2), .inl (k 0, 12, .inl (fun _ => 0))), ((u 3), .inl (k 0, 12, .inl (fun _ => 0))), ((u 4), .inl (k 0, 12, .inl (fun _ => 0))), ((u 5), .inl (k 0, 12, .inl (fun _ => 0))), ((u 6), .inl (k 0, 4, .inl (fun _ => 0))), ((u 7), .inl (k 0, 42, .inl (fun _ => 0))), ((u 8), .inl (k 0, 42, .inl (fun _ => 0))), ((u 9), .inl (k 0, 42, .inl (fun _ => 0)))])) := by
  refine MU.of (by decide) (Nat.le_of_ble_eq_true rfl) ?_
  intro p e s m below meth c ls A args Q S hr hlk hnm hQ hK hP hD hA hS hl
  have hin : meth.name = "<init>" := hnm
  have hx := S.1
  have hb := S.2.1
  have hl : lv_has ls 1 [(0, .ref h)] := hl
  refine lv_aload_n hx hb dX2_init_0 rfl (lv_at hl 0 rfl) ?_
  refine x_objInit S lkX2_3 ob_i ob_c hl dX2_init_1 (Nat.le_of_ble_eq_true rfl) (Nat.le_of_ble_eq_true rfl) (Nat.le_of_ble_eq_true rfl) ?_
  refine lv_aload_n hx hb dX2_init_4 rfl (lv_at hl 0 rfl) ?_
  refine lv_bipush (v := 12) hx hb dX2_init_5 (by decide) ?_
  refine x_newi (ws' := fun q_1 => [(h, .inr (2, [.int 0, .int 0, .int 0, .int 0, .int 0, .int 0, .int 0, .int 0, .int 0, .null, .null, .null, .null, .null, .null, .null, .null, .null, .null])), (q_1, .inl (k 0, 12, .inl (fun _ => 0)))]) S hK hP hD hS hA ac_int 12 (by decide) (by decide) (by decide) (Nat.le_of_ble_eq_true rfl) (Nat.le_of_ble_eq_true rfl) (fun _ => rfl) dX2_init_7 (fun q_1 H hP hD hS => ?_)
  refine W.widen (k := 1) (n := 12) (Nat.le_of_ble_eq_true rfl) (Nat.le_of_ble_eq_true rfl) ?_
  refine x_putF (ws' := [(h, .inr (2, [.int 0, .int 0, .int 0, .int 0, .int 0, .int 0, .int 0, .int 0, .int 0, .ref q_1, .null, .null, .null, .null, .null, .null, .null, .null, .null])), (q_1, .inl (k 0, 12, .inl (fun _ => 0)))]) S hin hK hP hD hS 0 rfl cfX2 9 lkX2_9 (by decide) rfl rfl rfl rfl (Nat.le_of_ble_eq_true rfl) rfl dX2_init_9 (fun H locs hP hD hS => ?_)
  refine lv_aload_n hx hb dX2_init_12 rfl (lv_at hl 0 rfl) ?_
  refine lv_bipush (v := 12) hx hb dX2_init_13 (by decide) ?_
  refine x_newi (ws' := fun q_2 => [(h, .inr (2, [.int 0, .int 0, .int 0, .int 0, .int 0, .int 0, .int 0, .int 0, .int 0, .ref q_1, .null, .null, .null, .null, .null, .null, .null, .null, .null])), (q_1, .inl (k 0, 12, .inl (fun _ => 0))), (q_2, .inl (k 0, 12, .inl (fun _ => 0)))]) S hK hP hD hS hA ac_int 12 (by decide) (by decide) (by decide) (Nat.le_of_ble_eq_true rfl) (Nat.le_of_ble_eq_true rfl) (fun _ => rfl) dX2_init_15 (fun q_2 H hP hD hS => ?_)
  refine W.widen (k := 2) (n := 24) (Nat.le_of_ble_eq_true rfl) (Nat.le_of_ble_eq_true rfl) ?_
  refine x_putF (ws' := [(h, .inr (2, [.int 0, .int 0, .int 0, .int 0, .int 0, .int 0, .int 0, .int 0, .int 0, .ref q_1, .ref q_2, .null, .null, .null, .null, .null, .null, .null, .null])), (q_1, .inl (k 0, 12, .inl (fun _ => 0))), (q_2, .inl (k 0, 12, .inl (fun _ => 0)))]) S hin hK hP hD hS 0 rfl cfX2 10 lkX2_15 (by decide) rfl rfl rfl rfl (Nat.le_of_ble_eq_true rfl) rfl dX2_init_17 (fun H locs hP hD hS => ?_)
  refine lv_aload_n hx hb dX2_init_20 rfl (lv_at hl 0 rfl) ?_
  refine lv_bipush (v := 12) hx hb dX2_init_21 (by decide) ?_
  refine x_newi (ws' := fun q_3 => [(h, .inr (2, [.int 0, .int 0, .int 0, .int 0, .int 0, .int 0, .int 0, .int 0, .int 0, .ref q_1, .ref q_2, .null, .null, .null, .null, .null, .null, .null, .null])), (q_1, .inl (k 0, 12, .inl (fun _ => 0))), (q_2, .inl (k 0, 12, .inl (fun _ => 0))), (q_3, .inl (k 0, 12, .inl (fun _ => 0)))]) S hK hP hD hS hA ac_int 12 (by decide) (by decide) (by decide) (Nat.le_of_ble_eq_true rfl) (Nat.le_of_ble_eq_true rfl) (fun _ => rfl) dX2_init_23 (fun q_3 H hP hD hS => ?_)
  refine W.widen (k := 3) (n := 36) (Nat.le_of_ble_eq_true rfl) (Nat.le_of_ble_eq_true rfl) ?_
  refine x_putF (ws' := [(h, .inr (2, [.int 0, .int 0, .int 0, .int 0, .int 0, .int 0, .int 0, .int 0, .int 0, .ref q_1, .ref q_2, .ref q_3, .null, .null, .null, .null, .null, .null, .null])), (q_1, .inl (k 0, 12, .inl (fun _ => 0))), (q_2, .inl (k 0, 12, .inl (fun _ => 0))), (q_3, .inl (k 0, 12, .inl (fun _ => 0)))]) S hin hK hP hD hS 0 rfl cfX2 11 lkX2_18 (by decide) rfl rfl rfl rfl (Nat.le_of_ble_eq_true rfl) rfl dX2_init_25 (fun H locs hP hD hS => ?_)
  refine lv_aload_n hx hb dX2_init_28 rfl (lv_at hl 0 rfl) ?_
  refine lv_bipush (v := 12) hx hb dX2_init_29 (by decide) ?_
  refine x_newi (ws' := fun q_4 => [(h, .inr (2, [.int 0, .int 0, .int 0, .int 0, .int 0, .int 0, .int 0, .int 0, .int 0, .ref q_1, .ref q_2, .ref q_3, .null, .null, .null, .null, .null, .null, .null])), (q_1, .inl (k 0, 12, .inl (fun _ => 0))), (q_2, .inl (k 0, 12, .inl (fun _ => 0))), (q_3, .inl (k 0, 12, .inl (fun _ => 0))), (q_4, .inl (k 0, 12, .inl (fun _ => 0)))]) S hK hP hD hS hA ac_int 12 (by decide) (by decide) (by decide) (Nat.le_of_ble_eq_true rfl) (Nat.le_of_ble_eq_true rfl) (fun _ => rfl) dX2_init_31 (fun q_4 H hP hD hS => ?_)
  refine W.widen (k := 4) (n := 48) (Nat.le_of_ble_eq_true rfl) (Nat.le_of_ble_eq_true rfl) ?_
  refine x_putF (ws' := [(h, .inr (2, [.int 0, .int 0, .int 0, .int 0, .int 0, .int 0, .int 0, .int 0, .int 0, .ref q_1, .ref q_2, .ref q_3, .ref q_4, .null, .null, .null, .null, .null, .null])), (q_1, .inl (k 0, 12, .inl (fun _ => 0))), (q_2, .inl (k 0, 12, .inl (fun _ => 0))), (q_3, .inl (k 0, 12, .inl (fun _ => 0))), (q_4, .inl (k 0, 12, .inl (fun _ => 0)))]) S hin hK hP hD hS 0 rfl cfX2 12 lkX2_21 (by decide) rfl rfl rfl rfl (Nat.le_of_ble_eq_true rfl) rfl dX2_init_33 (fun H locs hP hD hS => ?_)
  refine lv_aload_n hx hb dX2_init_36 rfl (lv_at hl 0 rfl) ?_
  refine lv_bipush (v := 12) hx hb dX2_init_37 (by decide) ?_
  refine x_newi (ws' := fun q_5 => [(h, .inr (2, [.int 0, .int 0, .int 0, .int 0, .int 0, .int 0, .int 0, .int 0, .int 0, .ref q_1, .ref q_2, .ref q_3, .ref q_4, .null, .null, .null, .null, .null, .null])), (q_1, .inl (k 0, 12, .inl (fun _ => 0))), (q_2, .inl (k 0, 12, .inl (fun _ => 0))), (q_3, .inl (k 0, 12, .inl (fun _ => 0))), (q_4, .inl (k 0, 12, .inl (fun _ => 0))), (q_5, .inl (k 0, 12, .inl (fun _ => 0)))]) S hK hP hD hS hA ac_int 12 (by decide) (by decide) (by decide) (Nat.le_of_ble_eq_true rfl) (Nat.le_of_ble_eq_true rfl) (fun _ => rfl) dX2_init_39 (fun q_5 H hP hD hS => ?_)
  refine W.widen (k := 5) (n := 60) (Nat.le_of_ble_eq_true rfl) (Nat.le_of_ble_eq_true rfl) ?_
  refine x_putF (ws' := [(h, .inr (2, [.int 0, .int 0, .int 0, .int 0, .int 0, .int 0, .int 0, .int 0, .int 0, .ref q_1, .ref q_2, .ref q_3, .ref q_4, .ref q_5, .null, .null, .null, .null, .null])), (q_1, .inl (k 0, 12, .inl (fun _ => 0))), (q_2, .inl (k 0, 12, .inl (fun _ => 0))), (q_3, .inl (k 0, 12, .inl (fun _ => 0))), (q_4, .inl (k 0, 12, .inl (fun _ => 0))), (q_5, .inl (k 0, 12, .inl (fun _ => 0)))]) S hin hK hP hD hS 0 rfl cfX2 13 lkX2_24 (by decide) rfl rfl rfl rfl (Nat.le_of_ble_eq_true rfl) rfl dX2_init_41 (fun H locs hP hD hS => ?_)
  refine lv_aload_n hx hb dX2_init_44 rfl (lv_at hl 0 rfl) ?_
  refine lv_bipush (v := 12) hx hb dX2_init_45 (by decide) ?_
  refine x_newi (ws' := fun q_6 => [(h, .inr (2, [.int 0, .int 0, .int 0, .int 0, .int 0, .int 0, .int 0, .int 0, .int 0, .ref q_1, .ref q_2, .ref q_3, .ref q_4, .ref q_5, .null, .null, .null, .null, .null])), (q_1, .inl (k 0, 12, .inl (fun _ => 0))), (q_2, .inl (k 0, 12, .inl (fun _ => 0))), (q_3, .inl (k 0, 12, .inl (fun _ => 0))), (q_4, .inl (k 0, 12, .inl (fun _ => 0))), (q_5, .inl (k 0, 12, .inl (fun _ => 0))), (q_6, .inl (k 0, 12, .inl (fun _ => 0)))]) S hK hP hD hS hA ac_int 12 (by decide) (by decide) (by decide) (Nat.le_of_ble_eq_true rfl) (Nat.le_of_ble_eq_true rfl) (fun _ => rfl) dX2_init_47 (fun q_6 H hP hD hS => ?_)
  refine W.widen (k := 6) (n := 72) (Nat.le_of_ble_eq_true rfl) (Nat.le_of_ble_eq_true rfl) ?_
  refine x_putF (ws' := [(h, .inr (2, [.int 0, .int 0, .int 0, .int 0, .int 0, .int 0, .int 0, .int 0, .int 0, .ref q_1, .ref q_2, .ref q_3, .ref q_4, .ref q_5, .ref q_6, .null, .null, .null, .null])), (q_1, .inl (k 0, 12, .inl (fun _ => 0))), (q_2, .inl (k 0, 12, .inl (fun _ => 0))), (q_3, .inl (k 0, 12, .inl (fun _ => 0))), (q_4, .inl (k 0, 12, .inl (fun _ => 0))), (q_5, .inl (k 0, 12, .inl (fun _ => 0))), (q_6, .inl (k 0, 12, .inl (fun _ => 0)))]) S hin hK hP hD hS 0 rfl cfX2 14 lkX2_27 (by decide) rfl rfl rfl rfl (Nat.le_of_ble_eq_true rfl) rfl dX2_init_49 (fun H locs hP hD hS => ?_)
  refine lv_aload_n hx hb dX2_init_52 rfl (lv_at hl 0 rfl) ?_
  refine lv_iconst (v := 4) hx hb dX2_init_53 (by decide) ?_
  refine x_newi (ws' := fun q_7 => [(h, .inr (2, [.int 0, .int 0, .int 0, .int 0, .int 0, .int 0, .int 0, .int 0, .int 0, .ref q_1, .ref q_2, .ref q_3, .ref q_4, .ref q_5, .ref q_6, .null, .null, .null, .null])), (q_1, .inl (k 0, 12, .inl (fun _ => 0))), (q_2, .inl (k 0, 12, .inl (fun _ => 0))), (q_3, .inl (k 0, 12, .inl (fun _ => 0))), (q_4, .inl (k 0, 12, .inl (fun _ => 0))), (q_5, .inl (k 0, 12, .inl (fun _ => 0))), (q_6, .inl (k 0, 12, .inl (fun _ => 0))), (q_7, .inl (k 0, 4, .inl (fun _ => 0)))]) S hK hP hD hS hA ac_int 4 (by decide) (by decide) (by decide) (Nat.le_of_ble_eq_true rfl) (Nat.le_of_ble_eq_true rfl) (fun _ => rfl) dX2_init_54 (fun q_7 H hP hD hS => ?_)
  refine W.widen (k := 7) (n := 76) (Nat.le_of_ble_eq_true rfl) (Nat.le_of_ble_eq_true rfl) ?_
  refine x_putF (ws' := [(h, .inr (2, [.int 0, .int 0, .int 0, .int 0, .int 0, .int 0, .int 0, .int 0, .int 0, .ref q_1, .ref q_2, .ref q_3, .ref q_4, .ref q_5, .ref q_6, .ref q_7, .null, .null, .null])), (q_1, .inl (k 0, 12, .inl (fun _ => 0))), (q_2, .inl (k 0, 12, .inl (fun _ => 0))), (q_3, .inl (k 0, 12, .inl (fun _ => 0))), (q_4, .inl (k 0, 12, .inl (fun _ => 0))), (q_5, .inl (k 0, 12, .inl (fun _ => 0))), (q_6, .inl (k 0, 12, .inl (fun _ => 0))), (q_7, .inl (k 0, 4, .inl (fun _ => 0)))]) S hin hK hP hD hS 0 rfl cfX2 15 lkX2_30 (by decide) rfl rfl rfl rfl (Nat.le_of_ble_eq_true rfl) rfl dX2_init_56 (fun H locs hP hD hS => ?_)
  refine lv_aload_n hx hb dX2_init_59 rfl (lv_at hl 0 rfl) ?_
  refine lv_bipush (v := 42) hx hb dX2_init_60 (by decide) ?_
  refine x_newi (ws' := fun q_8 => [(h, .inr (2, [.int 0, .int 0, .int 0, .int 0, .int 0, .int 0, .int 0, .int 0, .int 0, .ref q_1, .ref q_2, .ref q_3, .ref q_4, .ref q_5, .ref q_6, .ref q_7, .null, .null, .null])), (q_1, .inl (k 0, 12, .inl (fun _ => 0))), (q_2, .inl (k 0, 12, .inl (fun _ => 0))), (q_3, .inl (k 0, 12, .inl (fun _ => 0))), (q_4, .inl (k 0, 12, .inl (fun _ => 0))), (q_5, .inl (k 0, 12, .inl (fun _ => 0))), (q_6, .inl (k 0, 12, .inl (fun _ => 0))), (q_7, .inl (k 0, 4, .inl (fun _ => 0))), (q_8, .inl (k 0, 42, .inl (fun _ => 0)))]) S hK hP hD hS hA ac_int 42 (by decide) (by decide) (by decide) (Nat.le_of_ble_eq_true rfl) (Nat.le_of_ble_eq_true rfl) (fun _ => rfl) dX2_init_62 (fun q_8 H hP hD hS => ?_)
  refine W.widen (k := 8) (n := 118) (Nat.le_of_ble_eq_true rfl) (Nat.le_of_ble_eq_true rfl) ?_
  refine x_putF (ws' := [(h, .inr (2, [.int 0, .int 0, .int 0, .int 0, .int 0, .int 0, .int 0, .int 0, .int 0, .ref q_1, .ref q_2, .ref q_3, .ref q_4, .ref q_5, .ref q_6, .ref q_7, .ref q_8, .null, .null])), (q_1, .inl (k 0, 12, .inl (fun _ => 0))), (q_2, .inl (k 0, 12, .inl (fun _ => 0))), (q_3, .inl (k 0, 12, .inl (fun _ => 0))), (q_4, .inl (k 0, 12, .inl (fun _ => 0))), (q_5, .inl (k 0, 12, .inl (fun _ => 0))), (q_6, .inl (k 0, 12, .inl (fun _ => 0))), (q_7, .inl (k 0, 4, .inl (fun _ => 0))), (q_8, .inl (k 0, 42, .inl (fun _ => 0)))]) S hin hK hP hD hS 0 rfl cfX2 16 lkX2_33 (by decide) rfl rfl rfl rfl (Nat.le_of_ble_eq_true rfl) rfl dX2_init_64 (fun H locs hP hD hS => ?_)
  refine lv_aload_n hx hb dX2_init_67 rfl (lv_at hl 0 rfl) ?_
  refine lv_bipush (v := 42) hx hb dX2_init_68 (by decide) ?_
  refine x_newi (ws' := fun q_9 => [(h, .inr (2, [.int 0, .int 0, .int 0, .int 0, .int 0, .int 0, .int 0, .int 0, .int 0, .ref q_1, .ref q_2, .ref q_3, .ref q_4, .ref q_5, .ref q_6, .ref q_7, .ref q_8, .null, .null])), (q_1, .inl (k 0, 12, .inl (fun _ => 0))), (q_2, .inl (k 0, 12, .inl (fun _ => 0))), (q_3, .inl (k 0, 12, .inl (fun _ => 0))), (q_4, .inl (k 0, 12, .inl (fun _ => 0))), (q_5, .inl (k 0, 12, .inl (fun _ => 0))), (q_6, .inl (k 0, 12, .inl (fun _ => 0))), (q_7, .inl (k 0, 4, .inl (fun _ => 0))), (q_8, .inl (k 0, 42, .inl (fun _ => 0))), (q_9, .inl (k 0, 42, .inl (fun _ => 0)))]) S hK hP hD hS hA ac_int 42 (by decide) (by decide) (by decide) (Nat.le_of_ble_eq_true rfl) (Nat.le_of_ble_eq_true rfl) (fun _ => rfl) dX2_init_70 (fun q_9 H hP hD hS => ?_)
  refine W.widen (k := 9) (n := 160) (Nat.le_of_ble_eq_true rfl) (Nat.le_of_ble_eq_true rfl) ?_
  refine x_putF (ws' := [(h, .inr (2, [.int 0, .int 0, .int 0, .int 0, .int 0, .int 0, .int 0, .int 0, .int 0, .ref q_1, .ref q_2, .ref q_3, .ref q_4, .ref q_5, .ref q_6, .ref q_7, .ref q_8, .ref q_9, .null])), (q_1, .inl (k 0, 12, .inl (fun _ => 0))), (q_2, .inl (k 0, 12, .inl (fun _ => 0))), (q_3, .inl (k 0, 12, .inl (fun _ => 0))), (q_4, .inl (k 0, 12, .inl (fun _ => 0))), (q_5, .inl (k 0, 12, .inl (fun _ => 0))), (q_6, .inl (k 0, 12, .inl (fun _ => 0))), (q_7, .inl (k 0, 4, .inl (fun _ => 0))), (q_8, .inl (k 0, 42, .inl (fun _ => 0))), (q_9, .inl (k 0, 42, .inl (fun _ => 0)))]) S hin hK hP hD hS 0 rfl cfX2 17 lkX2_36 (by decide) rfl rfl rfl rfl (Nat.le_of_ble_eq_true rfl) rfl dX2_init_72 (fun H locs hP hD hS => ?_)
  refine lv_aload_n hx hb dX2_init_75 rfl (lv_at hl 0 rfl) ?_
  refine lv_bipush (v := 42) hx hb dX2_init_76 (by decide) ?_
  refine x_newi (ws' := fun q_10 => [(h, .inr (2, [.int 0, .int 0, .int 0, .int 0, .int 0, .int 0, .int 0, .int 0, .int 0, .ref q_1, .ref q_2, .ref q_3, .ref q_4, .ref q_5, .ref q_6, .ref q_7, .ref q_8, .ref q_9, .null])), (q_1, .inl (k 0, 12, .inl (fun _ => 0))), (q_2, .inl (k 0, 12, .inl (fun _ => 0))), (q_3, .inl (k 0, 12, .inl (fun _ => 0))), (q_4, .inl (k 0, 12, .inl (fun _ => 0))), (q_5, .inl (k 0, 12, .inl (fun _ => 0))), (q_6, .inl (k 0, 12, .inl (fun _ => 0))), (q_7, .inl (k 0, 4, .inl (fun _ => 0))), (q_8, .inl (k 0, 42, .inl (fun _ => 0))), (q_9, .inl (k 0, 42, .inl (fun _ => 0))), (q_10, .inl (k 0, 42, .inl (fun _ => 0)))]) S hK hP hD hS hA ac_int 42 (by decide) (by decide) (by decide) (Nat.le_of_ble_eq_true rfl) (Nat.le_of_ble_eq_true rfl) (fun _ => rfl) dX2_init_78 (fun q_10 H hP hD hS => ?_)
  refine W.widen (k := 10) (n := 202) (Nat.le_of_ble_eq_true rfl) (Nat.le_of_ble_eq_true rfl) ?_
  refine x_putF (ws' := [(h, .inr (2, [.int 0, .int 0, .int 0, .int 0, .int 0, .int 0, .int 0, .int 0, .int 0, .ref q_1, .ref q_2, .ref q_3, .ref q_4, .ref q_5, .ref q_6, .ref q_7, .ref q_8, .ref q_9, .ref q_10])), (q_1, .inl (k 0, 12, .inl (fun _ => 0))), (q_2, .inl (k 0, 12, .inl (fun _ => 0))), (q_3, .inl (k 0, 12, .inl (fun _ => 0))), (q_4, .inl (k 0, 12, .inl (fun _ => 0))), (q_5, .inl (k 0, 12, .inl (fun _ => 0))), (q_6, .inl (k 0, 12, .inl (fun _ => 0))), (q_7, .inl (k 0, 4, .inl (fun _ => 0))), (q_8, .inl (k 0, 42, .inl (fun _ => 0))), (q_9, .inl (k 0, 42, .inl (fun _ => 0))), (q_10, .inl (k 0, 42, .inl (fun _ => 0)))]) S hin hK hP hD hS 0 rfl cfX2 18 lkX2_39 (by decide) rfl rfl rfl rfl (Nat.le_of_ble_eq_true rfl) rfl dX2_init_80 (fun H locs hP hD hS => ?_)
  exact x_retv S hr hlk hQ hS (fun i => ([q_1, q_2, q_3, q_4, q_5, q_6, q_7, q_8, q_9, q_10] : List (Nat)).getD i 0) trivial (x_B (hP.sub [0, 1, 2, 3, 4, 5, 6, 7, 8, 9, 10] rfl) (hD.sub [0, 1, 2, 3, 4, 5, 6, 7, 8, 9, 10] (by decide) rfl)) dX2_init_83

set_option maxHeartbeats 4000000 in
set_option maxRecDepth 100000 in
theorem ctX3_init (l : Launch) (D : va_G) (k : Nat → ClassId) (h : Nat)  : MU l yX3_init cX3_init 1 none 1 D k [.ref h] [(h, .inr (3, [.null, .null, .null]))] 3 51 (Uv D (fun _ : Nat → Nat => True) (fun u : Nat → Nat => [(h, .inr (3, [.ref (u 0), .ref (u 1), .ref (u 2)])), ((u 0), .inl (k 0, 17, .inl (fun _ => 0))), ((u 1), .inl (k 0, 17, .inl (fun _ => 0))), ((u 2), .inl (k 0, 17, .inl (fun _ => 0)))])) := by
  refine MU.of (by decide) (Nat.le_of_ble_eq_true rfl) ?_
  intro p e s m below meth c ls A args Q S hr hlk hnm hQ hK hP hD hA hS hl
  have hin : meth.name = "<init>" := hnm
  have hx := S.1
  have hb := S.2.1
  have hl : lv_has ls 1 [(0, .ref h)] := hl
  refine lv_aload_n hx hb dX3_init_0 rfl (lv_at hl 0 rfl) ?_
  refine x_objInit S lkX3_3 ob_i ob_c hl dX3_init_1 (Nat.le_of_ble_eq_true rfl) (Nat.le_of_ble_eq_true rfl) (Nat.le_of_ble_eq_true rfl) ?_
  refine lv_aload_n hx hb dX3_init_4 rfl (lv_at hl 0 rfl) ?_
  refine lv_bipush (v := 17) hx hb dX3_init_5 (by decide) ?_
  refine x_newi (ws' := fun q_1 => [(h, .inr (3, [.null, .null, .null])), (q_1, .inl (k 0, 17, .inl (fun _ => 0)))]) S hK hP hD hS hA ac_int 17 (by decide) (by decide) (by decide) (Nat.le_of_ble_eq_true rfl) (Nat.le_of_ble_eq_true rfl) (fun _ => rfl) dX3_init_7 (fun q_1 H hP hD hS => ?_)
  refine W.widen (k := 1) (n := 17) (Nat.le_of_ble_eq_true rfl) (Nat.le_of_ble_eq_true rfl) ?_
  refine x_putF (ws' := [(h, .inr (3, [.ref q_1, .null, .null])), (q_1, .inl (k 0, 17, .inl (fun _ => 0)))]) S hin hK hP hD hS 0 rfl cfX3 0 lkX3_9 (by decide) rfl rfl rfl rfl (Nat.le_of_ble_eq_true rfl) rfl dX3_init_9 (fun H locs hP hD hS => ?_)
  refine lv_aload_n hx hb dX3_init_12 rfl (lv_at hl 0 rfl) ?_
  refine lv_bipush (v := 17) hx hb dX3_init_13 (by decide) ?_
  refine x_newi (ws' := fun q_2 => [(h, .inr (3, [.ref q_1, .null, .null])), (q_1, .inl (k 0, 17, .inl (fun _ => 0))), (q_2, .inl (k 0, 17, .inl (fun _ => 0)))]) S hK hP hD hS hA ac_int 17 (by decide) (by decide) (by decide) (Nat.le_of_ble_eq_true rfl) (Nat.le_of_ble_eq_true rfl) (fun _ => rfl) dX3_init_15 (fun q_2 H hP hD hS => ?_)
  refine W.widen (k := 2) (n := 34) (Nat.le_of_ble_eq_true rfl) (Nat.le_of_ble_eq_true rfl) ?_
  refine x_putF (ws' := [(h, .inr (3, [.ref q_1, .ref q_2, .null])), (q_1, .inl (k 0, 17, .inl (fun _ => 0))), (q_2, .inl (k 0, 17, .inl (fun _ => 0)))]) S hin hK hP hD hS 0 rfl cfX3 1 lkX3_15 (by decide) rfl rfl rfl rfl (Nat.le_of_ble_eq_true rfl) rfl dX3_init_17 (fun H locs hP hD hS => ?_)
  refine lv_aload_n hx hb dX3_init_20 rfl (lv_at hl 0 rfl) ?_
  refine lv_bipush (v := 17) hx hb dX3_init_21 (by decide) ?_
  refine x_newi (ws' := fun q_3 => [(h, .inr (3, [.ref q_1, .ref q_2, .null])), (q_1, .inl (k 0, 17, .inl (fun _ => 0))), (q_2, .inl (k 0, 17, .inl (fun _ => 0))), (q_3, .inl (k 0, 17, .inl (fun _ => 0)))]) S hK hP hD hS hA ac_int 17 (by decide) (by decide) (by decide) (Nat.le_of_ble_eq_true rfl) (Nat.le_of_ble_eq_true rfl) (fun _ => rfl) dX3_init_23 (fun q_3 H hP hD hS => ?_)
  refine W.widen (k := 3) (n := 51) (Nat.le_of_ble_eq_true rfl) (Nat.le_of_ble_eq_true rfl) ?_
  refine x_putF (ws' := [(h, .inr (3, [.ref q_1, .ref q_2, .ref q_3])), (q_1, .inl (k 0, 17, .inl (fun _ => 0))), (q_2, .inl (k 0, 17, .inl (fun _ => 0))), (q_3, .inl (k 0, 17, .inl (fun _ => 0)))]) S hin hK hP hD hS 0 rfl cfX3 2 lkX3_18 (by decide) rfl rfl rfl rfl (Nat.le_of_ble_eq_true rfl) rfl dX3_init_25 (fun H locs hP hD hS => ?_)
  exact x_retv S hr hlk hQ hS (fun i => ([q_1, q_2, q_3] : List (Nat)).getD i 0) trivial (x_B (hP.sub [0, 1, 2, 3] rfl) (hD.sub [0, 1, 2, 3] (by decide) rfl)) dX3_init_28

set_option maxHeartbeats 4000000 in
set_option maxRecDepth 100000 in
theorem ctX1_init (l : Launch) (D : va_G) (k : Nat → ClassId) (h : Nat) (g : Nat) (pl : Nat)  : MU l yX1_init cX1_init 3 none 1 D k [.ref h, .ref g, .ref pl] [(h, .inr (1, [.null, .null, .int 0, .int 0, .int 0, .int 0, .int 0, .null]))] 1 17 (Uv D (fun _ : Nat → Nat => True) (fun u : Nat → Nat => [(h, .inr (1, [.ref g, .ref pl, .int 0, .int 0, .int 0, .int 0, .int 0, .ref (u 0)])), ((u 0), .inl (k 0, 17, .inl (fun _ => 0)))])) := by
  refine MU.of (by decide) (Nat.le_of_ble_eq_true rfl) ?_
  intro p e s m below meth c ls A args Q S hr hlk hnm hQ hK hP hD hA hS hl
  have hin : meth.name = "<init>" := hnm
  have hx := S.1
  have hb := S.2.1
  have hl : lv_has ls 3 [(0, .ref h), (1, .ref g), (2, .ref pl)] := hl
  refine lv_aload_n hx hb dX1_init_0 rfl (lv_at hl 0 rfl) ?_
  refine x_objInit S lkX1_3 ob_i ob_c hl dX1_init_1 (Nat.le_of_ble_eq_true rfl) (Nat.le_of_ble_eq_true rfl) (Nat.le_of_ble_eq_true rfl) ?_
  refine lv_aload_n hx hb dX1_init_4 rfl (lv_at hl 0 rfl) ?_
  refine lv_bipush (v := 17) hx hb dX1_init_5 (by decide) ?_
  refine x_newi (ws' := fun q_1 => [(h, .inr (1, [.null, .null, .int 0, .int 0, .int 0, .int 0, .int 0, .null])), (q_1, .inl (k 0, 17, .inl (fun _ => 0)))]) S hK hP hD hS hA ac_int 17 (by decide) (by decide) (by decide) (Nat.le_of_ble_eq_true rfl) (Nat.le_of_ble_eq_true rfl) (fun _ => rfl) dX1_init_7 (fun q_1 H hP hD hS => ?_)
  refine W.widen (k := 1) (n := 17) (Nat.le_of_ble_eq_true rfl) (Nat.le_of_ble_eq_true rfl) ?_
  refine x_putF (ws' := [(h, .inr (1, [.null, .null, .int 0, .int 0, .int 0, .int 0, .int 0, .ref q_1])), (q_1, .inl (k 0, 17, .inl (fun _ => 0)))]) S hin hK hP hD hS 0 rfl cfX1 7 lkX1_9 (by decide) rfl rfl rfl rfl (Nat.le_of_ble_eq_true rfl) rfl dX1_init_9 (fun H locs hP hD hS => ?_)
  refine lv_aload_n hx hb dX1_init_12 rfl (lv_at hl 0 rfl) ?_
  refine lv_aload_n hx hb dX1_init_13 rfl (lv_at hl 1 rfl) ?_
  refine x_putF (ws' := [(h, .inr (1, [.ref g, .null, .int 0, .int 0, .int 0, .int 0, .int 0, .ref q_1])), (q_1, .inl (k 0, 17, .inl (fun _ => 0)))]) S hin hK hP hD hS 0 rfl cfX1 0 lkX1_15 (by decide) rfl rfl rfl rfl (Nat.le_of_ble_eq_true rfl) rfl dX1_init_14 (fun H locs hP hD hS => ?_)
  refine lv_aload_n hx hb dX1_init_17 rfl (lv_at hl 0 rfl) ?_
  refine lv_aload_n hx hb dX1_init_18 rfl (lv_at hl 2 rfl) ?_
  refine x_putF (ws' := [(h, .inr (1, [.ref g, .ref pl, .int 0, .int 0, .int 0, .int 0, .int 0, .ref q_1])), (q_1, .inl (k 0, 17, .inl (fun _ => 0)))]) S hin hK hP hD hS 0 rfl cfX1 1 lkX1_19 (by decide) rfl rfl rfl rfl (Nat.le_of_ble_eq_true rfl) rfl dX1_init_19 (fun H locs hP hD hS => ?_)
  exact x_retv S hr hlk hQ hS (fun i => ([q_1] : List (Nat)).getD i 0) trivial (x_B (hP.sub [0, 1] rfl) (hD.sub [0, 1] (by decide) rfl)) dX1_init_22

set_option maxHeartbeats 4000000 in
set_option maxRecDepth 100000 in
theorem ctX7_init (l : Launch) (D : va_G) (k : Nat → ClassId) (h : Nat) (g : Nat) (pl : Nat) (co : Nat)  : MU l yX7_init cX7_init 4 none 1 D k [.ref h, .ref g, .ref pl, .ref co] [(h, .inr (7, [.null, .null, .null]))] 0 0 (Uv D (fun _ : Nat → Nat => True) (fun u : Nat → Nat => [(h, .inr (7, [.ref g, .ref pl, .ref co]))])) := by
  refine MU.of (by decide) (Nat.le_of_ble_eq_true rfl) ?_
  intro p e s m below meth c ls A args Q S hr hlk hnm hQ hK hP hD hA hS hl
  have hin : meth.name = "<init>" := hnm
  have hx := S.1
  have hb := S.2.1
  have hl : lv_has ls 4 [(0, .ref h), (1, .ref g), (2, .ref pl), (3, .ref co)] := hl
  refine lv_aload_n hx hb dX7_init_0 rfl (lv_at hl 0 rfl) ?_
  refine x_objInit S lkX7_3 ob_i ob_c hl dX7_init_1 (Nat.le_of_ble_eq_true rfl) (Nat.le_of_ble_eq_true rfl) (Nat.le_of_ble_eq_true rfl) ?_
  refine lv_aload_n hx hb dX7_init_4 rfl (lv_at hl 0 rfl) ?_
  refine lv_aload_n hx hb dX7_init_5 rfl (lv_at hl 1 rfl) ?_
  refine x_putF (ws' := [(h, .inr (7, [.ref g, .null, .null]))]) S hin hK hP hD hS 0 rfl cfX7 0 lkX7_9 (by decide) rfl rfl rfl rfl (Nat.le_of_ble_eq_true rfl) rfl dX7_init_6 (fun H locs hP hD hS => ?_)
  refine lv_aload_n hx hb dX7_init_9 rfl (lv_at hl 0 rfl) ?_
  refine lv_aload_n hx hb dX7_init_10 rfl (lv_at hl 2 rfl) ?_
  refine x_putF (ws' := [(h, .inr (7, [.ref g, .ref pl, .null]))]) S hin hK hP hD hS 0 rfl cfX7 1 lkX7_15 (by decide) rfl rfl rfl rfl (Nat.le_of_ble_eq_true rfl) rfl dX7_init_11 (fun H locs hP hD hS => ?_)
  refine lv_aload_n hx hb dX7_init_14 rfl (lv_at hl 0 rfl) ?_
  refine lv_aload_n hx hb dX7_init_15 rfl (lv_at hl 3 rfl) ?_
  refine x_putF (ws' := [(h, .inr (7, [.ref g, .ref pl, .ref co]))]) S hin hK hP hD hS 0 rfl cfX7 2 lkX7_19 (by decide) rfl rfl rfl rfl (Nat.le_of_ble_eq_true rfl) rfl dX7_init_16 (fun H locs hP hD hS => ?_)
  exact x_retv S hr hlk hQ hS (fun i => ([] : List (Nat)).getD i 0) trivial (x_B (hP.sub [0] rfl) (hD.sub [0] (by decide) rfl)) dX7_init_19

set_option maxHeartbeats 4000000 in
set_option maxRecDepth 100000 in
theorem ctX0_init (l : Launch) (D : va_G) (k : Nat → ClassId) (h : Nat) (g : Nat) (co : Nat)  : MU l yX0_init cX0_init 3 none 1 D k [.ref h, .ref g, .ref co] [(h, .inr (0, [.null, .null, .int 0, .int 0]))] 0 0 (Uv D (fun _ : Nat → Nat => True) (fun u : Nat → Nat => [(h, .inr (0, [.ref g, .ref co, .int (-2), .int 0]))])) := by
  refine MU.of (by decide) (Nat.le_of_ble_eq_true rfl) ?_
  intro p e s m below meth c ls A args Q S hr hlk hnm hQ hK hP hD hA hS hl
  have hin : meth.name = "<init>" := hnm
  have hx := S.1
  have hb := S.2.1
  have hl : lv_has ls 3 [(0, .ref h), (1, .ref g), (2, .ref co)] := hl
  refine lv_aload_n hx hb dX0_init_0 rfl (lv_at hl 0 rfl) ?_
  refine x_objInit S lkX0_3 ob_i ob_c hl dX0_init_1 (Nat.le_of_ble_eq_true rfl) (Nat.le_of_ble_eq_true rfl) (Nat.le_of_ble_eq_true rfl) ?_
  refine lv_aload_n hx hb dX0_init_4 rfl (lv_at hl 0 rfl) ?_
  refine lv_bipush (v := (-2)) hx hb dX0_init_5 (by decide) ?_
  refine x_put (ws' := [(h, .inr (0, [.null, .null, .int (-2), .int 0]))]) S hK hP hD hS 0 rfl cfX0 2 lkX0_11 (by decide) rfl rfl rfl (Nat.le_of_ble_eq_true rfl) rfl dX0_init_7 (fun H locs hP hD hS => ?_)
  refine lv_aload_n hx hb dX0_init_10 rfl (lv_at hl 0 rfl) ?_
  refine lv_aload_n hx hb dX0_init_11 rfl (lv_at hl 1 rfl) ?_
  refine x_putF (ws' := [(h, .inr (0, [.ref g, .null, .int (-2), .int 0]))]) S hin hK hP hD hS 0 rfl cfX0 0 lkX0_15 (by decide) rfl rfl rfl rfl (Nat.le_of_ble_eq_true rfl) rfl dX0_init_12 (fun H locs hP hD hS => ?_)
  refine lv_aload_n hx hb dX0_init_15 rfl (lv_at hl 0 rfl) ?_
  refine lv_aload_n hx hb dX0_init_16 rfl (lv_at hl 2 rfl) ?_
  refine x_putF (ws' := [(h, .inr (0, [.ref g, .ref co, .int (-2), .int 0]))]) S hin hK hP hD hS 0 rfl cfX0 1 lkX0_19 (by decide) rfl rfl rfl rfl (Nat.le_of_ble_eq_true rfl) rfl dX0_init_17 (fun H locs hP hD hS => ?_)
  exact x_retv S hr hlk hQ hS (fun i => ([] : List (Nat)).getD i 0) trivial (x_B (hP.sub [0] rfl) (hD.sub [0] (by decide) rfl)) dX0_init_20

set_option maxHeartbeats 4000000 in
set_option maxRecDepth 100000 in
theorem ctX9_init (l : Launch) (D : va_G) (k : Nat → ClassId) (h : Nat) (g : Nat) (co : Nat) (tr : Nat)  : MU l yX9_init cX9_init 4 none 1 D k [.ref h, .ref g, .ref co, .ref tr] [(h, .inr (9, [.null, .null, .null, .null, .null, .int 0, .null, .null, .int 0]))] 4 1024 (Uv D (fun _ : Nat → Nat => True) (fun u : Nat → Nat => [(h, .inr (9, [.ref g, .ref co, .ref tr, .ref (u 0), .ref (u 1), .int 0, .ref (u 2), .ref (u 3), .int 0])), ((u 0), .inl (k 0, 256, .inl (fun _ => 0))), ((u 1), .inl (k 2, 256, .inr (.inl (fun _ => 0)))), ((u 2), .inl (k 0, 256, .inl (fun _ => 0))), ((u 3), .inl (k 2, 256, .inr (.inl (fun _ => 0))))])) := by
  refine MU.of (by decide) (Nat.le_of_ble_eq_true rfl) ?_
  intro p e s m below meth c ls A args Q S hr hlk hnm hQ hK hP hD hA hS hl
  have hin : meth.name = "<init>" := hnm
  have hx := S.1
  have hb := S.2.1
  have hl : lv_has ls 4 [(0, .ref h), (1, .ref g), (2, .ref co), (3, .ref tr)] := hl
  refine lv_aload_n hx hb dX9_init_0 rfl (lv_at hl 0 rfl) ?_
  refine x_objInit S lkX9_3 ob_i ob_c hl dX9_init_1 (Nat.le_of_ble_eq_true rfl) (Nat.le_of_ble_eq_true rfl) (Nat.le_of_ble_eq_true rfl) ?_
  refine lv_aload_n hx hb dX9_init_4 rfl (lv_at hl 0 rfl) ?_
  refine lv_sipush (v := 256) hx hb dX9_init_5 (by decide) ?_
  refine x_newi (ws' := fun q_1 => [(h, .inr (9, [.null, .null, .null, .null, .null, .int 0, .null, .null, .int 0])), (q_1, .inl (k 0, 256, .inl (fun _ => 0)))]) S hK hP hD hS hA ac_int 256 (by decide) (by decide) (by decide) (Nat.le_of_ble_eq_true rfl) (Nat.le_of_ble_eq_true rfl) (fun _ => rfl) dX9_init_8 (fun q_1 H hP hD hS => ?_)
  refine W.widen (k := 1) (n := 256) (Nat.le_of_ble_eq_true rfl) (Nat.le_of_ble_eq_true rfl) ?_
  refine x_putF (ws' := [(h, .inr (9, [.null, .null, .null, .ref q_1, .null, .int 0, .null, .null, .int 0])), (q_1, .inl (k 0, 256, .inl (fun _ => 0)))]) S hin hK hP hD hS 0 rfl cfX9 3 lkX9_11 (by decide) rfl rfl rfl rfl (Nat.le_of_ble_eq_true rfl) rfl dX9_init_10 (fun H locs hP hD hS => ?_)
  refine lv_aload_n hx hb dX9_init_13 rfl (lv_at hl 0 rfl) ?_
  refine lv_sipush (v := 256) hx hb dX9_init_14 (by decide) ?_
  refine x_newl (ws' := fun q_2 => [(h, .inr (9, [.null, .null, .null, .ref q_1, .null, .int 0, .null, .null, .int 0])), (q_1, .inl (k 0, 256, .inl (fun _ => 0))), (q_2, .inl (k 2, 256, .inr (.inl (fun _ => 0))))]) S hK hP hD hS hA ac_long 256 (by decide) (by decide) (by decide) (Nat.le_of_ble_eq_true rfl) (Nat.le_of_ble_eq_true rfl) (fun _ => rfl) dX9_init_17 (fun q_2 H hP hD hS => ?_)
  refine W.widen (k := 2) (n := 512) (Nat.le_of_ble_eq_true rfl) (Nat.le_of_ble_eq_true rfl) ?_
  refine x_putF (ws' := [(h, .inr (9, [.null, .null, .null, .ref q_1, .ref q_2, .int 0, .null, .null, .int 0])), (q_1, .inl (k 0, 256, .inl (fun _ => 0))), (q_2, .inl (k 2, 256, .inr (.inl (fun _ => 0))))]) S hin hK hP hD hS 0 rfl cfX9 4 lkX9_15 (by decide) rfl rfl rfl rfl (Nat.le_of_ble_eq_true rfl) rfl dX9_init_19 (fun H locs hP hD hS => ?_)
  refine lv_aload_n hx hb dX9_init_22 rfl (lv_at hl 0 rfl) ?_
  refine lv_sipush (v := 256) hx hb dX9_init_23 (by decide) ?_
  refine x_newi (ws' := fun q_3 => [(h, .inr (9, [.null, .null, .null, .ref q_1, .ref q_2, .int 0, .null, .null, .int 0])), (q_1, .inl (k 0, 256, .inl (fun _ => 0))), (q_2, .inl (k 2, 256, .inr (.inl (fun _ => 0)))), (q_3, .inl (k 0, 256, .inl (fun _ => 0)))]) S hK hP hD hS hA ac_int 256 (by decide) (by decide) (by decide) (Nat.le_of_ble_eq_true rfl) (Nat.le_of_ble_eq_true rfl) (fun _ => rfl) dX9_init_26 (fun q_3 H hP hD hS => ?_)
  refine W.widen (k := 3) (n := 768) (Nat.le_of_ble_eq_true rfl) (Nat.le_of_ble_eq_true rfl) ?_
  refine x_putF (ws' := [(h, .inr (9, [.null, .null, .null, .ref q_1, .ref q_2, .int 0, .ref q_3, .null, .int 0])), (q_1, .inl (k 0, 256, .inl (fun _ => 0))), (q_2, .inl (k 2, 256, .inr (.inl (fun _ => 0)))), (q_3, .inl (k 0, 256, .inl (fun _ => 0)))]) S hin hK hP hD hS 0 rfl cfX9 6 lkX9_19 (by decide) rfl rfl rfl rfl (Nat.le_of_ble_eq_true rfl) rfl dX9_init_28 (fun H locs hP hD hS => ?_)
  refine lv_aload_n hx hb dX9_init_31 rfl (lv_at hl 0 rfl) ?_
  refine lv_sipush (v := 256) hx hb dX9_init_32 (by decide) ?_
  refine x_newl (ws' := fun q_4 => [(h, .inr (9, [.null, .null, .null, .ref q_1, .ref q_2, .int 0, .ref q_3, .null, .int 0])), (q_1, .inl (k 0, 256, .inl (fun _ => 0))), (q_2, .inl (k 2, 256, .inr (.inl (fun _ => 0)))), (q_3, .inl (k 0, 256, .inl (fun _ => 0))), (q_4, .inl (k 2, 256, .inr (.inl (fun _ => 0))))]) S hK hP hD hS hA ac_long 256 (by decide) (by decide) (by decide) (Nat.le_of_ble_eq_true rfl) (Nat.le_of_ble_eq_true rfl) (fun _ => rfl) dX9_init_35 (fun q_4 H hP hD hS => ?_)
  refine W.widen (k := 4) (n := 1024) (Nat.le_of_ble_eq_true rfl) (Nat.le_of_ble_eq_true rfl) ?_
  refine x_putF (ws' := [(h, .inr (9, [.null, .null, .null, .ref q_1, .ref q_2, .int 0, .ref q_3, .ref q_4, .int 0])), (q_1, .inl (k 0, 256, .inl (fun _ => 0))), (q_2, .inl (k 2, 256, .inr (.inl (fun _ => 0)))), (q_3, .inl (k 0, 256, .inl (fun _ => 0))), (q_4, .inl (k 2, 256, .inr (.inl (fun _ => 0))))]) S hin hK hP hD hS 0 rfl cfX9 7 lkX9_22 (by decide) rfl rfl rfl rfl (Nat.le_of_ble_eq_true rfl) rfl dX9_init_37 (fun H locs hP hD hS => ?_)
  refine lv_aload_n hx hb dX9_init_40 rfl (lv_at hl 0 rfl) ?_
  refine lv_aload_n hx hb dX9_init_41 rfl (lv_at hl 1 rfl) ?_
  refine x_putF (ws' := [(h, .inr (9, [.ref g, .null, .null, .ref q_1, .ref q_2, .int 0, .ref q_3, .ref q_4, .int 0])), (q_1, .inl (k 0, 256, .inl (fun _ => 0))), (q_2, .inl (k 2, 256, .inr (.inl (fun _ => 0)))), (q_3, .inl (k 0, 256, .inl (fun _ => 0))), (q_4, .inl (k 2, 256, .inr (.inl (fun _ => 0))))]) S hin hK hP hD hS 0 rfl cfX9 0 lkX9_25 (by decide) rfl rfl rfl rfl (Nat.le_of_ble_eq_true rfl) rfl dX9_init_42 (fun H locs hP hD hS => ?_)
  refine lv_aload_n hx hb dX9_init_45 rfl (lv_at hl 0 rfl) ?_
  refine lv_aload_n hx hb dX9_init_46 rfl (lv_at hl 2 rfl) ?_
  refine x_putF (ws' := [(h, .inr (9, [.ref g, .ref co, .null, .ref q_1, .ref q_2, .int 0, .ref q_3, .ref q_4, .int 0])), (q_1, .inl (k 0, 256, .inl (fun _ => 0))), (q_2, .inl (k 2, 256, .inr (.inl (fun _ => 0)))), (q_3, .inl (k 0, 256, .inl (fun _ => 0))), (q_4, .inl (k 2, 256, .inr (.inl (fun _ => 0))))]) S hin hK hP hD hS 0 rfl cfX9 1 lkX9_29 (by decide) rfl rfl rfl rfl (Nat.le_of_ble_eq_true rfl) rfl dX9_init_47 (fun H locs hP hD hS => ?_)
  refine lv_aload_n hx hb dX9_init_50 rfl (lv_at hl 0 rfl) ?_
  refine lv_aload_n hx hb dX9_init_51 rfl (lv_at hl 3 rfl) ?_
  refine x_putF (ws' := [(h, .inr (9, [.ref g, .ref co, .ref tr, .ref q_1, .ref q_2, .int 0, .ref q_3, .ref q_4, .int 0])), (q_1, .inl (k 0, 256, .inl (fun _ => 0))), (q_2, .inl (k 2, 256, .inr (.inl (fun _ => 0)))), (q_3, .inl (k 0, 256, .inl (fun _ => 0))), (q_4, .inl (k 2, 256, .inr (.inl (fun _ => 0))))]) S hin hK hP hD hS 0 rfl cfX9 2 lkX9_33 (by decide) rfl rfl rfl rfl (Nat.le_of_ble_eq_true rfl) rfl dX9_init_52 (fun H locs hP hD hS => ?_)
  exact x_retv S hr hlk hQ hS (fun i => ([q_1, q_2, q_3, q_4] : List (Nat)).getD i 0) trivial (x_B (hP.sub [0, 1, 2, 3, 4] rfl) (hD.sub [0, 1, 2, 3, 4] (by decide) rfl)) dX9_init_55

set_option maxHeartbeats 4000000 in
set_option maxRecDepth 100000 in
theorem ctX6_init (l : Launch) (D : va_G) (k : Nat → ClassId) (h : Nat)  : MU l yX6_init cX6_init 1 none 1 D k [.ref h] [(h, .inr (6, [.null, .null, .null]))] 7 252 (Uv D (fun _ : (Nat → Nat) × (Nat → Nat) => True) (fun u : (Nat → Nat) × (Nat → Nat) => [(h, .inr (6, [.ref (u.1 0), .ref (u.1 1), .ref (u.1 2)])), ((u.1 0), .inl (k 6, 4, .inr (.inr (.inr (.inr (fun i => if i < 4 then some (u.2 i) else none)))))), ((u.2 0), .inl (k 2, 60, .inr (.inl (fun _ => 0)))), ((u.2 1), .inl (k 2, 60, .inr (.inl (fun _ => 0)))), ((u.2 2), .inl (k 2, 60, .inr (.inl (fun _ => 0)))), ((u.2 3), .inl (k 2, 60, .inr (.inl (fun _ => 0)))), ((u.1 1), .inl (k 0, 4, .inl (fun _ => 0))), ((u.1 2), .inl (k 0, 4, .inl m1))])) := by
  refine MU.of (by decide) (Nat.le_of_ble_eq_true rfl) ?_
  intro p e s m below meth c ls A args Q S hr hlk hnm hQ hK hP hD hA hS hl
  have hin : meth.name = "<init>" := hnm
  have hx := S.1
  have hb := S.2.1
  have hl : lv_has ls 1 [(0, .ref h)] := hl
  refine lv_aload_n hx hb dX6_init_0 rfl (lv_at hl 0 rfl) ?_
  refine x_objInit S lkX6_3 ob_i ob_c hl dX6_init_1 (Nat.le_of_ble_eq_true rfl) (Nat.le_of_ble_eq_true rfl) (Nat.le_of_ble_eq_true rfl) ?_
  refine lv_aload_n hx hb dX6_init_4 rfl (lv_at hl 0 rfl) ?_
  refine lv_iconst (v := 4) hx hb dX6_init_5 (by decide) ?_
  refine lv_bipush (v := 60) hx hb dX6_init_6 (by decide) ?_
  refine x_mnaJ (ws' := fun q_1 r_2 => [(h, .inr (6, [.null, .null, .null])), (q_1, .inl (k 6, 4, .inr (.inr (.inr (.inr (fun i => if i < 4 then some (r_2 i) else none)))))), ((r_2 0), .inl (k 2, 60, .inr (.inl (fun _ => 0)))), ((r_2 1), .inl (k 2, 60, .inr (.inl (fun _ => 0)))), ((r_2 2), .inl (k 2, 60, .inr (.inl (fun _ => 0)))), ((r_2 3), .inl (k 2, 60, .inr (.inl (fun _ => 0))))]) S hK hP hD hS hA lkX6_9 ac_long 4 60 (by decide) (by decide) (by decide) (by decide) (by decide) (by decide) (by decide) (Nat.le_of_ble_eq_true rfl) (Nat.le_of_ble_eq_true rfl) (fun _ _ => rfl) dX6_init_8 (fun q_1 r_2 H hP hD hS => ?_)
  refine W.widen (k := 5) (n := 244) (Nat.le_of_ble_eq_true rfl) (Nat.le_of_ble_eq_true rfl) ?_
  refine x_putF (ws' := [(h, .inr (6, [.ref q_1, .null, .null])), (q_1, .inl (k 6, 4, .inr (.inr (.inr (.inr (fun i => if i < 4 then some (r_2 i) else none)))))), ((r_2 0), .inl (k 2, 60, .inr (.inl (fun _ => 0)))), ((r_2 1), .inl (k 2, 60, .inr (.inl (fun _ => 0)))), ((r_2 2), .inl (k 2, 60, .inr (.inl (fun _ => 0)))), ((r_2 3), .inl (k 2, 60, .inr (.inl (fun _ => 0))))]) S hin hK hP hD hS 0 rfl cfX6 0 lkX6_11 (by decide) rfl rfl rfl rfl (Nat.le_of_ble_eq_true rfl) rfl dX6_init_12 (fun H locs hP hD hS => ?_)
  refine lv_aload_n hx hb dX6_init_15 rfl (lv_at hl 0 rfl) ?_
  refine lv_iconst (v := 4) hx hb dX6_init_16 (by decide) ?_
  refine x_newi (ws' := fun q_3 => [(h, .inr (6, [.ref q_1, .null, .null])), (q_1, .inl (k 6, 4, .inr (.inr (.inr (.inr (fun i => if i < 4 then some (r_2 i) else none)))))), ((r_2 0), .inl (k 2, 60, .inr (.inl (fun _ => 0)))), ((r_2 1), .inl (k 2, 60, .inr (.inl (fun _ => 0)))), ((r_2 2), .inl (k 2, 60, .inr (.inl (fun _ => 0)))), ((r_2 3), .inl (k 2, 60, .inr (.inl (fun _ => 0)))), (q_3, .inl (k 0, 4, .inl (fun _ => 0)))]) S hK hP hD hS hA ac_int 4 (by decide) (by decide) (by decide) (Nat.le_of_ble_eq_true rfl) (Nat.le_of_ble_eq_true rfl) (fun _ => rfl) dX6_init_17 (fun q_3 H hP hD hS => ?_)
  refine W.widen (k := 6) (n := 248) (Nat.le_of_ble_eq_true rfl) (Nat.le_of_ble_eq_true rfl) ?_
  refine x_putF (ws' := [(h, .inr (6, [.ref q_1, .ref q_3, .null])), (q_1, .inl (k 6, 4, .inr (.inr (.inr (.inr (fun i => if i < 4 then some (r_2 i) else none)))))), ((r_2 0), .inl (k 2, 60, .inr (.inl (fun _ => 0)))), ((r_2 1), .inl (k 2, 60, .inr (.inl (fun _ => 0)))), ((r_2 2), .inl (k 2, 60, .inr (.inl (fun _ => 0)))), ((r_2 3), .inl (k 2, 60, .inr (.inl (fun _ => 0)))), (q_3, .inl (k 0, 4, .inl (fun _ => 0)))]) S hin hK hP hD hS 0 rfl cfX6 1 lkX6_16 (by decide) rfl rfl rfl rfl (Nat.le_of_ble_eq_true rfl) rfl dX6_init_19 (fun H locs hP hD hS => ?_)
  refine lv_aload_n hx hb dX6_init_22 rfl (lv_at hl 0 rfl) ?_
  refine lv_iconst (v := 4) hx hb dX6_init_23 (by decide) ?_
  refine x_newi (ws' := fun q_4 => [(h, .inr (6, [.ref q_1, .ref q_3, .null])), (q_1, .inl (k 6, 4, .inr (.inr (.inr (.inr (fun i => if i < 4 then some (r_2 i) else none)))))), ((r_2 0), .inl (k 2, 60, .inr (.inl (fun _ => 0)))), ((r_2 1), .inl (k 2, 60, .inr (.inl (fun _ => 0)))), ((r_2 2), .inl (k 2, 60, .inr (.inl (fun _ => 0)))), ((r_2 3), .inl (k 2, 60, .inr (.inl (fun _ => 0)))), (q_3, .inl (k 0, 4, .inl (fun _ => 0))), (q_4, .inl (k 0, 4, .inl (fun _ => 0)))]) S hK hP hD hS hA ac_int 4 (by decide) (by decide) (by decide) (Nat.le_of_ble_eq_true rfl) (Nat.le_of_ble_eq_true rfl) (fun _ => rfl) dX6_init_24 (fun q_4 H hP hD hS => ?_)
  refine W.widen (k := 7) (n := 252) (Nat.le_of_ble_eq_true rfl) (Nat.le_of_ble_eq_true rfl) ?_
  refine lv_dup hx hb dX6_init_26 rfl ?_
  refine lv_iconst (v := 0) hx hb dX6_init_27 (by decide) ?_
  refine lv_iconst (v := (-1)) hx hb dX6_init_28 (by decide) ?_
  refine x_iast (ws' := fun f_5 => [(h, .inr (6, [.ref q_1, .ref q_3, .null])), (q_1, .inl (k 6, 4, .inr (.inr (.inr (.inr (fun i => if i < 4 then some (r_2 i) else none)))))), ((r_2 0), .inl (k 2, 60, .inr (.inl (fun _ => 0)))), ((r_2 1), .inl (k 2, 60, .inr (.inl (fun _ => 0)))), ((r_2 2), .inl (k 2, 60, .inr (.inl (fun _ => 0)))), ((r_2 3), .inl (k 2, 60, .inr (.inl (fun _ => 0)))), (q_3, .inl (k 0, 4, .inl (fun _ => 0))), (q_4, .inl (k 0, 4, .inl f_5))]) S hK hP hD hS 7 rfl (vp_lit (by decide)) (fun _ => rfl) dX6_init_29 (fun f_5 H locs ef_5 hP hD hS => ?_)
  subst ef_5
  refine lv_dup hx hb dX6_init_30 rfl ?_
  refine lv_iconst (v := 1) hx hb dX6_init_31 (by decide) ?_
  refine lv_iconst (v := (-1)) hx hb dX6_init_32 (by decide) ?_
  refine x_iast (ws' := fun f_6 => [(h, .inr (6, [.ref q_1, .ref q_3, .null])), (q_1, .inl (k 6, 4, .inr (.inr (.inr (.inr (fun i => if i < 4 then some (r_2 i) else none)))))), ((r_2 0), .inl (k 2, 60, .inr (.inl (fun _ => 0)))), ((r_2 1), .inl (k 2, 60, .inr (.inl (fun _ => 0)))), ((r_2 2), .inl (k 2, 60, .inr (.inl (fun _ => 0)))), ((r_2 3), .inl (k 2, 60, .inr (.inl (fun _ => 0)))), (q_3, .inl (k 0, 4, .inl (fun _ => 0))), (q_4, .inl (k 0, 4, .inl f_6))]) S hK hP hD hS 7 rfl (vp_lit (by decide)) (fun _ => rfl) dX6_init_33 (fun f_6 H locs ef_6 hP hD hS => ?_)
  subst ef_6
  refine lv_dup hx hb dX6_init_34 rfl ?_
  refine lv_iconst (v := 2) hx hb dX6_init_35 (by decide) ?_
  refine lv_iconst (v := (-1)) hx hb dX6_init_36 (by decide) ?_
  refine x_iast (ws' := fun f_7 => [(h, .inr (6, [.ref q_1, .ref q_3, .null])), (q_1, .inl (k 6, 4, .inr (.inr (.inr (.inr (fun i => if i < 4 then some (r_2 i) else none)))))), ((r_2 0), .inl (k 2, 60, .inr (.inl (fun _ => 0)))), ((r_2 1), .inl (k 2, 60, .inr (.inl (fun _ => 0)))), ((r_2 2), .inl (k 2, 60, .inr (.inl (fun _ => 0)))), ((r_2 3), .inl (k 2, 60, .inr (.inl (fun _ => 0)))), (q_3, .inl (k 0, 4, .inl (fun _ => 0))), (q_4, .inl (k 0, 4, .inl f_7))]) S hK hP hD hS 7 rfl (vp_lit (by decide)) (fun _ => rfl) dX6_init_37 (fun f_7 H locs ef_7 hP hD hS => ?_)
  subst ef_7
  refine lv_dup hx hb dX6_init_38 rfl ?_
  refine lv_iconst (v := 3) hx hb dX6_init_39 (by decide) ?_
  refine lv_iconst (v := (-1)) hx hb dX6_init_40 (by decide) ?_
  refine x_iast (ws' := fun f_8 => [(h, .inr (6, [.ref q_1, .ref q_3, .null])), (q_1, .inl (k 6, 4, .inr (.inr (.inr (.inr (fun i => if i < 4 then some (r_2 i) else none)))))), ((r_2 0), .inl (k 2, 60, .inr (.inl (fun _ => 0)))), ((r_2 1), .inl (k 2, 60, .inr (.inl (fun _ => 0)))), ((r_2 2), .inl (k 2, 60, .inr (.inl (fun _ => 0)))), ((r_2 3), .inl (k 2, 60, .inr (.inl (fun _ => 0)))), (q_3, .inl (k 0, 4, .inl (fun _ => 0))), (q_4, .inl (k 0, 4, .inl f_8))]) S hK hP hD hS 7 rfl (vp_lit (by decide)) (fun _ => rfl) dX6_init_41 (fun f_8 H locs ef_8 hP hD hS => ?_)
  subst ef_8
  refine x_putF (ws' := [(h, .inr (6, [.ref q_1, .ref q_3, .ref q_4])), (q_1, .inl (k 6, 4, .inr (.inr (.inr (.inr (fun i => if i < 4 then some (r_2 i) else none)))))), ((r_2 0), .inl (k 2, 60, .inr (.inl (fun _ => 0)))), ((r_2 1), .inl (k 2, 60, .inr (.inl (fun _ => 0)))), ((r_2 2), .inl (k 2, 60, .inr (.inl (fun _ => 0)))), ((r_2 3), .inl (k 2, 60, .inr (.inl (fun _ => 0)))), (q_3, .inl (k 0, 4, .inl (fun _ => 0))), (q_4, .inl (k 0, 4, .inl (upd (upd (upd (upd (fun _ => 0) 0 (-1)) 1 (-1)) 2 (-1)) 3 (-1))))]) S hin hK hP hD hS 0 rfl cfX6 2 lkX6_20 (by decide) rfl rfl rfl rfl (Nat.le_of_ble_eq_true rfl) rfl dX6_init_42 (fun H locs hP hD hS => ?_)
  exact x_retv S hr hlk hQ hS ((fun i => ([q_1, q_3, q_4] : List (Nat)).getD i 0), r_2) trivial (x_B (hP.sub [0, 1, 2, 3, 4, 5, 6, 7] rfl) (hD.sub [0, 1, 2, 3, 4, 5, 6, 7] (by decide) rfl)) dX6_init_45

set_option maxHeartbeats 4000000 in
set_option maxRecDepth 100000 in
theorem ctX5_init (l : Launch) (D : va_G) (k : Nat → ClassId) (h : Nat) (g : Nat) (sl : Nat) (tr : Nat)  : MU l yX5_init cX5_init 4 none 1 D k [.ref h, .ref g, .ref sl, .ref tr] [(h, .inr (5, [.null, .null, .null, .null, .int 0, .int 0, .int 0]))] 13 216 (Uv D (fun _ : (Nat → Nat) × (Nat → Nat) => True) (fun u : (Nat → Nat) × (Nat → Nat) => [(h, .inr (5, [.ref g, .ref sl, .ref tr, .ref (u.1 0), .int 0, .int 0, .int 0])), ((u.1 0), .inl (k 5, 12, .inr (.inr (.inr (.inr (fun i => if i < 12 then some (u.2 i) else none)))))), ((u.2 0), .inl (k 0, 17, .inl (fun _ => 0))), ((u.2 1), .inl (k 0, 17, .inl (fun _ => 0))), ((u.2 2), .inl (k 0, 17, .inl (fun _ => 0))), ((u.2 3), .inl (k 0, 17, .inl (fun _ => 0))), ((u.2 4), .inl (k 0, 17, .inl (fun _ => 0))), ((u.2 5), .inl (k 0, 17, .inl (fun _ => 0))), ((u.2 6), .inl (k 0, 17, .inl (fun _ => 0))), ((u.2 7), .inl (k 0, 17, .inl (fun _ => 0))), ((u.2 8), .inl (k 0, 17, .inl (fun _ => 0))), ((u.2 9), .inl (k 0, 17, .inl (fun _ => 0))), ((u.2 10), .inl (k 0, 17, .inl (fun _ => 0))), ((u.2 11), .inl (k 0, 17, .inl (fun _ => 0)))])) := by
  refine MU.of (by decide) (Nat.le_of_ble_eq_true rfl) ?_
  intro p e s m below meth c ls A args Q S hr hlk hnm hQ hK hP hD hA hS hl
  have hin : meth.name = "<init>" := hnm
  have hx := S.1
  have hb := S.2.1
  have hl : lv_has ls 4 [(0, .ref h), (1, .ref g), (2, .ref sl), (3, .ref tr)] := hl
  refine lv_aload_n hx hb dX5_init_0 rfl (lv_at hl 0 rfl) ?_
  refine x_objInit S lkX5_3 ob_i ob_c hl dX5_init_1 (Nat.le_of_ble_eq_true rfl) (Nat.le_of_ble_eq_true rfl) (Nat.le_of_ble_eq_true rfl) ?_
  refine lv_aload_n hx hb dX5_init_4 rfl (lv_at hl 0 rfl) ?_
  refine lv_bipush (v := 12) hx hb dX5_init_5 (by decide) ?_
  refine lv_bipush (v := 17) hx hb dX5_init_7 (by decide) ?_
  refine x_mnaI (ws' := fun q_1 r_2 => [(h, .inr (5, [.null, .null, .null, .null, .int 0, .int 0, .int 0])), (q_1, .inl (k 5, 12, .inr (.inr (.inr (.inr (fun i => if i < 12 then some (r_2 i) else none)))))), ((r_2 0), .inl (k 0, 17, .inl (fun _ => 0))), ((r_2 1), .inl (k 0, 17, .inl (fun _ => 0))), ((r_2 2), .inl (k 0, 17, .inl (fun _ => 0))), ((r_2 3), .inl (k 0, 17, .inl (fun _ => 0))), ((r_2 4), .inl (k 0, 17, .inl (fun _ => 0))), ((r_2 5), .inl (k 0, 17, .inl (fun _ => 0))), ((r_2 6), .inl (k 0, 17, .inl (fun _ => 0))), ((r_2 7), .inl (k 0, 17, .inl (fun _ => 0))), ((r_2 8), .inl (k 0, 17, .inl (fun _ => 0))), ((r_2 9), .inl (k 0, 17, .inl (fun _ => 0))), ((r_2 10), .inl (k 0, 17, .inl (fun _ => 0))), ((r_2 11), .inl (k 0, 17, .inl (fun _ => 0)))]) S hK hP hD hS hA lkX5_9 ac_int 12 17 (by decide) (by decide) (by decide) (by decide) (by decide) (by decide) (by decide) (Nat.le_of_ble_eq_true rfl) (Nat.le_of_ble_eq_true rfl) (fun _ _ => rfl) dX5_init_9 (fun q_1 r_2 H hP hD hS => ?_)
  refine W.widen (k := 13) (n := 216) (Nat.le_of_ble_eq_true rfl) (Nat.le_of_ble_eq_true rfl) ?_
  refine x_putF (ws' := [(h, .inr (5, [.null, .null, .null, .ref q_1, .int 0, .int 0, .int 0])), (q_1, .inl (k 5, 12, .inr (.inr (.inr (.inr (fun i => if i < 12 then some (r_2 i) else none)))))), ((r_2 0), .inl (k 0, 17, .inl (fun _ => 0))), ((r_2 1), .inl (k 0, 17, .inl (fun _ => 0))), ((r_2 2), .inl (k 0, 17, .inl (fun _ => 0))), ((r_2 3), .inl (k 0, 17, .inl (fun _ => 0))), ((r_2 4), .inl (k 0, 17, .inl (fun _ => 0))), ((r_2 5), .inl (k 0, 17, .inl (fun _ => 0))), ((r_2 6), .inl (k 0, 17, .inl (fun _ => 0))), ((r_2 7), .inl (k 0, 17, .inl (fun _ => 0))), ((r_2 8), .inl (k 0, 17, .inl (fun _ => 0))), ((r_2 9), .inl (k 0, 17, .inl (fun _ => 0))), ((r_2 10), .inl (k 0, 17, .inl (fun _ => 0))), ((r_2 11), .inl (k 0, 17, .inl (fun _ => 0)))]) S hin hK hP hD hS 0 rfl cfX5 3 lkX5_11 (by decide) rfl rfl rfl rfl (Nat.le_of_ble_eq_true rfl) rfl dX5_init_13 (fun H locs hP hD hS => ?_)
  refine lv_aload_n hx hb dX5_init_16 rfl (lv_at hl 0 rfl) ?_
  refine lv_aload_n hx hb dX5_init_17 rfl (lv_at hl 1 rfl) ?_
  refine x_putF (ws' := [(h, .inr (5, [.ref g, .null, .null, .ref q_1, .int 0, .int 0, .int 0])), (q_1, .inl (k 5, 12, .inr (.inr (.inr (.inr (fun i => if i < 12 then some (r_2 i) else none)))))), ((r_2 0), .inl (k 0, 17, .inl (fun _ => 0))), ((r_2 1), .inl (k 0, 17, .inl (fun _ => 0))), ((r_2 2), .inl (k 0, 17, .inl (fun _ => 0))), ((r_2 3), .inl (k 0, 17, .inl (fun _ => 0))), ((r_2 4), .inl (k 0, 17, .inl (fun _ => 0))), ((r_2 5), .inl (k 0, 17, .inl (fun _ => 0))), ((r_2 6), .inl (k 0, 17, .inl (fun _ => 0))), ((r_2 7), .inl (k 0, 17, .inl (fun _ => 0))), ((r_2 8), .inl (k 0, 17, .inl (fun _ => 0))), ((r_2 9), .inl (k 0, 17, .inl (fun _ => 0))), ((r_2 10), .inl (k 0, 17, .inl (fun _ => 0))), ((r_2 11), .inl (k 0, 17, .inl (fun _ => 0)))]) S hin hK hP hD hS 0 rfl cfX5 0 lkX5_16 (by decide) rfl rfl rfl rfl (Nat.le_of_ble_eq_true rfl) rfl dX5_init_18 (fun H locs hP hD hS => ?_)
  refine lv_aload_n hx hb dX5_init_21 rfl (lv_at hl 0 rfl) ?_
  refine lv_aload_n hx hb dX5_init_22 rfl (lv_at hl 2 rfl) ?_
  refine x_putF (ws' := [(h, .inr (5, [.ref g, .ref sl, .null, .ref q_1, .int 0, .int 0, .int 0])), (q_1, .inl (k 5, 12, .inr (.inr (.inr (.inr (fun i => if i < 12 then some (r_2 i) else none)))))), ((r_2 0), .inl (k 0, 17, .inl (fun _ => 0))), ((r_2 1), .inl (k 0, 17, .inl (fun _ => 0))), ((r_2 2), .inl (k 0, 17, .inl (fun _ => 0))), ((r_2 3), .inl (k 0, 17, .inl (fun _ => 0))), ((r_2 4), .inl (k 0, 17, .inl (fun _ => 0))), ((r_2 5), .inl (k 0, 17, .inl (fun _ => 0))), ((r_2 6), .inl (k 0, 17, .inl (fun _ => 0))), ((r_2 7), .inl (k 0, 17, .inl (fun _ => 0))), ((r_2 8), .inl (k 0, 17, .inl (fun _ => 0))), ((r_2 9), .inl (k 0, 17, .inl (fun _ => 0))), ((r_2 10), .inl (k 0, 17, .inl (fun _ => 0))), ((r_2 11), .inl (k 0, 17, .inl (fun _ => 0)))]) S hin hK hP hD hS 0 rfl cfX5 1 lkX5_20 (by decide) rfl rfl rfl rfl (Nat.le_of_ble_eq_true rfl) rfl dX5_init_23 (fun H locs hP hD hS => ?_)
  refine lv_aload_n hx hb dX5_init_26 rfl (lv_at hl 0 rfl) ?_
  refine lv_aload_n hx hb dX5_init_27 rfl (lv_at hl 3 rfl) ?_
  refine x_putF (ws' := [(h, .inr (5, [.ref g, .ref sl, .ref tr, .ref q_1, .int 0, .int 0, .int 0])), (q_1, .inl (k 5, 12, .inr (.inr (.inr (.inr (fun i => if i < 12 then some (r_2 i) else none)))))), ((r_2 0), .inl (k 0, 17, .inl (fun _ => 0))), ((r_2 1), .inl (k 0, 17, .inl (fun _ => 0))), ((r_2 2), .inl (k 0, 17, .inl (fun _ => 0))), ((r_2 3), .inl (k 0, 17, .inl (fun _ => 0))), ((r_2 4), .inl (k 0, 17, .inl (fun _ => 0))), ((r_2 5), .inl (k 0, 17, .inl (fun _ => 0))), ((r_2 6), .inl (k 0, 17, .inl (fun _ => 0))), ((r_2 7), .inl (k 0, 17, .inl (fun _ => 0))), ((r_2 8), .inl (k 0, 17, .inl (fun _ => 0))), ((r_2 9), .inl (k 0, 17, .inl (fun _ => 0))), ((r_2 10), .inl (k 0, 17, .inl (fun _ => 0))), ((r_2 11), .inl (k 0, 17, .inl (fun _ => 0)))]) S hin hK hP hD hS 0 rfl cfX5 2 lkX5_24 (by decide) rfl rfl rfl rfl (Nat.le_of_ble_eq_true rfl) rfl dX5_init_28 (fun H locs hP hD hS => ?_)
  exact x_retv S hr hlk hQ hS ((fun i => ([q_1] : List (Nat)).getD i 0), r_2) trivial (x_B (hP.sub [0, 1, 2, 3, 4, 5, 6, 7, 8, 9, 10, 11, 12, 13] rfl) (hD.sub [0, 1, 2, 3, 4, 5, 6, 7, 8, 9, 10, 11, 12, 13] (by decide) rfl)) dX5_init_31

set_option maxHeartbeats 4000000 in
set_option maxRecDepth 100000 in
theorem ctX8_init (l : Launch) (D : va_G) (k : Nat → ClassId) (h : Nat) (g : Nat) (pl : Nat) (tr : Nat)  : MU l yX8_init cX8_init 4 none 1 D k [.ref h, .ref g, .ref pl, .ref tr] [(h, .inr (8, [.null, .null, .null, .null, .null, .null]))] 6 777 (Uv D (fun _ : (Nat → Nat) × (Nat → Nat) => True) (fun u : (Nat → Nat) × (Nat → Nat) => [(h, .inr (8, [.ref g, .ref pl, .ref tr, .ref (u.1 0), .ref (u.1 1), .ref (u.1 2)])), ((u.1 0), .inl (k 0, 3, .inl (upd (upd (upd (fun _ => 0) 0 (-2)) 1 (-2)) 2 (-2)))), ((u.1 1), .inl (k 5, 3, .inr (.inr (.inr (.inr (fun i => if i < 3 then some (u.2 i) else none)))))), ((u.2 0), .inl (k 0, 256, .inl (fun _ => 0))), ((u.2 1), .inl (k 0, 256, .inl (fun _ => 0))), ((u.2 2), .inl (k 0, 256, .inl (fun _ => 0))), ((u.1 2), .inl (k 3, 3, .inl (fun _ => 0)))])) := by
  refine MU.of (by decide) (Nat.le_of_ble_eq_true rfl) ?_
  intro p e s m below meth c ls A args Q S hr hlk hnm hQ hK hP hD hA hS hl
  have hin : meth.name = "<init>" := hnm
  have hx := S.1
  have hb := S.2.1
  have hl : lv_has ls 4 [(0, .ref h), (1, .ref g), (2, .ref pl), (3, .ref tr)] := hl
  refine lv_aload_n hx hb dX8_init_0 rfl (lv_at hl 0 rfl) ?_
  refine x_objInit S lkX8_3 ob_i ob_c hl dX8_init_1 (Nat.le_of_ble_eq_true rfl) (Nat.le_of_ble_eq_true rfl) (Nat.le_of_ble_eq_true rfl) ?_
  refine lv_aload_n hx hb dX8_init_4 rfl (lv_at hl 0 rfl) ?_
  refine lv_iconst (v := 3) hx hb dX8_init_5 (by decide) ?_
  refine x_newi (ws' := fun q_1 => [(h, .inr (8, [.null, .null, .null, .null, .null, .null])), (q_1, .inl (k 0, 3, .inl (fun _ => 0)))]) S hK hP hD hS hA ac_int 3 (by decide) (by decide) (by decide) (Nat.le_of_ble_eq_true rfl) (Nat.le_of_ble_eq_true rfl) (fun _ => rfl) dX8_init_6 (fun q_1 H hP hD hS => ?_)
  refine W.widen (k := 1) (n := 3) (Nat.le_of_ble_eq_true rfl) (Nat.le_of_ble_eq_true rfl) ?_
  refine lv_dup hx hb dX8_init_8 rfl ?_
  refine lv_iconst (v := 0) hx hb dX8_init_9 (by decide) ?_
  refine lv_bipush (v := (-2)) hx hb dX8_init_10 (by decide) ?_
  refine x_iast (ws' := fun f_2 => [(h, .inr (8, [.null, .null, .null, .null, .null, .null])), (q_1, .inl (k 0, 3, .inl f_2))]) S hK hP hD hS 1 rfl (vp_lit (by decide)) (fun _ => rfl) dX8_init_12 (fun f_2 H locs ef_2 hP hD hS => ?_)
  subst ef_2
  refine lv_dup hx hb dX8_init_13 rfl ?_
  refine lv_iconst (v := 1) hx hb dX8_init_14 (by decide) ?_
  refine lv_bipush (v := (-2)) hx hb dX8_init_15 (by decide) ?_
  refine x_iast (ws' := fun f_3 => [(h, .inr (8, [.null, .null, .null, .null, .null, .null])), (q_1, .inl (k 0, 3, .inl f_3))]) S hK hP hD hS 1 rfl (vp_lit (by decide)) (fun _ => rfl) dX8_init_17 (fun f_3 H locs ef_3 hP hD hS => ?_)
  subst ef_3
  refine lv_dup hx hb dX8_init_18 rfl ?_
  refine lv_iconst (v := 2) hx hb dX8_init_19 (by decide) ?_
  refine lv_bipush (v := (-2)) hx hb dX8_init_20 (by decide) ?_
  refine x_iast (ws' := fun f_4 => [(h, .inr (8, [.null, .null, .null, .null, .null, .null])), (q_1, .inl (k 0, 3, .inl f_4))]) S hK hP hD hS 1 rfl (vp_lit (by decide)) (fun _ => rfl) dX8_init_22 (fun f_4 H locs ef_4 hP hD hS => ?_)
  subst ef_4
  refine x_putF (ws' := [(h, .inr (8, [.null, .null, .null, .ref q_1, .null, .null])), (q_1, .inl (k 0, 3, .inl (upd (upd (upd (fun _ => 0) 0 (-2)) 1 (-2)) 2 (-2))))]) S hin hK hP hD hS 0 rfl cfX8 3 lkX8_11 (by decide) rfl rfl rfl rfl (Nat.le_of_ble_eq_true rfl) rfl dX8_init_23 (fun H locs hP hD hS => ?_)
  refine lv_aload_n hx hb dX8_init_26 rfl (lv_at hl 0 rfl) ?_
  refine lv_iconst (v := 3) hx hb dX8_init_27 (by decide) ?_
  refine lv_sipush (v := 256) hx hb dX8_init_28 (by decide) ?_
  refine x_mnaI (ws' := fun q_5 r_6 => [(h, .inr (8, [.null, .null, .null, .ref q_1, .null, .null])), (q_1, .inl (k 0, 3, .inl (upd (upd (upd (fun _ => 0) 0 (-2)) 1 (-2)) 2 (-2)))), (q_5, .inl (k 5, 3, .inr (.inr (.inr (.inr (fun i => if i < 3 then some (r_6 i) else none)))))), ((r_6 0), .inl (k 0, 256, .inl (fun _ => 0))), ((r_6 1), .inl (k 0, 256, .inl (fun _ => 0))), ((r_6 2), .inl (k 0, 256, .inl (fun _ => 0)))]) S hK hP hD hS hA lkX8_15 ac_int 3 256 (by decide) (by decide) (by decide) (by decide) (by decide) (by decide) (by decide) (Nat.le_of_ble_eq_true rfl) (Nat.le_of_ble_eq_true rfl) (fun _ _ => rfl) dX8_init_31 (fun q_5 r_6 H hP hD hS => ?_)
  refine W.widen (k := 5) (n := 774) (Nat.le_of_ble_eq_true rfl) (Nat.le_of_ble_eq_true rfl) ?_
  refine x_putF (ws' := [(h, .inr (8, [.null, .null, .null, .ref q_1, .ref q_5, .null])), (q_1, .inl (k 0, 3, .inl (upd (upd (upd (fun _ => 0) 0 (-2)) 1 (-2)) 2 (-2)))), (q_5, .inl (k 5, 3, .inr (.inr (.inr (.inr (fun i => if i < 3 then some (r_6 i) else none)))))), ((r_6 0), .inl (k 0, 256, .inl (fun _ => 0))), ((r_6 1), .inl (k 0, 256, .inl (fun _ => 0))), ((r_6 2), .inl (k 0, 256, .inl (fun _ => 0)))]) S hin hK hP hD hS 0 rfl cfX8 4 lkX8_17 (by decide) rfl rfl rfl rfl (Nat.le_of_ble_eq_true rfl) rfl dX8_init_35 (fun H locs hP hD hS => ?_)
  refine lv_aload_n hx hb dX8_init_38 rfl (lv_at hl 0 rfl) ?_
  refine lv_iconst (v := 3) hx hb dX8_init_39 (by decide) ?_
  refine x_newz (ws' := fun q_7 => [(h, .inr (8, [.null, .null, .null, .ref q_1, .ref q_5, .null])), (q_1, .inl (k 0, 3, .inl (upd (upd (upd (fun _ => 0) 0 (-2)) 1 (-2)) 2 (-2)))), (q_5, .inl (k 5, 3, .inr (.inr (.inr (.inr (fun i => if i < 3 then some (r_6 i) else none)))))), ((r_6 0), .inl (k 0, 256, .inl (fun _ => 0))), ((r_6 1), .inl (k 0, 256, .inl (fun _ => 0))), ((r_6 2), .inl (k 0, 256, .inl (fun _ => 0))), (q_7, .inl (k 3, 3, .inl (fun _ => 0)))]) S hK hP hD hS hA ac_boolean 3 (by decide) (by decide) (by decide) (Nat.le_of_ble_eq_true rfl) (Nat.le_of_ble_eq_true rfl) (fun _ => rfl) dX8_init_40 (fun q_7 H hP hD hS => ?_)
  refine W.widen (k := 6) (n := 777) (Nat.le_of_ble_eq_true rfl) (Nat.le_of_ble_eq_true rfl) ?_
  refine x_putF (ws' := [(h, .inr (8, [.null, .null, .null, .ref q_1, .ref q_5, .ref q_7])), (q_1, .inl (k 0, 3, .inl (upd (upd (upd (fun _ => 0) 0 (-2)) 1 (-2)) 2 (-2)))), (q_5, .inl (k 5, 3, .inr (.inr (.inr (.inr (fun i => if i < 3 then some (r_6 i) else none)))))), ((r_6 0), .inl (k 0, 256, .inl (fun _ => 0))), ((r_6 1), .inl (k 0, 256, .inl (fun _ => 0))), ((r_6 2), .inl (k 0, 256, .inl (fun _ => 0))), (q_7, .inl (k 3, 3, .inl (fun _ => 0)))]) S hin hK hP hD hS 0 rfl cfX8 5 lkX8_20 (by decide) rfl rfl rfl rfl (Nat.le_of_ble_eq_true rfl) rfl dX8_init_42 (fun H locs hP hD hS => ?_)
  refine lv_aload_n hx hb dX8_init_45 rfl (lv_at hl 0 rfl) ?_
  refine lv_aload_n hx hb dX8_init_46 rfl (lv_at hl 1 rfl) ?_
  refine x_putF (ws' := [(h, .inr (8, [.ref g, .null, .null, .ref q_1, .ref q_5, .ref q_7])), (q_1, .inl (k 0, 3, .inl (upd (upd (upd (fun _ => 0) 0 (-2)) 1 (-2)) 2 (-2)))), (q_5, .inl (k 5, 3, .inr (.inr (.inr (.inr (fun i => if i < 3 then some (r_6 i) else none)))))), ((r_6 0), .inl (k 0, 256, .inl (fun _ => 0))), ((r_6 1), .inl (k 0, 256, .inl (fun _ => 0))), ((r_6 2), .inl (k 0, 256, .inl (fun _ => 0))), (q_7, .inl (k 3, 3, .inl (fun _ => 0)))]) S hin hK hP hD hS 0 rfl cfX8 0 lkX8_24 (by decide) rfl rfl rfl rfl (Nat.le_of_ble_eq_true rfl) rfl dX8_init_47 (fun H locs hP hD hS => ?_)
  refine lv_aload_n hx hb dX8_init_50 rfl (lv_at hl 0 rfl) ?_
  refine lv_aload_n hx hb dX8_init_51 rfl (lv_at hl 2 rfl) ?_
  refine x_putF (ws' := [(h, .inr (8, [.ref g, .ref pl, .null, .ref q_1, .ref q_5, .ref q_7])), (q_1, .inl (k 0, 3, .inl (upd (upd (upd (fun _ => 0) 0 (-2)) 1 (-2)) 2 (-2)))), (q_5, .inl (k 5, 3, .inr (.inr (.inr (.inr (fun i => if i < 3 then some (r_6 i) else none)))))), ((r_6 0), .inl (k 0, 256, .inl (fun _ => 0))), ((r_6 1), .inl (k 0, 256, .inl (fun _ => 0))), ((r_6 2), .inl (k 0, 256, .inl (fun _ => 0))), (q_7, .inl (k 3, 3, .inl (fun _ => 0)))]) S hin hK hP hD hS 0 rfl cfX8 1 lkX8_28 (by decide) rfl rfl rfl rfl (Nat.le_of_ble_eq_true rfl) rfl dX8_init_52 (fun H locs hP hD hS => ?_)
  refine lv_aload_n hx hb dX8_init_55 rfl (lv_at hl 0 rfl) ?_
  refine lv_aload_n hx hb dX8_init_56 rfl (lv_at hl 3 rfl) ?_
  refine x_putF (ws' := [(h, .inr (8, [.ref g, .ref pl, .ref tr, .ref q_1, .ref q_5, .ref q_7])), (q_1, .inl (k 0, 3, .inl (upd (upd (upd (fun _ => 0) 0 (-2)) 1 (-2)) 2 (-2)))), (q_5, .inl (k 5, 3, .inr (.inr (.inr (.inr (fun i => if i < 3 then some (r_6 i) else none)))))), ((r_6 0), .inl (k 0, 256, .inl (fun _ => 0))), ((r_6 1), .inl (k 0, 256, .inl (fun _ => 0))), ((r_6 2), .inl (k 0, 256, .inl (fun _ => 0))), (q_7, .inl (k 3, 3, .inl (fun _ => 0)))]) S hin hK hP hD hS 0 rfl cfX8 2 lkX8_32 (by decide) rfl rfl rfl rfl (Nat.le_of_ble_eq_true rfl) rfl dX8_init_57 (fun H locs hP hD hS => ?_)
  exact x_retv S hr hlk hQ hS ((fun i => ([q_1, q_5, q_7] : List (Nat)).getD i 0), r_6) trivial (x_B (hP.sub [0, 1, 2, 3, 4, 5, 6] rfl) (hD.sub [0, 1, 2, 3, 4, 5, 6] (by decide) rfl)) dX8_init_60
