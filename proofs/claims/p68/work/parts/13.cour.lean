theorem dX1_asItIs_0 : decode cX1_asItIs 0 = .ok (.aload_n 0, 1) := by decide +kernel
theorem dX1_asItIs_1 : decode cX1_asItIs 1 = .ok (.aload_n 0, 1) := by decide +kernel
theorem dX1_asItIs_2 : decode cX1_asItIs 2 = .ok (.getfield 15, 3) := by decide +kernel
theorem dX1_asItIs_5 : decode cX1_asItIs 5 = .ok (.getfield 23, 3) := by decide +kernel
theorem dX1_asItIs_8 : decode cX1_asItIs 8 = .ok (.putfield 29, 3) := by decide +kernel
theorem dX1_asItIs_11 : decode cX1_asItIs 11 = .ok (.aload_n 0, 1) := by decide +kernel
theorem dX1_asItIs_12 : decode cX1_asItIs 12 = .ok (.iconst 0, 1) := by decide +kernel
theorem dX1_asItIs_13 : decode cX1_asItIs 13 = .ok (.putfield 32, 3) := by decide +kernel
theorem dX1_asItIs_16 : decode cX1_asItIs 16 = .ok (.aload_n 0, 1) := by decide +kernel
theorem dX1_asItIs_17 : decode cX1_asItIs 17 = .ok (.iconst 0, 1) := by decide +kernel
theorem dX1_asItIs_18 : decode cX1_asItIs 18 = .ok (.putfield 35, 3) := by decide +kernel
theorem dX1_asItIs_21 : decode cX1_asItIs 21 = .ok (.aload_n 0, 1) := by decide +kernel
theorem dX1_asItIs_22 : decode cX1_asItIs 22 = .ok (.iconst 0, 1) := by decide +kernel
theorem dX1_asItIs_23 : decode cX1_asItIs 23 = .ok (.putfield 38, 3) := by decide +kernel
theorem dX1_asItIs_26 : decode cX1_asItIs 26 = .ok (.aload_n 0, 1) := by decide +kernel
theorem dX1_asItIs_27 : decode cX1_asItIs 27 = .ok (.iconst 0, 1) := by decide +kernel
theorem dX1_asItIs_28 : decode cX1_asItIs 28 = .ok (.putfield 41, 3) := by decide +kernel
theorem dX1_asItIs_31 : decode cX1_asItIs 31 = .ok (.return_, 1) := by decide +kernel
theorem dX1_asTold_0 : decode cX1_asTold 0 = .ok (.aload_n 0, 1) := by decide +kernel
theorem dX1_asTold_1 : decode cX1_asTold 1 = .ok (.invokevirtual 44, 3) := by decide +kernel
theorem dX1_asTold_4 : decode cX1_asTold 4 = .ok (.aload_n 0, 1) := by decide +kernel
theorem dX1_asTold_5 : decode cX1_asTold 5 = .ok (.iload_n 2, 1) := by decide +kernel
theorem dX1_asTold_6 : decode cX1_asTold 6 = .ok (.iload_n 1, 1) := by decide +kernel
theorem dX1_asTold_7 : decode cX1_asTold 7 = .ok (.invokestatic 47, 3) := by decide +kernel
theorem dX1_asTold_10 : decode cX1_asTold 10 = .ok (.putfield 35, 3) := by decide +kernel
theorem dX1_asTold_13 : decode cX1_asTold 13 = .ok (.return_, 1) := by decide +kernel
theorem dX1_asDuel_0 : decode cX1_asDuel 0 = .ok (.aload_n 0, 1) := by decide +kernel
theorem dX1_asDuel_1 : decode cX1_asDuel 1 = .ok (.invokevirtual 44, 3) := by decide +kernel
theorem dX1_asDuel_4 : decode cX1_asDuel 4 = .ok (.aload_n 0, 1) := by decide +kernel
theorem dX1_asDuel_5 : decode cX1_asDuel 5 = .ok (.iconst 1, 1) := by decide +kernel
theorem dX1_asDuel_6 : decode cX1_asDuel 6 = .ok (.iload_n 1, 1) := by decide +kernel
theorem dX1_asDuel_7 : decode cX1_asDuel 7 = .ok (.ishl, 1) := by decide +kernel
theorem dX1_asDuel_8 : decode cX1_asDuel 8 = .ok (.iconst 1, 1) := by decide +kernel
theorem dX1_asDuel_9 : decode cX1_asDuel 9 = .ok (.invokestatic 47, 3) := by decide +kernel
theorem dX1_asDuel_12 : decode cX1_asDuel 12 = .ok (.putfield 35, 3) := by decide +kernel
theorem dX1_asDuel_15 : decode cX1_asDuel 15 = .ok (.aload_n 0, 1) := by decide +kernel
theorem dX1_asDuel_16 : decode cX1_asDuel 16 = .ok (.iconst 1, 1) := by decide +kernel
theorem dX1_asDuel_17 : decode cX1_asDuel 17 = .ok (.iload_n 2, 1) := by decide +kernel
theorem dX1_asDuel_18 : decode cX1_asDuel 18 = .ok (.ishl, 1) := by decide +kernel
theorem dX1_asDuel_19 : decode cX1_asDuel 19 = .ok (.iconst 2, 1) := by decide +kernel
theorem dX1_asDuel_20 : decode cX1_asDuel 20 = .ok (.invokestatic 47, 3) := by decide +kernel
theorem dX1_asDuel_23 : decode cX1_asDuel 23 = .ok (.putfield 38, 3) := by decide +kernel
theorem dX1_asDuel_26 : decode cX1_asDuel 26 = .ok (.return_, 1) := by decide +kernel
theorem dX1_asLaw_0 : decode cX1_asLaw 0 = .ok (.aload_n 0, 1) := by decide +kernel
theorem dX1_asLaw_1 : decode cX1_asLaw 1 = .ok (.invokevirtual 44, 3) := by decide +kernel
theorem dX1_asLaw_4 : decode cX1_asLaw 4 = .ok (.aload_n 0, 1) := by decide +kernel
theorem dX1_asLaw_5 : decode cX1_asLaw 5 = .ok (.iload_n 1, 1) := by decide +kernel
theorem dX1_asLaw_6 : decode cX1_asLaw 6 = .ok (.putfield 29, 3) := by decide +kernel
theorem dX1_asLaw_9 : decode cX1_asLaw 9 = .ok (.return_, 1) := by decide +kernel
theorem dX1_asHarder_0 : decode cX1_asHarder 0 = .ok (.aload_n 0, 1) := by decide +kernel
theorem dX1_asHarder_1 : decode cX1_asHarder 1 = .ok (.invokevirtual 44, 3) := by decide +kernel
theorem dX1_asHarder_4 : decode cX1_asHarder 4 = .ok (.aload_n 0, 1) := by decide +kernel
theorem dX1_asHarder_5 : decode cX1_asHarder 5 = .ok (.iload_n 1, 1) := by decide +kernel
theorem dX1_asHarder_6 : decode cX1_asHarder 6 = .ok (.putfield 32, 3) := by decide +kernel
theorem dX1_asHarder_9 : decode cX1_asHarder 9 = .ok (.return_, 1) := by decide +kernel
theorem dX1_asWet_0 : decode cX1_asWet 0 = .ok (.aload_n 0, 1) := by decide +kernel
theorem dX1_asWet_1 : decode cX1_asWet 1 = .ok (.invokevirtual 44, 3) := by decide +kernel
theorem dX1_asWet_4 : decode cX1_asWet 4 = .ok (.aload_n 0, 1) := by decide +kernel
theorem dX1_asWet_5 : decode cX1_asWet 5 = .ok (.iload_n 1, 1) := by decide +kernel
theorem dX1_asWet_6 : decode cX1_asWet 6 = .ok (.putfield 41, 3) := by decide +kernel
theorem dX1_asWet_9 : decode cX1_asWet 9 = .ok (.return_, 1) := by decide +kernel
theorem dX1_arrive_0 : decode cX1_arrive 0 = .ok (.iload_n 2, 1) := by decide +kernel
theorem dX1_arrive_1 : decode cX1_arrive 1 = .ok (.aload_n 0, 1) := by decide +kernel
theorem dX1_arrive_2 : decode cX1_arrive 2 = .ok (.getfield 19, 3) := by decide +kernel
theorem dX1_arrive_5 : decode cX1_arrive 5 = .ok (.getfield 51, 3) := by decide +kernel
theorem dX1_arrive_8 : decode cX1_arrive 8 = .ok (.iload_n 1, 1) := by decide +kernel
theorem dX1_arrive_9 : decode cX1_arrive 9 = .ok (.iaload, 1) := by decide +kernel
theorem dX1_arrive_10 : decode cX1_arrive 10 = .ok (.invokestatic 56, 3) := by decide +kernel
theorem dX1_arrive_13 : decode cX1_arrive 13 = .ok (.aload_n 0, 1) := by decide +kernel
theorem dX1_arrive_14 : decode cX1_arrive 14 = .ok (.getfield 19, 3) := by decide +kernel
theorem dX1_arrive_17 : decode cX1_arrive 17 = .ok (.getfield 59, 3) := by decide +kernel
theorem dX1_arrive_20 : decode cX1_arrive 20 = .ok (.iload_n 1, 1) := by decide +kernel
theorem dX1_arrive_21 : decode cX1_arrive 21 = .ok (.iaload, 1) := by decide +kernel
theorem dX1_arrive_22 : decode cX1_arrive 22 = .ok (.invokestatic 62, 3) := by decide +kernel
theorem dX1_arrive_25 : decode cX1_arrive 25 = .ok (.iconst (-1), 1) := by decide +kernel
theorem dX1_arrive_26 : decode cX1_arrive 26 = .ok (.ixor, 1) := by decide +kernel
theorem dX1_arrive_27 : decode cX1_arrive 27 = .ok (.iand, 1) := by decide +kernel
theorem dX1_arrive_28 : decode cX1_arrive 28 = .ok (.ireturn, 1) := by decide +kernel
theorem dX1_takersAt_0 : decode cX1_takersAt 0 = .ok (.aload_n 0, 1) := by decide +kernel
theorem dX1_takersAt_1 : decode cX1_takersAt 1 = .ok (.getfield 19, 3) := by decide +kernel
theorem dX1_takersAt_4 : decode cX1_takersAt 4 = .ok (.getfield 78, 3) := by decide +kernel
theorem dX1_takersAt_7 : decode cX1_takersAt 7 = .ok (.iload_n 1, 1) := by decide +kernel
theorem dX1_takersAt_8 : decode cX1_takersAt 8 = .ok (.iaload, 1) := by decide +kernel
theorem dX1_takersAt_9 : decode cX1_takersAt 9 = .ok (.aload_n 0, 1) := by decide +kernel
theorem dX1_takersAt_10 : decode cX1_takersAt 10 = .ok (.getfield 19, 3) := by decide +kernel
theorem dX1_takersAt_13 : decode cX1_takersAt 13 = .ok (.getfield 59, 3) := by decide +kernel
theorem dX1_takersAt_16 : decode cX1_takersAt 16 = .ok (.iload_n 1, 1) := by decide +kernel
theorem dX1_takersAt_17 : decode cX1_takersAt 17 = .ok (.iaload, 1) := by decide +kernel
theorem dX1_takersAt_18 : decode cX1_takersAt 18 = .ok (.iconst (-1), 1) := by decide +kernel
theorem dX1_takersAt_19 : decode cX1_takersAt 19 = .ok (.ixor, 1) := by decide +kernel
theorem dX1_takersAt_20 : decode cX1_takersAt 20 = .ok (.iand, 1) := by decide +kernel
theorem dX1_takersAt_21 : decode cX1_takersAt 21 = .ok (.ireturn, 1) := by decide +kernel
theorem dX1_lean_0 : decode cX1_lean 0 = .ok (.aload_n 0, 1) := by decide +kernel
theorem dX1_lean_1 : decode cX1_lean 1 = .ok (.getfield 15, 3) := by decide +kernel
theorem dX1_lean_4 : decode cX1_lean 4 = .ok (.getfield 84, 3) := by decide +kernel
theorem dX1_lean_7 : decode cX1_lean 7 = .ok (.iload_n 1, 1) := by decide +kernel
theorem dX1_lean_8 : decode cX1_lean 8 = .ok (.iaload, 1) := by decide +kernel
theorem dX1_lean_9 : decode cX1_lean 9 = .ok (.istore_n 3, 1) := by decide +kernel
theorem dX1_lean_10 : decode cX1_lean 10 = .ok (.aload_n 0, 1) := by decide +kernel
theorem dX1_lean_11 : decode cX1_lean 11 = .ok (.getfield 29, 3) := by decide +kernel
theorem dX1_lean_14 : decode cX1_lean 14 = .ok (.iconst 3, 1) := by decide +kernel
theorem dX1_lean_15 : decode cX1_lean 15 = .ok (.if_icmp .ne 11, 3) := by decide +kernel
theorem dX1_lean_18 : decode cX1_lean 18 = .ok (.iload_n 3, 1) := by decide +kernel
theorem dX1_lean_19 : decode cX1_lean 19 = .ok (.iconst 1, 1) := by decide +kernel
theorem dX1_lean_20 : decode cX1_lean 20 = .ok (.iload_n 1, 1) := by decide +kernel
theorem dX1_lean_21 : decode cX1_lean 21 = .ok (.ishl, 1) := by decide +kernel
theorem dX1_lean_22 : decode cX1_lean 22 = .ok (.ior, 1) := by decide +kernel
theorem dX1_lean_23 : decode cX1_lean 23 = .ok (.goto 4, 3) := by decide +kernel
theorem dX1_lean_26 : decode cX1_lean 26 = .ok (.iload_n 3, 1) := by decide +kernel
theorem dX1_lean_27 : decode cX1_lean 27 = .ok (.istore 4, 2) := by decide +kernel
theorem dX1_lean_29 : decode cX1_lean 29 = .ok (.iload_n 2, 1) := by decide +kernel
theorem dX1_lean_30 : decode cX1_lean 30 = .ok (.iload 4, 2) := by decide +kernel
theorem dX1_lean_32 : decode cX1_lean 32 = .ok (.iand, 1) := by decide +kernel
theorem dX1_lean_33 : decode cX1_lean 33 = .ok (.invokestatic 98, 3) := by decide +kernel
theorem dX1_lean_36 : decode cX1_lean 36 = .ok (.iload_n 2, 1) := by decide +kernel
theorem dX1_lean_37 : decode cX1_lean 37 = .ok (.iload 4, 2) := by decide +kernel
theorem dX1_lean_39 : decode cX1_lean 39 = .ok (.bipush 16, 2) := by decide +kernel
theorem dX1_lean_41 : decode cX1_lean 41 = .ok (.ishl, 1) := by decide +kernel
theorem dX1_lean_42 : decode cX1_lean 42 = .ok (.iand, 1) := by decide +kernel
theorem dX1_lean_43 : decode cX1_lean 43 = .ok (.invokestatic 98, 3) := by decide +kernel
theorem dX1_lean_46 : decode cX1_lean 46 = .ok (.isub, 1) := by decide +kernel
theorem dX1_lean_47 : decode cX1_lean 47 = .ok (.istore 5, 2) := by decide +kernel
theorem dX1_lean_49 : decode cX1_lean 49 = .ok (.aload_n 0, 1) := by decide +kernel
theorem dX1_lean_50 : decode cX1_lean 50 = .ok (.getfield 29, 3) := by decide +kernel
theorem dX1_lean_53 : decode cX1_lean 53 = .ok (.iconst 1, 1) := by decide +kernel
theorem dX1_lean_54 : decode cX1_lean 54 = .ok (.if_icmp .ne 37, 3) := by decide +kernel
theorem dX1_lean_57 : decode cX1_lean 57 = .ok (.aload_n 0, 1) := by decide +kernel
theorem dX1_lean_58 : decode cX1_lean 58 = .ok (.getfield 15, 3) := by decide +kernel
theorem dX1_lean_61 : decode cX1_lean 61 = .ok (.getfield 103, 3) := by decide +kernel
theorem dX1_lean_64 : decode cX1_lean 64 = .ok (.iload_n 1, 1) := by decide +kernel
theorem dX1_lean_65 : decode cX1_lean 65 = .ok (.iaload, 1) := by decide +kernel
theorem dX1_lean_66 : decode cX1_lean 66 = .ok (.istore 6, 2) := by decide +kernel
theorem dX1_lean_68 : decode cX1_lean 68 = .ok (.iload 5, 2) := by decide +kernel
theorem dX1_lean_70 : decode cX1_lean 70 = .ok (.iload_n 2, 1) := by decide +kernel
theorem dX1_lean_71 : decode cX1_lean 71 = .ok (.iload 6, 2) := by decide +kernel
theorem dX1_lean_73 : decode cX1_lean 73 = .ok (.iand, 1) := by decide +kernel
theorem dX1_lean_74 : decode cX1_lean 74 = .ok (.invokestatic 98, 3) := by decide +kernel
theorem dX1_lean_77 : decode cX1_lean 77 = .ok (.iload_n 2, 1) := by decide +kernel
theorem dX1_lean_78 : decode cX1_lean 78 = .ok (.iload 6, 2) := by decide +kernel
theorem dX1_lean_80 : decode cX1_lean 80 = .ok (.bipush 16, 2) := by decide +kernel
theorem dX1_lean_82 : decode cX1_lean 82 = .ok (.ishl, 1) := by decide +kernel
theorem dX1_lean_83 : decode cX1_lean 83 = .ok (.iand, 1) := by decide +kernel
theorem dX1_lean_84 : decode cX1_lean 84 = .ok (.invokestatic 98, 3) := by decide +kernel
theorem dX1_lean_87 : decode cX1_lean 87 = .ok (.isub, 1) := by decide +kernel
theorem dX1_lean_88 : decode cX1_lean 88 = .ok (.iadd, 1) := by decide +kernel
theorem dX1_lean_89 : decode cX1_lean 89 = .ok (.istore 5, 2) := by decide +kernel
theorem dX1_lean_91 : decode cX1_lean 91 = .ok (.iload 5, 2) := by decide +kernel
theorem dX1_lean_93 : decode cX1_lean 93 = .ok (.ireturn, 1) := by decide +kernel
theorem dX1_passTo_0 : decode cX1_passTo 0 = .ok (.aload_n 0, 1) := by decide +kernel
theorem dX1_passTo_1 : decode cX1_passTo 1 = .ok (.getfield 29, 3) := by decide +kernel
theorem dX1_passTo_4 : decode cX1_passTo 4 = .ok (.iconst 2, 1) := by decide +kernel
theorem dX1_passTo_5 : decode cX1_passTo 5 = .ok (.if_icmp .ne 16, 3) := by decide +kernel
theorem dX1_passTo_8 : decode cX1_passTo 8 = .ok (.iload_n 1, 1) := by decide +kernel
theorem dX1_passTo_9 : decode cX1_passTo 9 = .ok (.iload_n 2, 1) := by decide +kernel
theorem dX1_passTo_10 : decode cX1_passTo 10 = .ok (.iload_n 2, 1) := by decide +kernel
theorem dX1_passTo_11 : decode cX1_passTo 11 = .ok (.bipush 16, 2) := by decide +kernel
theorem dX1_passTo_13 : decode cX1_passTo 13 = .ok (.iushr, 1) := by decide +kernel
theorem dX1_passTo_14 : decode cX1_passTo 14 = .ok (.ior, 1) := by decide +kernel
theorem dX1_passTo_15 : decode cX1_passTo 15 = .ok (.iconst (-1), 1) := by decide +kernel
theorem dX1_passTo_16 : decode cX1_passTo 16 = .ok (.ixor, 1) := by decide +kernel
theorem dX1_passTo_17 : decode cX1_passTo 17 = .ok (.iand, 1) := by decide +kernel
theorem dX1_passTo_18 : decode cX1_passTo 18 = .ok (.goto 4, 3) := by decide +kernel
theorem dX1_passTo_21 : decode cX1_passTo 21 = .ok (.iload_n 1, 1) := by decide +kernel
theorem dX1_passTo_22 : decode cX1_passTo 22 = .ok (.istore_n 3, 1) := by decide +kernel
theorem dX1_passTo_23 : decode cX1_passTo 23 = .ok (.iload_n 2, 1) := by decide +kernel
theorem dX1_passTo_24 : decode cX1_passTo 24 = .ok (.istore 4, 2) := by decide +kernel
theorem dX1_passTo_26 : decode cX1_passTo 26 = .ok (.iconst 0, 1) := by decide +kernel
theorem dX1_passTo_27 : decode cX1_passTo 27 = .ok (.istore 5, 2) := by decide +kernel
theorem dX1_passTo_29 : decode cX1_passTo 29 = .ok (.iload 5, 2) := by decide +kernel
theorem dX1_passTo_31 : decode cX1_passTo 31 = .ok (.aload_n 0, 1) := by decide +kernel
theorem dX1_passTo_32 : decode cX1_passTo 32 = .ok (.getfield 15, 3) := by decide +kernel
theorem dX1_passTo_35 : decode cX1_passTo 35 = .ok (.getfield 81, 3) := by decide +kernel
theorem dX1_passTo_38 : decode cX1_passTo 38 = .ok (.if_icmp .ge 103, 3) := by decide +kernel
theorem dX1_passTo_41 : decode cX1_passTo 41 = .ok (.iconst 1, 1) := by decide +kernel
theorem dX1_passTo_42 : decode cX1_passTo 42 = .ok (.iload 5, 2) := by decide +kernel
theorem dX1_passTo_44 : decode cX1_passTo 44 = .ok (.ishl, 1) := by decide +kernel
theorem dX1_passTo_45 : decode cX1_passTo 45 = .ok (.istore 6, 2) := by decide +kernel
theorem dX1_passTo_47 : decode cX1_passTo 47 = .ok (.iload_n 3, 1) := by decide +kernel
theorem dX1_passTo_48 : decode cX1_passTo 48 = .ok (.iload 6, 2) := by decide +kernel
theorem dX1_passTo_50 : decode cX1_passTo 50 = .ok (.iand, 1) := by decide +kernel
theorem dX1_passTo_51 : decode cX1_passTo 51 = .ok (.ifCond .eq 84, 3) := by decide +kernel
theorem dX1_passTo_54 : decode cX1_passTo 54 = .ok (.iload_n 2, 1) := by decide +kernel
theorem dX1_passTo_55 : decode cX1_passTo 55 = .ok (.aload_n 0, 1) := by decide +kernel
theorem dX1_passTo_56 : decode cX1_passTo 56 = .ok (.getfield 15, 3) := by decide +kernel
theorem dX1_passTo_59 : decode cX1_passTo 59 = .ok (.getfield 84, 3) := by decide +kernel
theorem dX1_passTo_62 : decode cX1_passTo 62 = .ok (.iload 5, 2) := by decide +kernel
theorem dX1_passTo_64 : decode cX1_passTo 64 = .ok (.iaload, 1) := by decide +kernel
theorem dX1_passTo_65 : decode cX1_passTo 65 = .ok (.invokestatic 62, 3) := by decide +kernel
theorem dX1_passTo_68 : decode cX1_passTo 68 = .ok (.iand, 1) := by decide +kernel
theorem dX1_passTo_69 : decode cX1_passTo 69 = .ok (.ifCond .eq 66, 3) := by decide +kernel
theorem dX1_passTo_72 : decode cX1_passTo 72 = .ok (.aload_n 0, 1) := by decide +kernel
theorem dX1_passTo_73 : decode cX1_passTo 73 = .ok (.iload 5, 2) := by decide +kernel
theorem dX1_passTo_75 : decode cX1_passTo 75 = .ok (.iload_n 2, 1) := by decide +kernel
theorem dX1_passTo_76 : decode cX1_passTo 76 = .ok (.invokevirtual 87, 3) := by decide +kernel
theorem dX1_passTo_79 : decode cX1_passTo 79 = .ok (.istore 7, 2) := by decide +kernel
theorem dX1_passTo_81 : decode cX1_passTo 81 = .ok (.aload_n 0, 1) := by decide +kernel
theorem dX1_passTo_82 : decode cX1_passTo 82 = .ok (.getfield 15, 3) := by decide +kernel
theorem dX1_passTo_85 : decode cX1_passTo 85 = .ok (.getfield 90, 3) := by decide +kernel
theorem dX1_passTo_88 : decode cX1_passTo 88 = .ok (.iload 5, 2) := by decide +kernel
theorem dX1_passTo_90 : decode cX1_passTo 90 = .ok (.iaload, 1) := by decide +kernel
theorem dX1_passTo_91 : decode cX1_passTo 91 = .ok (.aload_n 0, 1) := by decide +kernel
theorem dX1_passTo_92 : decode cX1_passTo 92 = .ok (.getfield 32, 3) := by decide +kernel
theorem dX1_passTo_95 : decode cX1_passTo 95 = .ok (.iload 5, 2) := by decide +kernel
theorem dX1_passTo_97 : decode cX1_passTo 97 = .ok (.iushr, 1) := by decide +kernel
theorem dX1_passTo_98 : decode cX1_passTo 98 = .ok (.iconst 1, 1) := by decide +kernel
theorem dX1_passTo_99 : decode cX1_passTo 99 = .ok (.iand, 1) := by decide +kernel
theorem dX1_passTo_100 : decode cX1_passTo 100 = .ok (.iadd, 1) := by decide +kernel
theorem dX1_passTo_101 : decode cX1_passTo 101 = .ok (.istore 8, 2) := by decide +kernel
theorem dX1_passTo_103 : decode cX1_passTo 103 = .ok (.iload 7, 2) := by decide +kernel
theorem dX1_passTo_105 : decode cX1_passTo 105 = .ok (.invokestatic 93, 3) := by decide +kernel
theorem dX1_passTo_108 : decode cX1_passTo 108 = .ok (.iload 8, 2) := by decide +kernel
theorem dX1_passTo_110 : decode cX1_passTo 110 = .ok (.if_icmp .lt 25, 3) := by decide +kernel
theorem dX1_passTo_113 : decode cX1_passTo 113 = .ok (.iload 4, 2) := by decide +kernel
theorem dX1_passTo_115 : decode cX1_passTo 115 = .ok (.iload 7, 2) := by decide +kernel
theorem dX1_passTo_117 : decode cX1_passTo 117 = .ok (.ifCond .le 8, 3) := by decide +kernel
theorem dX1_passTo_120 : decode cX1_passTo 120 = .ok (.iload 6, 2) := by decide +kernel
theorem dX1_passTo_122 : decode cX1_passTo 122 = .ok (.goto 8, 3) := by decide +kernel
theorem dX1_passTo_125 : decode cX1_passTo 125 = .ok (.iload 6, 2) := by decide +kernel
theorem dX1_passTo_127 : decode cX1_passTo 127 = .ok (.bipush 16, 2) := by decide +kernel
theorem dX1_passTo_129 : decode cX1_passTo 129 = .ok (.ishl, 1) := by decide +kernel
theorem dX1_passTo_130 : decode cX1_passTo 130 = .ok (.invokestatic 56, 3) := by decide +kernel
theorem dX1_passTo_133 : decode cX1_passTo 133 = .ok (.istore 4, 2) := by decide +kernel
theorem dX1_passTo_135 : decode cX1_passTo 135 = .ok (.iinc 5 1, 3) := by decide +kernel
theorem dX1_passTo_138 : decode cX1_passTo 138 = .ok (.goto (-109), 3) := by decide +kernel
theorem dX1_passTo_141 : decode cX1_passTo 141 = .ok (.iload 4, 2) := by decide +kernel
theorem dX1_passTo_143 : decode cX1_passTo 143 = .ok (.ireturn, 1) := by decide +kernel
theorem dX1_viewAt_0 : decode cX1_viewAt 0 = .ok (.aload_n 0, 1) := by decide +kernel
theorem dX1_viewAt_1 : decode cX1_viewAt 1 = .ok (.getfield 9, 3) := by decide +kernel
theorem dX1_viewAt_4 : decode cX1_viewAt 4 = .ok (.iload_n 2, 1) := by decide +kernel
theorem dX1_viewAt_5 : decode cX1_viewAt 5 = .ok (.iaload, 1) := by decide +kernel
theorem dX1_viewAt_6 : decode cX1_viewAt 6 = .ok (.iload_n 1, 1) := by decide +kernel
theorem dX1_viewAt_7 : decode cX1_viewAt 7 = .ok (.invokestatic 106, 3) := by decide +kernel
theorem dX1_viewAt_10 : decode cX1_viewAt 10 = .ok (.ireturn, 1) := by decide +kernel
theorem dX1_lastState_0 : decode cX1_lastState 0 = .ok (.aload_n 0, 1) := by decide +kernel
theorem dX1_lastState_1 : decode cX1_lastState 1 = .ok (.getfield 9, 3) := by decide +kernel
theorem dX1_lastState_4 : decode cX1_lastState 4 = .ok (.aload_n 0, 1) := by decide +kernel
theorem dX1_lastState_5 : decode cX1_lastState 5 = .ok (.getfield 15, 3) := by decide +kernel
theorem dX1_lastState_8 : decode cX1_lastState 8 = .ok (.getfield 66, 3) := by decide +kernel
theorem dX1_lastState_11 : decode cX1_lastState 11 = .ok (.iaload, 1) := by decide +kernel
theorem dX1_lastState_12 : decode cX1_lastState 12 = .ok (.ireturn, 1) := by decide +kernel
theorem dX1_run_0 : decode cX1_run 0 = .ok (.aload_n 0, 1) := by decide +kernel
theorem dX1_run_1 : decode cX1_run 1 = .ok (.getfield 19, 3) := by decide +kernel
theorem dX1_run_4 : decode cX1_run 4 = .ok (.getfield 51, 3) := by decide +kernel
theorem dX1_run_7 : decode cX1_run 7 = .ok (.iconst 0, 1) := by decide +kernel
theorem dX1_run_8 : decode cX1_run 8 = .ok (.iaload, 1) := by decide +kernel
theorem dX1_run_9 : decode cX1_run 9 = .ok (.aload_n 0, 1) := by decide +kernel
theorem dX1_run_10 : decode cX1_run 10 = .ok (.getfield 35, 3) := by decide +kernel
theorem dX1_run_13 : decode cX1_run 13 = .ok (.invokestatic 56, 3) := by decide +kernel
theorem dX1_run_16 : decode cX1_run 16 = .ok (.aload_n 0, 1) := by decide +kernel
theorem dX1_run_17 : decode cX1_run 17 = .ok (.getfield 38, 3) := by decide +kernel
theorem dX1_run_20 : decode cX1_run 20 = .ok (.invokestatic 56, 3) := by decide +kernel
theorem dX1_run_23 : decode cX1_run 23 = .ok (.aload_n 0, 1) := by decide +kernel
theorem dX1_run_24 : decode cX1_run 24 = .ok (.getfield 19, 3) := by decide +kernel
theorem dX1_run_27 : decode cX1_run 27 = .ok (.getfield 59, 3) := by decide +kernel
theorem dX1_run_30 : decode cX1_run 30 = .ok (.iconst 0, 1) := by decide +kernel
theorem dX1_run_31 : decode cX1_run 31 = .ok (.iaload, 1) := by decide +kernel
theorem dX1_run_32 : decode cX1_run 32 = .ok (.invokestatic 62, 3) := by decide +kernel
theorem dX1_run_35 : decode cX1_run 35 = .ok (.iconst (-1), 1) := by decide +kernel
theorem dX1_run_36 : decode cX1_run 36 = .ok (.ixor, 1) := by decide +kernel
theorem dX1_run_37 : decode cX1_run 37 = .ok (.iand, 1) := by decide +kernel
theorem dX1_run_38 : decode cX1_run 38 = .ok (.istore_n 1, 1) := by decide +kernel
theorem dX1_run_39 : decode cX1_run 39 = .ok (.aload_n 0, 1) := by decide +kernel
theorem dX1_run_40 : decode cX1_run 40 = .ok (.getfield 9, 3) := by decide +kernel
theorem dX1_run_43 : decode cX1_run 43 = .ok (.iconst 0, 1) := by decide +kernel
theorem dX1_run_44 : decode cX1_run 44 = .ok (.iload_n 1, 1) := by decide +kernel
theorem dX1_run_45 : decode cX1_run 45 = .ok (.iastore, 1) := by decide +kernel
theorem dX1_run_46 : decode cX1_run 46 = .ok (.iload_n 1, 1) := by decide +kernel
theorem dX1_run_47 : decode cX1_run 47 = .ok (.istore_n 2, 1) := by decide +kernel
theorem dX1_run_48 : decode cX1_run 48 = .ok (.iconst (-1), 1) := by decide +kernel
theorem dX1_run_49 : decode cX1_run 49 = .ok (.istore_n 3, 1) := by decide +kernel
theorem dX1_run_50 : decode cX1_run 50 = .ok (.iconst 0, 1) := by decide +kernel
theorem dX1_run_51 : decode cX1_run 51 = .ok (.istore 4, 2) := by decide +kernel
theorem dX1_run_53 : decode cX1_run 53 = .ok (.iload 4, 2) := by decide +kernel
theorem dX1_run_55 : decode cX1_run 55 = .ok (.aload_n 0, 1) := by decide +kernel
theorem dX1_run_56 : decode cX1_run 56 = .ok (.getfield 15, 3) := by decide +kernel
theorem dX1_run_59 : decode cX1_run 59 = .ok (.getfield 66, 3) := by decide +kernel
theorem dX1_run_62 : decode cX1_run 62 = .ok (.if_icmp .ge 101, 3) := by decide +kernel
theorem dX1_run_65 : decode cX1_run 65 = .ok (.iload 4, 2) := by decide +kernel
theorem dX1_run_67 : decode cX1_run 67 = .ok (.bipush 16, 2) := by decide +kernel
theorem dX1_run_69 : decode cX1_run 69 = .ok (.if_icmp .ge 94, 3) := by decide +kernel
theorem dX1_run_72 : decode cX1_run 72 = .ok (.aload_n 0, 1) := by decide +kernel
theorem dX1_run_73 : decode cX1_run 73 = .ok (.iload 4, 2) := by decide +kernel
theorem dX1_run_75 : decode cX1_run 75 = .ok (.invokevirtual 69, 3) := by decide +kernel
theorem dX1_run_78 : decode cX1_run 78 = .ok (.istore 5, 2) := by decide +kernel
theorem dX1_run_80 : decode cX1_run 80 = .ok (.iload_n 1, 1) := by decide +kernel
theorem dX1_run_81 : decode cX1_run 81 = .ok (.iload_n 2, 1) := by decide +kernel
theorem dX1_run_82 : decode cX1_run 82 = .ok (.if_icmp .ne 13, 3) := by decide +kernel
theorem dX1_run_85 : decode cX1_run 85 = .ok (.iload 5, 2) := by decide +kernel
theorem dX1_run_87 : decode cX1_run 87 = .ok (.iload_n 3, 1) := by decide +kernel
theorem dX1_run_88 : decode cX1_run 88 = .ok (.if_icmp .ne 7, 3) := by decide +kernel
theorem dX1_run_91 : decode cX1_run 91 = .ok (.iconst 1, 1) := by decide +kernel
theorem dX1_run_92 : decode cX1_run 92 = .ok (.goto 4, 3) := by decide +kernel
theorem dX1_run_95 : decode cX1_run 95 = .ok (.iconst 0, 1) := by decide +kernel
theorem dX1_run_96 : decode cX1_run 96 = .ok (.istore 6, 2) := by decide +kernel
theorem dX1_run_98 : decode cX1_run 98 = .ok (.iload 6, 2) := by decide +kernel
theorem dX1_run_100 : decode cX1_run 100 = .ok (.ifCond .ne 37, 3) := by decide +kernel
theorem dX1_run_103 : decode cX1_run 103 = .ok (.aload_n 0, 1) := by decide +kernel
theorem dX1_run_104 : decode cX1_run 104 = .ok (.getfield 41, 3) := by decide +kernel
theorem dX1_run_107 : decode cX1_run 107 = .ok (.iload 4, 2) := by decide +kernel
theorem dX1_run_109 : decode cX1_run 109 = .ok (.iushr, 1) := by decide +kernel
theorem dX1_run_110 : decode cX1_run 110 = .ok (.iconst 1, 1) := by decide +kernel
theorem dX1_run_111 : decode cX1_run 111 = .ok (.iand, 1) := by decide +kernel
theorem dX1_run_112 : decode cX1_run 112 = .ok (.ifCond .ne 25, 3) := by decide +kernel
theorem dX1_run_115 : decode cX1_run 115 = .ok (.iload_n 1, 1) := by decide +kernel
theorem dX1_run_116 : decode cX1_run 116 = .ok (.istore_n 2, 1) := by decide +kernel
theorem dX1_run_117 : decode cX1_run 117 = .ok (.aload_n 0, 1) := by decide +kernel
theorem dX1_run_118 : decode cX1_run 118 = .ok (.iload 5, 2) := by decide +kernel
theorem dX1_run_120 : decode cX1_run 120 = .ok (.iload_n 1, 1) := by decide +kernel
theorem dX1_run_121 : decode cX1_run 121 = .ok (.invokevirtual 72, 3) := by decide +kernel
theorem dX1_run_124 : decode cX1_run 124 = .ok (.istore_n 1, 1) := by decide +kernel
theorem dX1_run_125 : decode cX1_run 125 = .ok (.iload_n 1, 1) := by decide +kernel
theorem dX1_run_126 : decode cX1_run 126 = .ok (.iload_n 2, 1) := by decide +kernel
theorem dX1_run_127 : decode cX1_run 127 = .ok (.if_icmp .ne 8, 3) := by decide +kernel
theorem dX1_run_130 : decode cX1_run 130 = .ok (.iload 5, 2) := by decide +kernel
theorem dX1_run_132 : decode cX1_run 132 = .ok (.goto 4, 3) := by decide +kernel
theorem dX1_run_135 : decode cX1_run 135 = .ok (.iconst (-1), 1) := by decide +kernel
theorem dX1_run_136 : decode cX1_run 136 = .ok (.istore_n 3, 1) := by decide +kernel
theorem dX1_run_137 : decode cX1_run 137 = .ok (.aload_n 0, 1) := by decide +kernel
theorem dX1_run_138 : decode cX1_run 138 = .ok (.iload 4, 2) := by decide +kernel
theorem dX1_run_140 : decode cX1_run 140 = .ok (.iconst 1, 1) := by decide +kernel
theorem dX1_run_141 : decode cX1_run 141 = .ok (.iadd, 1) := by decide +kernel
theorem dX1_run_142 : decode cX1_run 142 = .ok (.iload_n 1, 1) := by decide +kernel
theorem dX1_run_143 : decode cX1_run 143 = .ok (.invokevirtual 75, 3) := by decide +kernel
theorem dX1_run_146 : decode cX1_run 146 = .ok (.istore_n 1, 1) := by decide +kernel
theorem dX1_run_147 : decode cX1_run 147 = .ok (.aload_n 0, 1) := by decide +kernel
theorem dX1_run_148 : decode cX1_run 148 = .ok (.getfield 9, 3) := by decide +kernel
theorem dX1_run_151 : decode cX1_run 151 = .ok (.iload 4, 2) := by decide +kernel
theorem dX1_run_153 : decode cX1_run 153 = .ok (.iconst 1, 1) := by decide +kernel
theorem dX1_run_154 : decode cX1_run 154 = .ok (.iadd, 1) := by decide +kernel
theorem dX1_run_155 : decode cX1_run 155 = .ok (.iload_n 1, 1) := by decide +kernel
theorem dX1_run_156 : decode cX1_run 156 = .ok (.iastore, 1) := by decide +kernel
theorem dX1_run_157 : decode cX1_run 157 = .ok (.iinc 4 1, 3) := by decide +kernel
theorem dX1_run_160 : decode cX1_run 160 = .ok (.goto (-107), 3) := by decide +kernel
theorem dX1_run_163 : decode cX1_run 163 = .ok (.return_, 1) := by decide +kernel
set_option maxHeartbeats 4000000 in
set_option maxRecDepth 100000 in
theorem ctX1_asItIs_c (l : Launch) (D : va_G) (k : Nat → ClassId) (z : Nat → Nat) (o : Nat → Nat) (clawNow : Int32) (charder : Int32) (ctold : Int32) (creply : Int32) (cwet : Int32) (f72 : Nat → Int32) (f69 : Nat → Int32) (f70 : Nat → Int32) (f71 : Nat → Int32) (glines : Int32) (ghours : Nat) (glaw : Int32) (godds : Int32) (grows : Nat) (gheads : Nat) (gsayings : Nat) (gslugs : Nat) (gacts : Nat) (f26 : Nat → Int32) (f30 : Nat → Int32) (f31 : Nat → Int32) (hghours : ghours ≤ 16) (hgrows : grows ≤ 4) (hgheads : gheads ≤ 12) (hgsayings : gsayings ≤ 8) (hgslugs : gslugs ≤ 4) (hgacts : gacts ≤ 30) : MU l yX1_asItIs cX1_asItIs 1 none 0 D k z [.ref (o 5)] [((o 5), .inr (1, [.ref (o 3), .ref (o 4), .int clawNow, .int charder, .int ctold, .int creply, .int cwet, .ref (o 72)])), ((o 72), .inl (k 0, 17, .inl f72)), ((o 4), .inr (3, [.ref (o 69), .ref (o 70), .ref (o 71)])), ((o 69), .inl (k 0, 17, .inl f69)), ((o 70), .inl (k 0, 17, .inl f70)), ((o 71), .inl (k 0, 17, .inl f71)), ((o 3), .inr (2, [.int glines, .int (nI ghours), .int glaw, .int godds, .int (nI grows), .int (nI gheads), .int (nI gsayings), .int (nI gslugs), .int (nI gacts), .ref (o 26), .ref (o 27), .ref (o 28), .ref (o 29), .ref (o 30), .ref (o 31), .ref (o 32), .ref (o 33), .ref (o 34), .ref (o 35)])), ((o 26), .inl (k 0, 12, .inl f26)), ((o 30), .inl (k 0, 12, .inl f30)), ((o 31), .inl (k 0, 12, .inl f31))] 0 0 (Uv D (fun _ : (Nat → Int32) × (Nat → Nat) × (Nat → Nat → Int32) × (Nat → Nat → Int64) × (Nat → Int64) => True) (fun u : (Nat → Int32) × (Nat → Nat) × (Nat → Nat → Int32) × (Nat → Nat → Int64) × (Nat → Int64) => [((o 5), .inr (1, [.ref (o 3), .ref (o 4), .int (u.1 0), .int (u.1 1), .int (u.1 2), .int (u.1 3), .int (u.1 4), .ref (o 72)])), ((o 72), .inl (k 0, 17, .inl f72)), ((o 4), .inr (3, [.ref (o 69), .ref (o 70), .ref (o 71)])), ((o 69), .inl (k 0, 17, .inl f69)), ((o 70), .inl (k 0, 17, .inl f70)), ((o 71), .inl (k 0, 17, .inl f71)), ((o 3), .inr (2, [.int glines, .int (nI ghours), .int glaw, .int godds, .int (nI grows), .int (nI gheads), .int (nI gsayings), .int (nI gslugs), .int (nI gacts), .ref (o 26), .ref (o 27), .ref (o 28), .ref (o 29), .ref (o 30), .ref (o 31), .ref (o 32), .ref (o 33), .ref (o 34), .ref (o 35)])), ((o 26), .inl (k 0, 12, .inl f26)), ((o 30), .inl (k 0, 12, .inl f30)), ((o 31), .inl (k 0, 12, .inl f31))])) := by
  refine MU.of (by decide) (Nat.le_of_ble_eq_true rfl) ?_
  intro p e s m below meth c ls A args Q S hr hlk hnm hQ hK hP hD hZ hA hS hl
  have hx := S.1
  have hb := S.2.1
  have hl : lv_has ls 1 [(0, .ref (o 5))] := hl
  refine lv_aload_n hx hb dX1_asItIs_0 rfl (lv_at hl 0 rfl) ?_
  refine lv_aload_n hx hb dX1_asItIs_1 rfl (lv_at hl 0 rfl) ?_
  refine x_get S hK hP 0 rfl cfX1 0 lkX1_15 (by decide) rfl dX1_asItIs_2 ?_
  refine x_get S hK hP 6 rfl cfX2 2 lkX1_23 (by decide) rfl dX1_asItIs_5 ?_
  refine x_put (ws' := [((o 5), .inr (1, [.ref (o 3), .ref (o 4), .int glaw, .int charder, .int ctold, .int creply, .int cwet, .ref (o 72)])), ((o 72), .inl (k 0, 17, .inl f72)), ((o 4), .inr (3, [.ref (o 69), .ref (o 70), .ref (o 71)])), ((o 69), .inl (k 0, 17, .inl f69)), ((o 70), .inl (k 0, 17, .inl f70)), ((o 71), .inl (k 0, 17, .inl f71)), ((o 3), .inr (2, [.int glines, .int (nI ghours), .int glaw, .int godds, .int (nI grows), .int (nI gheads), .int (nI gsayings), .int (nI gslugs), .int (nI gacts), .ref (o 26), .ref (o 27), .ref (o 28), .ref (o 29), .ref (o 30), .ref (o 31), .ref (o 32), .ref (o 33), .ref (o 34), .ref (o 35)])), ((o 26), .inl (k 0, 12, .inl f26)), ((o 30), .inl (k 0, 12, .inl f30)), ((o 31), .inl (k 0, 12, .inl f31))]) S hK hP hD hS 0 rfl cfX1 2 lkX1_29 (by decide) rfl rfl rfl (Nat.le_of_ble_eq_true rfl) rfl dX1_asItIs_8 (fun H locs hP hD hS => ?_)
  refine lv_aload_n hx hb dX1_asItIs_11 rfl (lv_at hl 0 rfl) ?_
  refine lv_iconst (v := 0) hx hb dX1_asItIs_12 (by decide) ?_
  refine x_put (ws' := [((o 5), .inr (1, [.ref (o 3), .ref (o 4), .int glaw, .int 0, .int ctold, .int creply, .int cwet, .ref (o 72)])), ((o 72), .inl (k 0, 17, .inl f72)), ((o 4), .inr (3, [.ref (o 69), .ref (o 70), .ref (o 71)])), ((o 69), .inl (k 0, 17, .inl f69)), ((o 70), .inl (k 0, 17, .inl f70)), ((o 71), .inl (k 0, 17, .inl f71)), ((o 3), .inr (2, [.int glines, .int (nI ghours), .int glaw, .int godds, .int (nI grows), .int (nI gheads), .int (nI gsayings), .int (nI gslugs), .int (nI gacts), .ref (o 26), .ref (o 27), .ref (o 28), .ref (o 29), .ref (o 30), .ref (o 31), .ref (o 32), .ref (o 33), .ref (o 34), .ref (o 35)])), ((o 26), .inl (k 0, 12, .inl f26)), ((o 30), .inl (k 0, 12, .inl f30)), ((o 31), .inl (k 0, 12, .inl f31))]) S hK hP hD hS 0 rfl cfX1 3 lkX1_32 (by decide) rfl rfl rfl (Nat.le_of_ble_eq_true rfl) rfl dX1_asItIs_13 (fun H locs hP hD hS => ?_)
  refine lv_aload_n hx hb dX1_asItIs_16 rfl (lv_at hl 0 rfl) ?_
  refine lv_iconst (v := 0) hx hb dX1_asItIs_17 (by decide) ?_
  refine x_put (ws' := [((o 5), .inr (1, [.ref (o 3), .ref (o 4), .int glaw, .int 0, .int 0, .int creply, .int cwet, .ref (o 72)])), ((o 72), .inl (k 0, 17, .inl f72)), ((o 4), .inr (3, [.ref (o 69), .ref (o 70), .ref (o 71)])), ((o 69), .inl (k 0, 17, .inl f69)), ((o 70), .inl (k 0, 17, .inl f70)), ((o 71), .inl (k 0, 17, .inl f71)), ((o 3), .inr (2, [.int glines, .int (nI ghours), .int glaw, .int godds, .int (nI grows), .int (nI gheads), .int (nI gsayings), .int (nI gslugs), .int (nI gacts), .ref (o 26), .ref (o 27), .ref (o 28), .ref (o 29), .ref (o 30), .ref (o 31), .ref (o 32), .ref (o 33), .ref (o 34), .ref (o 35)])), ((o 26), .inl (k 0, 12, .inl f26)), ((o 30), .inl (k 0, 12, .inl f30)), ((o 31), .inl (k 0, 12, .inl f31))]) S hK hP hD hS 0 rfl cfX1 4 lkX1_35 (by decide) rfl rfl rfl (Nat.le_of_ble_eq_true rfl) rfl dX1_asItIs_18 (fun H locs hP hD hS => ?_)
  refine lv_aload_n hx hb dX1_asItIs_21 rfl (lv_at hl 0 rfl) ?_
  refine lv_iconst (v := 0) hx hb dX1_asItIs_22 (by decide) ?_
  refine x_put (ws' := [((o 5), .inr (1, [.ref (o 3), .ref (o 4), .int glaw, .int 0, .int 0, .int 0, .int cwet, .ref (o 72)])), ((o 72), .inl (k 0, 17, .inl f72)), ((o 4), .inr (3, [.ref (o 69), .ref (o 70), .ref (o 71)])), ((o 69), .inl (k 0, 17, .inl f69)), ((o 70), .inl (k 0, 17, .inl f70)), ((o 71), .inl (k 0, 17, .inl f71)), ((o 3), .inr (2, [.int glines, .int (nI ghours), .int glaw, .int godds, .int (nI grows), .int (nI gheads), .int (nI gsayings), .int (nI gslugs), .int (nI gacts), .ref (o 26), .ref (o 27), .ref (o 28), .ref (o 29), .ref (o 30), .ref (o 31), .ref (o 32), .ref (o 33), .ref (o 34), .ref (o 35)])), ((o 26), .inl (k 0, 12, .inl f26)), ((o 30), .inl (k 0, 12, .inl f30)), ((o 31), .inl (k 0, 12, .inl f31))]) S hK hP hD hS 0 rfl cfX1 5 lkX1_38 (by decide) rfl rfl rfl (Nat.le_of_ble_eq_true rfl) rfl dX1_asItIs_23 (fun H locs hP hD hS => ?_)
  refine lv_aload_n hx hb dX1_asItIs_26 rfl (lv_at hl 0 rfl) ?_
  refine lv_iconst (v := 0) hx hb dX1_asItIs_27 (by decide) ?_
  refine x_put (ws' := [((o 5), .inr (1, [.ref (o 3), .ref (o 4), .int glaw, .int 0, .int 0, .int 0, .int 0, .ref (o 72)])), ((o 72), .inl (k 0, 17, .inl f72)), ((o 4), .inr (3, [.ref (o 69), .ref (o 70), .ref (o 71)])), ((o 69), .inl (k 0, 17, .inl f69)), ((o 70), .inl (k 0, 17, .inl f70)), ((o 71), .inl (k 0, 17, .inl f71)), ((o 3), .inr (2, [.int glines, .int (nI ghours), .int glaw, .int godds, .int (nI grows), .int (nI gheads), .int (nI gsayings), .int (nI gslugs), .int (nI gacts), .ref (o 26), .ref (o 27), .ref (o 28), .ref (o 29), .ref (o 30), .ref (o 31), .ref (o 32), .ref (o 33), .ref (o 34), .ref (o 35)])), ((o 26), .inl (k 0, 12, .inl f26)), ((o 30), .inl (k 0, 12, .inl f30)), ((o 31), .inl (k 0, 12, .inl f31))]) S hK hP hD hS 0 rfl cfX1 6 lkX1_41 (by decide) rfl rfl rfl (Nat.le_of_ble_eq_true rfl) rfl dX1_asItIs_28 (fun H locs hP hD hS => ?_)
  exact x_retv S hr hlk hQ hS ((fun i => ([glaw, 0, 0, 0, 0] : List (Int32)).getD i 0), (fun i => ([] : List (Nat)).getD i 0), (fun i => ([] : List (Nat → Int32)).getD i (fun _ => 0)), (fun i => ([] : List (Nat → Int64)).getD i (fun _ => 0)), (fun i => ([] : List (Int64)).getD i 0)) trivial (x_B hP hD) dX1_asItIs_31

set_option maxHeartbeats 4000000 in
set_option maxRecDepth 100000 in
theorem ctX1_asTold_c (l : Launch) (D : va_G) (k : Nat → ClassId) (z : Nat → Nat) (o : Nat → Nat) (clawNow : Int32) (charder : Int32) (ctold : Int32) (creply : Int32) (cwet : Int32) (f72 : Nat → Int32) (f69 : Nat → Int32) (f70 : Nat → Int32) (f71 : Nat → Int32) (glines : Int32) (ghours : Nat) (glaw : Int32) (godds : Int32) (grows : Nat) (gheads : Nat) (gsayings : Nat) (gslugs : Nat) (gacts : Nat) (f26 : Nat → Int32) (f30 : Nat → Int32) (f31 : Nat → Int32) (p0 : Int32) (p1 : Int32) (hghours : ghours ≤ 16) (hgrows : grows ≤ 4) (hgheads : gheads ≤ 12) (hgsayings : gsayings ≤ 8) (hgslugs : gslugs ≤ 4) (hgacts : gacts ≤ 30) : MU l yX1_asTold cX1_asTold 3 none 1 D k z [.ref (o 5), .int p0, .int p1] [((o 5), .inr (1, [.ref (o 3), .ref (o 4), .int clawNow, .int charder, .int ctold, .int creply, .int cwet, .ref (o 72)])), ((o 72), .inl (k 0, 17, .inl f72)), ((o 4), .inr (3, [.ref (o 69), .ref (o 70), .ref (o 71)])), ((o 69), .inl (k 0, 17, .inl f69)), ((o 70), .inl (k 0, 17, .inl f70)), ((o 71), .inl (k 0, 17, .inl f71)), ((o 3), .inr (2, [.int glines, .int (nI ghours), .int glaw, .int godds, .int (nI grows), .int (nI gheads), .int (nI gsayings), .int (nI gslugs), .int (nI gacts), .ref (o 26), .ref (o 27), .ref (o 28), .ref (o 29), .ref (o 30), .ref (o 31), .ref (o 32), .ref (o 33), .ref (o 34), .ref (o 35)])), ((o 26), .inl (k 0, 12, .inl f26)), ((o 30), .inl (k 0, 12, .inl f30)), ((o 31), .inl (k 0, 12, .inl f31))] 0 0 (Uv D (fun _ : (Nat → Int32) × (Nat → Nat) × (Nat → Nat → Int32) × (Nat → Nat → Int64) × (Nat → Int64) => True) (fun u : (Nat → Int32) × (Nat → Nat) × (Nat → Nat → Int32) × (Nat → Nat → Int64) × (Nat → Int64) => [((o 5), .inr (1, [.ref (o 3), .ref (o 4), .int (u.1 0), .int (u.1 1), .int (u.1 2), .int (u.1 3), .int (u.1 4), .ref (o 72)])), ((o 72), .inl (k 0, 17, .inl f72)), ((o 4), .inr (3, [.ref (o 69), .ref (o 70), .ref (o 71)])), ((o 69), .inl (k 0, 17, .inl f69)), ((o 70), .inl (k 0, 17, .inl f70)), ((o 71), .inl (k 0, 17, .inl f71)), ((o 3), .inr (2, [.int glines, .int (nI ghours), .int glaw, .int godds, .int (nI grows), .int (nI gheads), .int (nI gsayings), .int (nI gslugs), .int (nI gacts), .ref (o 26), .ref (o 27), .ref (o 28), .ref (o 29), .ref (o 30), .ref (o 31), .ref (o 32), .ref (o 33), .ref (o 34), .ref (o 35)])), ((o 26), .inl (k 0, 12, .inl f26)), ((o 30), .inl (k 0, 12, .inl f30)), ((o 31), .inl (k 0, 12, .inl f31))])) := by
  refine MU.of (by decide) (Nat.le_of_ble_eq_true rfl) ?_
  intro p e s m below meth c ls A args Q S hr hlk hnm hQ hK hP hD hZ hA hS hl
  have hx := S.1
  have hb := S.2.1
  have hl : lv_has ls 3 [(0, .ref (o 5)), (1, .int p0), (2, .int p1)] := hl
  refine lv_aload_n hx hb dX1_asTold_0 rfl (lv_at hl 0 rfl) ?_
  refine x_muVv (wr := []) (As := []) S hK hP hD hZ hS hA hl mwX1_asItIs lkX1_44 (ctX1_asItIs_c l D k z o clawNow charder ctold creply cwet f72 f69 f70 f71 glines ghours glaw godds grows gheads gsayings gslugs gacts f26 f30 f31 (by omega) (by omega) (by omega) (by omega) (by omega) (by omega)) [0, 1, 2, 3, 4, 5, 6, 7, 8, 9] [] rfl rfl (by decide) (by decide) (by decide) rfl rfl rfl rfl rfl ⟨Nat.le_of_ble_eq_true rfl, Nat.le_of_ble_eq_true rfl, Nat.le_of_ble_eq_true rfl⟩ dX1_asTold_1 ⟨Nat.le_of_ble_eq_true rfl, Nat.le_of_ble_eq_true rfl⟩ (fun u_2 H locs hr_1 hP hD hS => ?_)
  have hP : va_P D vwCl [((o 5), .inr (1, [.ref (o 3), .ref (o 4), .int (u_2.1 0), .int (u_2.1 1), .int (u_2.1 2), .int (u_2.1 3), .int (u_2.1 4), .ref (o 72)])), ((o 72), .inl (k 0, 17, .inl f72)), ((o 4), .inr (3, [.ref (o 69), .ref (o 70), .ref (o 71)])), ((o 69), .inl (k 0, 17, .inl f69)), ((o 70), .inl (k 0, 17, .inl f70)), ((o 71), .inl (k 0, 17, .inl f71)), ((o 3), .inr (2, [.int glines, .int (nI ghours), .int glaw, .int godds, .int (nI grows), .int (nI gheads), .int (nI gsayings), .int (nI gslugs), .int (nI gacts), .ref (o 26), .ref (o 27), .ref (o 28), .ref (o 29), .ref (o 30), .ref (o 31), .ref (o 32), .ref (o 33), .ref (o 34), .ref (o 35)])), ((o 26), .inl (k 0, 12, .inl f26)), ((o 30), .inl (k 0, 12, .inl f30)), ((o 31), .inl (k 0, 12, .inl f31))] H := hP.sub [0, 1, 2, 3, 4, 5, 6, 7, 8, 9] rfl
  have hD : va_D A [((o 5), .inr (1, [.ref (o 3), .ref (o 4), .int (u_2.1 0), .int (u_2.1 1), .int (u_2.1 2), .int (u_2.1 3), .int (u_2.1 4), .ref (o 72)])), ((o 72), .inl (k 0, 17, .inl f72)), ((o 4), .inr (3, [.ref (o 69), .ref (o 70), .ref (o 71)])), ((o 69), .inl (k 0, 17, .inl f69)), ((o 70), .inl (k 0, 17, .inl f70)), ((o 71), .inl (k 0, 17, .inl f71)), ((o 3), .inr (2, [.int glines, .int (nI ghours), .int glaw, .int godds, .int (nI grows), .int (nI gheads), .int (nI gsayings), .int (nI gslugs), .int (nI gacts), .ref (o 26), .ref (o 27), .ref (o 28), .ref (o 29), .ref (o 30), .ref (o 31), .ref (o 32), .ref (o 33), .ref (o 34), .ref (o 35)])), ((o 26), .inl (k 0, 12, .inl f26)), ((o 30), .inl (k 0, 12, .inl f30)), ((o 31), .inl (k 0, 12, .inl f31))] := hD.sub [0, 1, 2, 3, 4, 5, 6, 7, 8, 9] (by decide) rfl
  refine lv_aload_n hx hb dX1_asTold_4 rfl (lv_at hl 0 rfl) ?_
  refine lv_iload_n hx hb dX1_asTold_5 rfl (lv_at hl 2 rfl) ?_
  refine lv_iload_n hx hb dX1_asTold_6 rfl (lv_at hl 1 rfl) ?_
  refine x_roSNi (As := [.int p1, .int p0]) S hK hP hD hZ (fun _ h => h) hA hS hA hl mwX10_inHalf lkX1_47 (ctX10_inHalf l D k z p1 p0 ) [] rfl (by decide) rfl rfl ⟨Nat.le_of_ble_eq_true rfl, Nat.le_of_ble_eq_true rfl, Nat.le_of_ble_eq_true rfl⟩ dX1_asTold_7 ⟨Nat.le_of_ble_eq_true rfl, Nat.le_of_ble_eq_true rfl⟩ (fun r_3 H locs hr_3 hP hS => ?_)
  refine x_put (ws' := [((o 5), .inr (1, [.ref (o 3), .ref (o 4), .int (u_2.1 0), .int (u_2.1 1), .int r_3, .int (u_2.1 3), .int (u_2.1 4), .ref (o 72)])), ((o 72), .inl (k 0, 17, .inl f72)), ((o 4), .inr (3, [.ref (o 69), .ref (o 70), .ref (o 71)])), ((o 69), .inl (k 0, 17, .inl f69)), ((o 70), .inl (k 0, 17, .inl f70)), ((o 71), .inl (k 0, 17, .inl f71)), ((o 3), .inr (2, [.int glines, .int (nI ghours), .int glaw, .int godds, .int (nI grows), .int (nI gheads), .int (nI gsayings), .int (nI gslugs), .int (nI gacts), .ref (o 26), .ref (o 27), .ref (o 28), .ref (o 29), .ref (o 30), .ref (o 31), .ref (o 32), .ref (o 33), .ref (o 34), .ref (o 35)])), ((o 26), .inl (k 0, 12, .inl f26)), ((o 30), .inl (k 0, 12, .inl f30)), ((o 31), .inl (k 0, 12, .inl f31))]) S hK hP hD hS 0 rfl cfX1 4 lkX1_35 (by decide) rfl rfl rfl (Nat.le_of_ble_eq_true rfl) rfl dX1_asTold_10 (fun H locs hP hD hS => ?_)
  exact x_retv S hr hlk hQ hS ((fun i => ([(u_2.1 0), (u_2.1 1), r_3, (u_2.1 3), (u_2.1 4)] : List (Int32)).getD i 0), (fun i => ([] : List (Nat)).getD i 0), (fun i => ([] : List (Nat → Int32)).getD i (fun _ => 0)), (fun i => ([] : List (Nat → Int64)).getD i (fun _ => 0)), (fun i => ([] : List (Int64)).getD i 0)) trivial (x_B hP hD) dX1_asTold_13

set_option maxHeartbeats 4000000 in
set_option maxRecDepth 100000 in
theorem ctX1_asDuel_c (l : Launch) (D : va_G) (k : Nat → ClassId) (z : Nat → Nat) (o : Nat → Nat) (clawNow : Int32) (charder : Int32) (ctold : Int32) (creply : Int32) (cwet : Int32) (f72 : Nat → Int32) (f69 : Nat → Int32) (f70 : Nat → Int32) (f71 : Nat → Int32) (glines : Int32) (ghours : Nat) (glaw : Int32) (godds : Int32) (grows : Nat) (gheads : Nat) (gsayings : Nat) (gslugs : Nat) (gacts : Nat) (f26 : Nat → Int32) (f30 : Nat → Int32) (f31 : Nat → Int32) (p0 : Int32) (p1 : Int32) (hghours : ghours ≤ 16) (hgrows : grows ≤ 4) (hgheads : gheads ≤ 12) (hgsayings : gsayings ≤ 8) (hgslugs : gslugs ≤ 4) (hgacts : gacts ≤ 30) : MU l yX1_asDuel cX1_asDuel 3 none 1 D k z [.ref (o 5), .int p0, .int p1] [((o 5), .inr (1, [.ref (o 3), .ref (o 4), .int clawNow, .int charder, .int ctold, .int creply, .int cwet, .ref (o 72)])), ((o 72), .inl (k 0, 17, .inl f72)), ((o 4), .inr (3, [.ref (o 69), .ref (o 70), .ref (o 71)])), ((o 69), .inl (k 0, 17, .inl f69)), ((o 70), .inl (k 0, 17, .inl f70)), ((o 71), .inl (k 0, 17, .inl f71)), ((o 3), .inr (2, [.int glines, .int (nI ghours), .int glaw, .int godds, .int (nI grows), .int (nI gheads), .int (nI gsayings), .int (nI gslugs), .int (nI gacts), .ref (o 26), .ref (o 27), .ref (o 28), .ref (o 29), .ref (o 30), .ref (o 31), .ref (o 32), .ref (o 33), .ref (o 34), .ref (o 35)])), ((o 26), .inl (k 0, 12, .inl f26)), ((o 30), .inl (k 0, 12, .inl f30)), ((o 31), .inl (k 0, 12, .inl f31))] 0 0 (Uv D (fun _ : (Nat → Int32) × (Nat → Nat) × (Nat → Nat → Int32) × (Nat → Nat → Int64) × (Nat → Int64) => True) (fun u : (Nat → Int32) × (Nat → Nat) × (Nat → Nat → Int32) × (Nat → Nat → Int64) × (Nat → Int64) => [((o 5), .inr (1, [.ref (o 3), .ref (o 4), .int (u.1 0), .int (u.1 1), .int (u.1 2), .int (u.1 3), .int (u.1 4), .ref (o 72)])), ((o 72), .inl (k 0, 17, .inl f72)), ((o 4), .inr (3, [.ref (o 69), .ref (o 70), .ref (o 71)])), ((o 69), .inl (k 0, 17, .inl f69)), ((o 70), .inl (k 0, 17, .inl f70)), ((o 71), .inl (k 0, 17, .inl f71)), ((o 3), .inr (2, [.int glines, .int (nI ghours), .int glaw, .int godds, .int (nI grows), .int (nI gheads), .int (nI gsayings), .int (nI gslugs), .int (nI gacts), .ref (o 26), .ref (o 27), .ref (o 28), .ref (o 29), .ref (o 30), .ref (o 31), .ref (o 32), .ref (o 33), .ref (o 34), .ref (o 35)])), ((o 26), .inl (k 0, 12, .inl f26)), ((o 30), .inl (k 0, 12, .inl f30)), ((o 31), .inl (k 0, 12, .inl f31))])) := by
  refine MU.of (by decide) (Nat.le_of_ble_eq_true rfl) ?_
  intro p e s m below meth c ls A args Q S hr hlk hnm hQ hK hP hD hZ hA hS hl
  have hx := S.1
  have hb := S.2.1
  have hl : lv_has ls 3 [(0, .ref (o 5)), (1, .int p0), (2, .int p1)] := hl
  refine lv_aload_n hx hb dX1_asDuel_0 rfl (lv_at hl 0 rfl) ?_
  refine x_muVv (wr := []) (As := []) S hK hP hD hZ hS hA hl mwX1_asItIs lkX1_44 (ctX1_asItIs_c l D k z o clawNow charder ctold creply cwet f72 f69 f70 f71 glines ghours glaw godds grows gheads gsayings gslugs gacts f26 f30 f31 (by omega) (by omega) (by omega) (by omega) (by omega) (by omega)) [0, 1, 2, 3, 4, 5, 6, 7, 8, 9] [] rfl rfl (by decide) (by decide) (by decide) rfl rfl rfl rfl rfl ⟨Nat.le_of_ble_eq_true rfl, Nat.le_of_ble_eq_true rfl, Nat.le_of_ble_eq_true rfl⟩ dX1_asDuel_1 ⟨Nat.le_of_ble_eq_true rfl, Nat.le_of_ble_eq_true rfl⟩ (fun u_2 H locs hr_1 hP hD hS => ?_)
  have hP : va_P D vwCl [((o 5), .inr (1, [.ref (o 3), .ref (o 4), .int (u_2.1 0), .int (u_2.1 1), .int (u_2.1 2), .int (u_2.1 3), .int (u_2.1 4), .ref (o 72)])), ((o 72), .inl (k 0, 17, .inl f72)), ((o 4), .inr (3, [.ref (o 69), .ref (o 70), .ref (o 71)])), ((o 69), .inl (k 0, 17, .inl f69)), ((o 70), .inl (k 0, 17, .inl f70)), ((o 71), .inl (k 0, 17, .inl f71)), ((o 3), .inr (2, [.int glines, .int (nI ghours), .int glaw, .int godds, .int (nI grows), .int (nI gheads), .int (nI gsayings), .int (nI gslugs), .int (nI gacts), .ref (o 26), .ref (o 27), .ref (o 28), .ref (o 29), .ref (o 30), .ref (o 31), .ref (o 32), .ref (o 33), .ref (o 34), .ref (o 35)])), ((o 26), .inl (k 0, 12, .inl f26)), ((o 30), .inl (k 0, 12, .inl f30)), ((o 31), .inl (k 0, 12, .inl f31))] H := hP.sub [0, 1, 2, 3, 4, 5, 6, 7, 8, 9] rfl
  have hD : va_D A [((o 5), .inr (1, [.ref (o 3), .ref (o 4), .int (u_2.1 0), .int (u_2.1 1), .int (u_2.1 2), .int (u_2.1 3), .int (u_2.1 4), .ref (o 72)])), ((o 72), .inl (k 0, 17, .inl f72)), ((o 4), .inr (3, [.ref (o 69), .ref (o 70), .ref (o 71)])), ((o 69), .inl (k 0, 17, .inl f69)), ((o 70), .inl (k 0, 17, .inl f70)), ((o 71), .inl (k 0, 17, .inl f71)), ((o 3), .inr (2, [.int glines, .int (nI ghours), .int glaw, .int godds, .int (nI grows), .int (nI gheads), .int (nI gsayings), .int (nI gslugs), .int (nI gacts), .ref (o 26), .ref (o 27), .ref (o 28), .ref (o 29), .ref (o 30), .ref (o 31), .ref (o 32), .ref (o 33), .ref (o 34), .ref (o 35)])), ((o 26), .inl (k 0, 12, .inl f26)), ((o 30), .inl (k 0, 12, .inl f30)), ((o 31), .inl (k 0, 12, .inl f31))] := hD.sub [0, 1, 2, 3, 4, 5, 6, 7, 8, 9] (by decide) rfl
  refine lv_aload_n hx hb dX1_asDuel_4 rfl (lv_at hl 0 rfl) ?_
  refine lv_iconst (v := 1) hx hb dX1_asDuel_5 (by decide) ?_
  refine lv_iload_n hx hb dX1_asDuel_6 rfl (lv_at hl 1 rfl) ?_
  refine lv_ishl hx hb dX1_asDuel_7 ?_
  refine lv_topi (fun v_3 ev_3 => ?_)
  refine lv_iconst (v := 1) hx hb dX1_asDuel_8 (by decide) ?_
  refine x_roSNi (As := [.int v_3, .int 1]) S hK hP hD hZ (fun _ h => h) hA hS hA hl mwX10_inHalf lkX1_47 (ctX10_inHalf l D k z v_3 1 ) [] rfl (by decide) rfl rfl ⟨Nat.le_of_ble_eq_true rfl, Nat.le_of_ble_eq_true rfl, Nat.le_of_ble_eq_true rfl⟩ dX1_asDuel_9 ⟨Nat.le_of_ble_eq_true rfl, Nat.le_of_ble_eq_true rfl⟩ (fun r_4 H locs hr_4 hP hS => ?_)
  refine x_put (ws' := [((o 5), .inr (1, [.ref (o 3), .ref (o 4), .int (u_2.1 0), .int (u_2.1 1), .int r_4, .int (u_2.1 3), .int (u_2.1 4), .ref (o 72)])), ((o 72), .inl (k 0, 17, .inl f72)), ((o 4), .inr (3, [.ref (o 69), .ref (o 70), .ref (o 71)])), ((o 69), .inl (k 0, 17, .inl f69)), ((o 70), .inl (k 0, 17, .inl f70)), ((o 71), .inl (k 0, 17, .inl f71)), ((o 3), .inr (2, [.int glines, .int (nI ghours), .int glaw, .int godds, .int (nI grows), .int (nI gheads), .int (nI gsayings), .int (nI gslugs), .int (nI gacts), .ref (o 26), .ref (o 27), .ref (o 28), .ref (o 29), .ref (o 30), .ref (o 31), .ref (o 32), .ref (o 33), .ref (o 34), .ref (o 35)])), ((o 26), .inl (k 0, 12, .inl f26)), ((o 30), .inl (k 0, 12, .inl f30)), ((o 31), .inl (k 0, 12, .inl f31))]) S hK hP hD hS 0 rfl cfX1 4 lkX1_35 (by decide) rfl rfl rfl (Nat.le_of_ble_eq_true rfl) rfl dX1_asDuel_12 (fun H locs hP hD hS => ?_)
  refine lv_aload_n hx hb dX1_asDuel_15 rfl (lv_at hl 0 rfl) ?_
  refine lv_iconst (v := 1) hx hb dX1_asDuel_16 (by decide) ?_
  refine lv_iload_n hx hb dX1_asDuel_17 rfl (lv_at hl 2 rfl) ?_
  refine lv_ishl hx hb dX1_asDuel_18 ?_
  refine lv_topi (fun v_6 ev_6 => ?_)
  refine lv_iconst (v := 2) hx hb dX1_asDuel_19 (by decide) ?_
  refine x_roSNi (As := [.int v_6, .int 2]) S hK hP hD hZ (fun _ h => h) hA hS hA hl mwX10_inHalf lkX1_47 (ctX10_inHalf l D k z v_6 2 ) [] rfl (by decide) rfl rfl ⟨Nat.le_of_ble_eq_true rfl, Nat.le_of_ble_eq_true rfl, Nat.le_of_ble_eq_true rfl⟩ dX1_asDuel_20 ⟨Nat.le_of_ble_eq_true rfl, Nat.le_of_ble_eq_true rfl⟩ (fun r_7 H locs hr_7 hP hS => ?_)
  refine x_put (ws' := [((o 5), .inr (1, [.ref (o 3), .ref (o 4), .int (u_2.1 0), .int (u_2.1 1), .int r_4, .int r_7, .int (u_2.1 4), .ref (o 72)])), ((o 72), .inl (k 0, 17, .inl f72)), ((o 4), .inr (3, [.ref (o 69), .ref (o 70), .ref (o 71)])), ((o 69), .inl (k 0, 17, .inl f69)), ((o 70), .inl (k 0, 17, .inl f70)), ((o 71), .inl (k 0, 17, .inl f71)), ((o 3), .inr (2, [.int glines, .int (nI ghours), .int glaw, .int godds, .int (nI grows), .int (nI gheads), .int (nI gsayings), .int (nI gslugs), .int (nI gacts), .ref (o 26), .ref (o 27), .ref (o 28), .ref (o 29), .ref (o 30), .ref (o 31), .ref (o 32), .ref (o 33), .ref (o 34), .ref (o 35)])), ((o 26), .inl (k 0, 12, .inl f26)), ((o 30), .inl (k 0, 12, .inl f30)), ((o 31), .inl (k 0, 12, .inl f31))]) S hK hP hD hS 0 rfl cfX1 5 lkX1_38 (by decide) rfl rfl rfl (Nat.le_of_ble_eq_true rfl) rfl dX1_asDuel_23 (fun H locs hP hD hS => ?_)
  exact x_retv S hr hlk hQ hS ((fun i => ([(u_2.1 0), (u_2.1 1), r_4, r_7, (u_2.1 4)] : List (Int32)).getD i 0), (fun i => ([] : List (Nat)).getD i 0), (fun i => ([] : List (Nat → Int32)).getD i (fun _ => 0)), (fun i => ([] : List (Nat → Int64)).getD i (fun _ => 0)), (fun i => ([] : List (Int64)).getD i 0)) trivial (x_B hP hD) dX1_asDuel_26

set_option maxHeartbeats 4000000 in
set_option maxRecDepth 100000 in
theorem ctX1_asLaw_c (l : Launch) (D : va_G) (k : Nat → ClassId) (z : Nat → Nat) (o : Nat → Nat) (clawNow : Int32) (charder : Int32) (ctold : Int32) (creply : Int32) (cwet : Int32) (f72 : Nat → Int32) (f69 : Nat → Int32) (f70 : Nat → Int32) (f71 : Nat → Int32) (glines : Int32) (ghours : Nat) (glaw : Int32) (godds : Int32) (grows : Nat) (gheads : Nat) (gsayings : Nat) (gslugs : Nat) (gacts : Nat) (f26 : Nat → Int32) (f30 : Nat → Int32) (f31 : Nat → Int32) (p0 : Int32) (hghours : ghours ≤ 16) (hgrows : grows ≤ 4) (hgheads : gheads ≤ 12) (hgsayings : gsayings ≤ 8) (hgslugs : gslugs ≤ 4) (hgacts : gacts ≤ 30) : MU l yX1_asLaw cX1_asLaw 2 none 1 D k z [.ref (o 5), .int p0] [((o 5), .inr (1, [.ref (o 3), .ref (o 4), .int clawNow, .int charder, .int ctold, .int creply, .int cwet, .ref (o 72)])), ((o 72), .inl (k 0, 17, .inl f72)), ((o 4), .inr (3, [.ref (o 69), .ref (o 70), .ref (o 71)])), ((o 69), .inl (k 0, 17, .inl f69)), ((o 70), .inl (k 0, 17, .inl f70)), ((o 71), .inl (k 0, 17, .inl f71)), ((o 3), .inr (2, [.int glines, .int (nI ghours), .int glaw, .int godds, .int (nI grows), .int (nI gheads), .int (nI gsayings), .int (nI gslugs), .int (nI gacts), .ref (o 26), .ref (o 27), .ref (o 28), .ref (o 29), .ref (o 30), .ref (o 31), .ref (o 32), .ref (o 33), .ref (o 34), .ref (o 35)])), ((o 26), .inl (k 0, 12, .inl f26)), ((o 30), .inl (k 0, 12, .inl f30)), ((o 31), .inl (k 0, 12, .inl f31))] 0 0 (Uv D (fun _ : (Nat → Int32) × (Nat → Nat) × (Nat → Nat → Int32) × (Nat → Nat → Int64) × (Nat → Int64) => True) (fun u : (Nat → Int32) × (Nat → Nat) × (Nat → Nat → Int32) × (Nat → Nat → Int64) × (Nat → Int64) => [((o 5), .inr (1, [.ref (o 3), .ref (o 4), .int (u.1 0), .int (u.1 1), .int (u.1 2), .int (u.1 3), .int (u.1 4), .ref (o 72)])), ((o 72), .inl (k 0, 17, .inl f72)), ((o 4), .inr (3, [.ref (o 69), .ref (o 70), .ref (o 71)])), ((o 69), .inl (k 0, 17, .inl f69)), ((o 70), .inl (k 0, 17, .inl f70)), ((o 71), .inl (k 0, 17, .inl f71)), ((o 3), .inr (2, [.int glines, .int (nI ghours), .int glaw, .int godds, .int (nI grows), .int (nI gheads), .int (nI gsayings), .int (nI gslugs), .int (nI gacts), .ref (o 26), .ref (o 27), .ref (o 28), .ref (o 29), .ref (o 30), .ref (o 31), .ref (o 32), .ref (o 33), .ref (o 34), .ref (o 35)])), ((o 26), .inl (k 0, 12, .inl f26)), ((o 30), .inl (k 0, 12, .inl f30)), ((o 31), .inl (k 0, 12, .inl f31))])) := by
  refine MU.of (by decide) (Nat.le_of_ble_eq_true rfl) ?_
  intro p e s m below meth c ls A args Q S hr hlk hnm hQ hK hP hD hZ hA hS hl
  have hx := S.1
  have hb := S.2.1
  have hl : lv_has ls 2 [(0, .ref (o 5)), (1, .int p0)] := hl
  refine lv_aload_n hx hb dX1_asLaw_0 rfl (lv_at hl 0 rfl) ?_
  refine x_muVv (wr := []) (As := []) S hK hP hD hZ hS hA hl mwX1_asItIs lkX1_44 (ctX1_asItIs_c l D k z o clawNow charder ctold creply cwet f72 f69 f70 f71 glines ghours glaw godds grows gheads gsayings gslugs gacts f26 f30 f31 (by omega) (by omega) (by omega) (by omega) (by omega) (by omega)) [0, 1, 2, 3, 4, 5, 6, 7, 8, 9] [] rfl rfl (by decide) (by decide) (by decide) rfl rfl rfl rfl rfl ⟨Nat.le_of_ble_eq_true rfl, Nat.le_of_ble_eq_true rfl, Nat.le_of_ble_eq_true rfl⟩ dX1_asLaw_1 ⟨Nat.le_of_ble_eq_true rfl, Nat.le_of_ble_eq_true rfl⟩ (fun u_2 H locs hr_1 hP hD hS => ?_)
  have hP : va_P D vwCl [((o 5), .inr (1, [.ref (o 3), .ref (o 4), .int (u_2.1 0), .int (u_2.1 1), .int (u_2.1 2), .int (u_2.1 3), .int (u_2.1 4), .ref (o 72)])), ((o 72), .inl (k 0, 17, .inl f72)), ((o 4), .inr (3, [.ref (o 69), .ref (o 70), .ref (o 71)])), ((o 69), .inl (k 0, 17, .inl f69)), ((o 70), .inl (k 0, 17, .inl f70)), ((o 71), .inl (k 0, 17, .inl f71)), ((o 3), .inr (2, [.int glines, .int (nI ghours), .int glaw, .int godds, .int (nI grows), .int (nI gheads), .int (nI gsayings), .int (nI gslugs), .int (nI gacts), .ref (o 26), .ref (o 27), .ref (o 28), .ref (o 29), .ref (o 30), .ref (o 31), .ref (o 32), .ref (o 33), .ref (o 34), .ref (o 35)])), ((o 26), .inl (k 0, 12, .inl f26)), ((o 30), .inl (k 0, 12, .inl f30)), ((o 31), .inl (k 0, 12, .inl f31))] H := hP.sub [0, 1, 2, 3, 4, 5, 6, 7, 8, 9] rfl
  have hD : va_D A [((o 5), .inr (1, [.ref (o 3), .ref (o 4), .int (u_2.1 0), .int (u_2.1 1), .int (u_2.1 2), .int (u_2.1 3), .int (u_2.1 4), .ref (o 72)])), ((o 72), .inl (k 0, 17, .inl f72)), ((o 4), .inr (3, [.ref (o 69), .ref (o 70), .ref (o 71)])), ((o 69), .inl (k 0, 17, .inl f69)), ((o 70), .inl (k 0, 17, .inl f70)), ((o 71), .inl (k 0, 17, .inl f71)), ((o 3), .inr (2, [.int glines, .int (nI ghours), .int glaw, .int godds, .int (nI grows), .int (nI gheads), .int (nI gsayings), .int (nI gslugs), .int (nI gacts), .ref (o 26), .ref (o 27), .ref (o 28), .ref (o 29), .ref (o 30), .ref (o 31), .ref (o 32), .ref (o 33), .ref (o 34), .ref (o 35)])), ((o 26), .inl (k 0, 12, .inl f26)), ((o 30), .inl (k 0, 12, .inl f30)), ((o 31), .inl (k 0, 12, .inl f31))] := hD.sub [0, 1, 2, 3, 4, 5, 6, 7, 8, 9] (by decide) rfl
  refine lv_aload_n hx hb dX1_asLaw_4 rfl (lv_at hl 0 rfl) ?_
  refine lv_iload_n hx hb dX1_asLaw_5 rfl (lv_at hl 1 rfl) ?_
  refine x_put (ws' := [((o 5), .inr (1, [.ref (o 3), .ref (o 4), .int p0, .int (u_2.1 1), .int (u_2.1 2), .int (u_2.1 3), .int (u_2.1 4), .ref (o 72)])), ((o 72), .inl (k 0, 17, .inl f72)), ((o 4), .inr (3, [.ref (o 69), .ref (o 70), .ref (o 71)])), ((o 69), .inl (k 0, 17, .inl f69)), ((o 70), .inl (k 0, 17, .inl f70)), ((o 71), .inl (k 0, 17, .inl f71)), ((o 3), .inr (2, [.int glines, .int (nI ghours), .int glaw, .int godds, .int (nI grows), .int (nI gheads), .int (nI gsayings), .int (nI gslugs), .int (nI gacts), .ref (o 26), .ref (o 27), .ref (o 28), .ref (o 29), .ref (o 30), .ref (o 31), .ref (o 32), .ref (o 33), .ref (o 34), .ref (o 35)])), ((o 26), .inl (k 0, 12, .inl f26)), ((o 30), .inl (k 0, 12, .inl f30)), ((o 31), .inl (k 0, 12, .inl f31))]) S hK hP hD hS 0 rfl cfX1 2 lkX1_29 (by decide) rfl rfl rfl (Nat.le_of_ble_eq_true rfl) rfl dX1_asLaw_6 (fun H locs hP hD hS => ?_)
  exact x_retv S hr hlk hQ hS ((fun i => ([p0, (u_2.1 1), (u_2.1 2), (u_2.1 3), (u_2.1 4)] : List (Int32)).getD i 0), (fun i => ([] : List (Nat)).getD i 0), (fun i => ([] : List (Nat → Int32)).getD i (fun _ => 0)), (fun i => ([] : List (Nat → Int64)).getD i (fun _ => 0)), (fun i => ([] : List (Int64)).getD i 0)) trivial (x_B hP hD) dX1_asLaw_9

set_option maxHeartbeats 4000000 in
set_option maxRecDepth 100000 in
theorem ctX1_asHarder_c (l : Launch) (D : va_G) (k : Nat → ClassId) (z : Nat → Nat) (o : Nat → Nat) (clawNow : Int32) (charder : Int32) (ctold : Int32) (creply : Int32) (cwet : Int32) (f72 : Nat → Int32) (f69 : Nat → Int32) (f70 : Nat → Int32) (f71 : Nat → Int32) (glines : Int32) (ghours : Nat) (glaw : Int32) (godds : Int32) (grows : Nat) (gheads : Nat) (gsayings : Nat) (gslugs : Nat) (gacts : Nat) (f26 : Nat → Int32) (f30 : Nat → Int32) (f31 : Nat → Int32) (p0 : Int32) (hghours : ghours ≤ 16) (hgrows : grows ≤ 4) (hgheads : gheads ≤ 12) (hgsayings : gsayings ≤ 8) (hgslugs : gslugs ≤ 4) (hgacts : gacts ≤ 30) : MU l yX1_asHarder cX1_asHarder 2 none 1 D k z [.ref (o 5), .int p0] [((o 5), .inr (1, [.ref (o 3), .ref (o 4), .int clawNow, .int charder, .int ctold, .int creply, .int cwet, .ref (o 72)])), ((o 72), .inl (k 0, 17, .inl f72)), ((o 4), .inr (3, [.ref (o 69), .ref (o 70), .ref (o 71)])), ((o 69), .inl (k 0, 17, .inl f69)), ((o 70), .inl (k 0, 17, .inl f70)), ((o 71), .inl (k 0, 17, .inl f71)), ((o 3), .inr (2, [.int glines, .int (nI ghours), .int glaw, .int godds, .int (nI grows), .int (nI gheads), .int (nI gsayings), .int (nI gslugs), .int (nI gacts), .ref (o 26), .ref (o 27), .ref (o 28), .ref (o 29), .ref (o 30), .ref (o 31), .ref (o 32), .ref (o 33), .ref (o 34), .ref (o 35)])), ((o 26), .inl (k 0, 12, .inl f26)), ((o 30), .inl (k 0, 12, .inl f30)), ((o 31), .inl (k 0, 12, .inl f31))] 0 0 (Uv D (fun _ : (Nat → Int32) × (Nat → Nat) × (Nat → Nat → Int32) × (Nat → Nat → Int64) × (Nat → Int64) => True) (fun u : (Nat → Int32) × (Nat → Nat) × (Nat → Nat → Int32) × (Nat → Nat → Int64) × (Nat → Int64) => [((o 5), .inr (1, [.ref (o 3), .ref (o 4), .int (u.1 0), .int (u.1 1), .int (u.1 2), .int (u.1 3), .int (u.1 4), .ref (o 72)])), ((o 72), .inl (k 0, 17, .inl f72)), ((o 4), .inr (3, [.ref (o 69), .ref (o 70), .ref (o 71)])), ((o 69), .inl (k 0, 17, .inl f69)), ((o 70), .inl (k 0, 17, .inl f70)), ((o 71), .inl (k 0, 17, .inl f71)), ((o 3), .inr (2, [.int glines, .int (nI ghours), .int glaw, .int godds, .int (nI grows), .int (nI gheads), .int (nI gsayings), .int (nI gslugs), .int (nI gacts), .ref (o 26), .ref (o 27), .ref (o 28), .ref (o 29), .ref (o 30), .ref (o 31), .ref (o 32), .ref (o 33), .ref (o 34), .ref (o 35)])), ((o 26), .inl (k 0, 12, .inl f26)), ((o 30), .inl (k 0, 12, .inl f30)), ((o 31), .inl (k 0, 12, .inl f31))])) := by
  refine MU.of (by decide) (Nat.le_of_ble_eq_true rfl) ?_
  intro p e s m below meth c ls A args Q S hr hlk hnm hQ hK hP hD hZ hA hS hl
  have hx := S.1
  have hb := S.2.1
  have hl : lv_has ls 2 [(0, .ref (o 5)), (1, .int p0)] := hl
  refine lv_aload_n hx hb dX1_asHarder_0 rfl (lv_at hl 0 rfl) ?_
  refine x_muVv (wr := []) (As := []) S hK hP hD hZ hS hA hl mwX1_asItIs lkX1_44 (ctX1_asItIs_c l D k z o clawNow charder ctold creply cwet f72 f69 f70 f71 glines ghours glaw godds grows gheads gsayings gslugs gacts f26 f30 f31 (by omega) (by omega) (by omega) (by omega) (by omega) (by omega)) [0, 1, 2, 3, 4, 5, 6, 7, 8, 9] [] rfl rfl (by decide) (by decide) (by decide) rfl rfl rfl rfl rfl ⟨Nat.le_of_ble_eq_true rfl, Nat.le_of_ble_eq_true rfl, Nat.le_of_ble_eq_true rfl⟩ dX1_asHarder_1 ⟨Nat.le_of_ble_eq_true rfl, Nat.le_of_ble_eq_true rfl⟩ (fun u_2 H locs hr_1 hP hD hS => ?_)
  have hP : va_P D vwCl [((o 5), .inr (1, [.ref (o 3), .ref (o 4), .int (u_2.1 0), .int (u_2.1 1), .int (u_2.1 2), .int (u_2.1 3), .int (u_2.1 4), .ref (o 72)])), ((o 72), .inl (k 0, 17, .inl f72)), ((o 4), .inr (3, [.ref (o 69), .ref (o 70), .ref (o 71)])), ((o 69), .inl (k 0, 17, .inl f69)), ((o 70), .inl (k 0, 17, .inl f70)), ((o 71), .inl (k 0, 17, .inl f71)), ((o 3), .inr (2, [.int glines, .int (nI ghours), .int glaw, .int godds, .int (nI grows), .int (nI gheads), .int (nI gsayings), .int (nI gslugs), .int (nI gacts), .ref (o 26), .ref (o 27), .ref (o 28), .ref (o 29), .ref (o 30), .ref (o 31), .ref (o 32), .ref (o 33), .ref (o 34), .ref (o 35)])), ((o 26), .inl (k 0, 12, .inl f26)), ((o 30), .inl (k 0, 12, .inl f30)), ((o 31), .inl (k 0, 12, .inl f31))] H := hP.sub [0, 1, 2, 3, 4, 5, 6, 7, 8, 9] rfl
  have hD : va_D A [((o 5), .inr (1, [.ref (o 3), .ref (o 4), .int (u_2.1 0), .int (u_2.1 1), .int (u_2.1 2), .int (u_2.1 3), .int (u_2.1 4), .ref (o 72)])), ((o 72), .inl (k 0, 17, .inl f72)), ((o 4), .inr (3, [.ref (o 69), .ref (o 70), .ref (o 71)])), ((o 69), .inl (k 0, 17, .inl f69)), ((o 70), .inl (k 0, 17, .inl f70)), ((o 71), .inl (k 0, 17, .inl f71)), ((o 3), .inr (2, [.int glines, .int (nI ghours), .int glaw, .int godds, .int (nI grows), .int (nI gheads), .int (nI gsayings), .int (nI gslugs), .int (nI gacts), .ref (o 26), .ref (o 27), .ref (o 28), .ref (o 29), .ref (o 30), .ref (o 31), .ref (o 32), .ref (o 33), .ref (o 34), .ref (o 35)])), ((o 26), .inl (k 0, 12, .inl f26)), ((o 30), .inl (k 0, 12, .inl f30)), ((o 31), .inl (k 0, 12, .inl f31))] := hD.sub [0, 1, 2, 3, 4, 5, 6, 7, 8, 9] (by decide) rfl
  refine lv_aload_n hx hb dX1_asHarder_4 rfl (lv_at hl 0 rfl) ?_
  refine lv_iload_n hx hb dX1_asHarder_5 rfl (lv_at hl 1 rfl) ?_
  refine x_put (ws' := [((o 5), .inr (1, [.ref (o 3), .ref (o 4), .int (u_2.1 0), .int p0, .int (u_2.1 2), .int (u_2.1 3), .int (u_2.1 4), .ref (o 72)])), ((o 72), .inl (k 0, 17, .inl f72)), ((o 4), .inr (3, [.ref (o 69), .ref (o 70), .ref (o 71)])), ((o 69), .inl (k 0, 17, .inl f69)), ((o 70), .inl (k 0, 17, .inl f70)), ((o 71), .inl (k 0, 17, .inl f71)), ((o 3), .inr (2, [.int glines, .int (nI ghours), .int glaw, .int godds, .int (nI grows), .int (nI gheads), .int (nI gsayings), .int (nI gslugs), .int (nI gacts), .ref (o 26), .ref (o 27), .ref (o 28), .ref (o 29), .ref (o 30), .ref (o 31), .ref (o 32), .ref (o 33), .ref (o 34), .ref (o 35)])), ((o 26), .inl (k 0, 12, .inl f26)), ((o 30), .inl (k 0, 12, .inl f30)), ((o 31), .inl (k 0, 12, .inl f31))]) S hK hP hD hS 0 rfl cfX1 3 lkX1_32 (by decide) rfl rfl rfl (Nat.le_of_ble_eq_true rfl) rfl dX1_asHarder_6 (fun H locs hP hD hS => ?_)
  exact x_retv S hr hlk hQ hS ((fun i => ([(u_2.1 0), p0, (u_2.1 2), (u_2.1 3), (u_2.1 4)] : List (Int32)).getD i 0), (fun i => ([] : List (Nat)).getD i 0), (fun i => ([] : List (Nat → Int32)).getD i (fun _ => 0)), (fun i => ([] : List (Nat → Int64)).getD i (fun _ => 0)), (fun i => ([] : List (Int64)).getD i 0)) trivial (x_B hP hD) dX1_asHarder_9

set_option maxHeartbeats 4000000 in
set_option maxRecDepth 100000 in
theorem ctX1_asWet_c (l : Launch) (D : va_G) (k : Nat → ClassId) (z : Nat → Nat) (o : Nat → Nat) (clawNow : Int32) (charder : Int32) (ctold : Int32) (creply : Int32) (cwet : Int32) (f72 : Nat → Int32) (f69 : Nat → Int32) (f70 : Nat → Int32) (f71 : Nat → Int32) (glines : Int32) (ghours : Nat) (glaw : Int32) (godds : Int32) (grows : Nat) (gheads : Nat) (gsayings : Nat) (gslugs : Nat) (gacts : Nat) (f26 : Nat → Int32) (f30 : Nat → Int32) (f31 : Nat → Int32) (p0 : Int32) (hghours : ghours ≤ 16) (hgrows : grows ≤ 4) (hgheads : gheads ≤ 12) (hgsayings : gsayings ≤ 8) (hgslugs : gslugs ≤ 4) (hgacts : gacts ≤ 30) : MU l yX1_asWet cX1_asWet 2 none 1 D k z [.ref (o 5), .int p0] [((o 5), .inr (1, [.ref (o 3), .ref (o 4), .int clawNow, .int charder, .int ctold, .int creply, .int cwet, .ref (o 72)])), ((o 72), .inl (k 0, 17, .inl f72)), ((o 4), .inr (3, [.ref (o 69), .ref (o 70), .ref (o 71)])), ((o 69), .inl (k 0, 17, .inl f69)), ((o 70), .inl (k 0, 17, .inl f70)), ((o 71), .inl (k 0, 17, .inl f71)), ((o 3), .inr (2, [.int glines, .int (nI ghours), .int glaw, .int godds, .int (nI grows), .int (nI gheads), .int (nI gsayings), .int (nI gslugs), .int (nI gacts), .ref (o 26), .ref (o 27), .ref (o 28), .ref (o 29), .ref (o 30), .ref (o 31), .ref (o 32), .ref (o 33), .ref (o 34), .ref (o 35)])), ((o 26), .inl (k 0, 12, .inl f26)), ((o 30), .inl (k 0, 12, .inl f30)), ((o 31), .inl (k 0, 12, .inl f31))] 0 0 (Uv D (fun _ : (Nat → Int32) × (Nat → Nat) × (Nat → Nat → Int32) × (Nat → Nat → Int64) × (Nat → Int64) => True) (fun u : (Nat → Int32) × (Nat → Nat) × (Nat → Nat → Int32) × (Nat → Nat → Int64) × (Nat → Int64) => [((o 5), .inr (1, [.ref (o 3), .ref (o 4), .int (u.1 0), .int (u.1 1), .int (u.1 2), .int (u.1 3), .int (u.1 4), .ref (o 72)])), ((o 72), .inl (k 0, 17, .inl f72)), ((o 4), .inr (3, [.ref (o 69), .ref (o 70), .ref (o 71)])), ((o 69), .inl (k 0, 17, .inl f69)), ((o 70), .inl (k 0, 17, .inl f70)), ((o 71), .inl (k 0, 17, .inl f71)), ((o 3), .inr (2, [.int glines, .int (nI ghours), .int glaw, .int godds, .int (nI grows), .int (nI gheads), .int (nI gsayings), .int (nI gslugs), .int (nI gacts), .ref (o 26), .ref (o 27), .ref (o 28), .ref (o 29), .ref (o 30), .ref (o 31), .ref (o 32), .ref (o 33), .ref (o 34), .ref (o 35)])), ((o 26), .inl (k 0, 12, .inl f26)), ((o 30), .inl (k 0, 12, .inl f30)), ((o 31), .inl (k 0, 12, .inl f31))])) := by
  refine MU.of (by decide) (Nat.le_of_ble_eq_true rfl) ?_
  intro p e s m below meth c ls A args Q S hr hlk hnm hQ hK hP hD hZ hA hS hl
  have hx := S.1
  have hb := S.2.1
  have hl : lv_has ls 2 [(0, .ref (o 5)), (1, .int p0)] := hl
  refine lv_aload_n hx hb dX1_asWet_0 rfl (lv_at hl 0 rfl) ?_
  refine x_muVv (wr := []) (As := []) S hK hP hD hZ hS hA hl mwX1_asItIs lkX1_44 (ctX1_asItIs_c l D k z o clawNow charder ctold creply cwet f72 f69 f70 f71 glines ghours glaw godds grows gheads gsayings gslugs gacts f26 f30 f31 (by omega) (by omega) (by omega) (by omega) (by omega) (by omega)) [0, 1, 2, 3, 4, 5, 6, 7, 8, 9] [] rfl rfl (by decide) (by decide) (by decide) rfl rfl rfl rfl rfl ⟨Nat.le_of_ble_eq_true rfl, Nat.le_of_ble_eq_true rfl, Nat.le_of_ble_eq_true rfl⟩ dX1_asWet_1 ⟨Nat.le_of_ble_eq_true rfl, Nat.le_of_ble_eq_true rfl⟩ (fun u_2 H locs hr_1 hP hD hS => ?_)
  have hP : va_P D vwCl [((o 5), .inr (1, [.ref (o 3), .ref (o 4), .int (u_2.1 0), .int (u_2.1 1), .int (u_2.1 2), .int (u_2.1 3), .int (u_2.1 4), .ref (o 72)])), ((o 72), .inl (k 0, 17, .inl f72)), ((o 4), .inr (3, [.ref (o 69), .ref (o 70), .ref (o 71)])), ((o 69), .inl (k 0, 17, .inl f69)), ((o 70), .inl (k 0, 17, .inl f70)), ((o 71), .inl (k 0, 17, .inl f71)), ((o 3), .inr (2, [.int glines, .int (nI ghours), .int glaw, .int godds, .int (nI grows), .int (nI gheads), .int (nI gsayings), .int (nI gslugs), .int (nI gacts), .ref (o 26), .ref (o 27), .ref (o 28), .ref (o 29), .ref (o 30), .ref (o 31), .ref (o 32), .ref (o 33), .ref (o 34), .ref (o 35)])), ((o 26), .inl (k 0, 12, .inl f26)), ((o 30), .inl (k 0, 12, .inl f30)), ((o 31), .inl (k 0, 12, .inl f31))] H := hP.sub [0, 1, 2, 3, 4, 5, 6, 7, 8, 9] rfl
  have hD : va_D A [((o 5), .inr (1, [.ref (o 3), .ref (o 4), .int (u_2.1 0), .int (u_2.1 1), .int (u_2.1 2), .int (u_2.1 3), .int (u_2.1 4), .ref (o 72)])), ((o 72), .inl (k 0, 17, .inl f72)), ((o 4), .inr (3, [.ref (o 69), .ref (o 70), .ref (o 71)])), ((o 69), .inl (k 0, 17, .inl f69)), ((o 70), .inl (k 0, 17, .inl f70)), ((o 71), .inl (k 0, 17, .inl f71)), ((o 3), .inr (2, [.int glines, .int (nI ghours), .int glaw, .int godds, .int (nI grows), .int (nI gheads), .int (nI gsayings), .int (nI gslugs), .int (nI gacts), .ref (o 26), .ref (o 27), .ref (o 28), .ref (o 29), .ref (o 30), .ref (o 31), .ref (o 32), .ref (o 33), .ref (o 34), .ref (o 35)])), ((o 26), .inl (k 0, 12, .inl f26)), ((o 30), .inl (k 0, 12, .inl f30)), ((o 31), .inl (k 0, 12, .inl f31))] := hD.sub [0, 1, 2, 3, 4, 5, 6, 7, 8, 9] (by decide) rfl
  refine lv_aload_n hx hb dX1_asWet_4 rfl (lv_at hl 0 rfl) ?_
  refine lv_iload_n hx hb dX1_asWet_5 rfl (lv_at hl 1 rfl) ?_
  refine x_put (ws' := [((o 5), .inr (1, [.ref (o 3), .ref (o 4), .int (u_2.1 0), .int (u_2.1 1), .int (u_2.1 2), .int (u_2.1 3), .int p0, .ref (o 72)])), ((o 72), .inl (k 0, 17, .inl f72)), ((o 4), .inr (3, [.ref (o 69), .ref (o 70), .ref (o 71)])), ((o 69), .inl (k 0, 17, .inl f69)), ((o 70), .inl (k 0, 17, .inl f70)), ((o 71), .inl (k 0, 17, .inl f71)), ((o 3), .inr (2, [.int glines, .int (nI ghours), .int glaw, .int godds, .int (nI grows), .int (nI gheads), .int (nI gsayings), .int (nI gslugs), .int (nI gacts), .ref (o 26), .ref (o 27), .ref (o 28), .ref (o 29), .ref (o 30), .ref (o 31), .ref (o 32), .ref (o 33), .ref (o 34), .ref (o 35)])), ((o 26), .inl (k 0, 12, .inl f26)), ((o 30), .inl (k 0, 12, .inl f30)), ((o 31), .inl (k 0, 12, .inl f31))]) S hK hP hD hS 0 rfl cfX1 6 lkX1_41 (by decide) rfl rfl rfl (Nat.le_of_ble_eq_true rfl) rfl dX1_asWet_6 (fun H locs hP hD hS => ?_)
  exact x_retv S hr hlk hQ hS ((fun i => ([(u_2.1 0), (u_2.1 1), (u_2.1 2), (u_2.1 3), p0] : List (Int32)).getD i 0), (fun i => ([] : List (Nat)).getD i 0), (fun i => ([] : List (Nat → Int32)).getD i (fun _ => 0)), (fun i => ([] : List (Nat → Int64)).getD i (fun _ => 0)), (fun i => ([] : List (Int64)).getD i 0)) trivial (x_B hP hD) dX1_asWet_9

set_option maxHeartbeats 4000000 in
set_option maxRecDepth 100000 in
theorem ctX1_arrive_c (l : Launch) (D : va_G) (k : Nat → ClassId) (z : Nat → Nat) (o : Nat → Nat) (clawNow : Int32) (charder : Int32) (ctold : Int32) (creply : Int32) (cwet : Int32) (f72 : Nat → Int32) (f69 : Nat → Int32) (f70 : Nat → Int32) (f71 : Nat → Int32) (glines : Int32) (ghours : Nat) (glaw : Int32) (godds : Int32) (grows : Nat) (gheads : Nat) (gsayings : Nat) (gslugs : Nat) (gacts : Nat) (f26 : Nat → Int32) (f30 : Nat → Int32) (f31 : Nat → Int32) (p0 : Nat) (p1 : Int32) (hghours : ghours ≤ 16) (hgrows : grows ≤ 4) (hgheads : gheads ≤ 12) (hgsayings : gsayings ≤ 8) (hgslugs : gslugs ≤ 4) (hgacts : gacts ≤ 30) (hp0 : p0 ≤ 16) : RO l yX1_arrive cX1_arrive 3 (some .int) 1 D k z [.ref (o 5), .int (nI p0), .int p1] [((o 5), .inr (1, [.ref (o 3), .ref (o 4), .int clawNow, .int charder, .int ctold, .int creply, .int cwet, .ref (o 72)])), ((o 72), .inl (k 0, 17, .inl f72)), ((o 4), .inr (3, [.ref (o 69), .ref (o 70), .ref (o 71)])), ((o 69), .inl (k 0, 17, .inl f69)), ((o 70), .inl (k 0, 17, .inl f70)), ((o 71), .inl (k 0, 17, .inl f71)), ((o 3), .inr (2, [.int glines, .int (nI ghours), .int glaw, .int godds, .int (nI grows), .int (nI gheads), .int (nI gsayings), .int (nI gslugs), .int (nI gacts), .ref (o 26), .ref (o 27), .ref (o 28), .ref (o 29), .ref (o 30), .ref (o 31), .ref (o 32), .ref (o 33), .ref (o 34), .ref (o 35)])), ((o 26), .inl (k 0, 12, .inl f26)), ((o 30), .inl (k 0, 12, .inl f30)), ((o 31), .inl (k 0, 12, .inl f31))] (Qi (fun r : Int32 => True)) := by
  refine RO.of (by decide) (Nat.le_of_ble_eq_true rfl) ?_
  intro p e s m below meth c ls A B args Q S hr hlk hQ hK hP hDW hZ hAB hBA hA hS hl
  have hx := S.1
  have hb := S.2.1
  have hl : lv_has ls 3 [(0, .ref (o 5)), (1, .int (nI p0)), (2, .int p1)] := hl
  refine lv_iload_n hx hb dX1_arrive_0 rfl (lv_at hl 2 rfl) ?_
  refine lv_aload_n hx hb dX1_arrive_1 rfl (lv_at hl 0 rfl) ?_
  refine x_get S hK hP 0 rfl cfX1 1 lkX1_19 (by decide) rfl dX1_arrive_2 ?_
  refine x_get S hK hP 2 rfl cfX3 0 lkX1_51 (by decide) rfl dX1_arrive_5 ?_
  refine lv_iload_n hx hb dX1_arrive_8 rfl (lv_at hl 1 rfl) ?_
  refine x_iald S hK hP 3 rfl (vp_in_nI (by omega) (by decide)) dX1_arrive_9 ?_
  refine lv_topi (fun v_1 ev_1 => ?_)
  refine x_roSNi (As := [.int p1, .int v_1]) S hK hP hDW hZ hAB hBA hS hA hl mwX10_heard lkX1_56 (ctX10_heard l D k z p1 v_1 ) [] rfl (by decide) rfl rfl ⟨Nat.le_of_ble_eq_true rfl, Nat.le_of_ble_eq_true rfl, Nat.le_of_ble_eq_true rfl⟩ dX1_arrive_10 ⟨Nat.le_of_ble_eq_true rfl, Nat.le_of_ble_eq_true rfl⟩ (fun r_2 H locs hr_2 hP hS => ?_)
  refine lv_aload_n hx hb dX1_arrive_13 rfl (lv_at hl 0 rfl) ?_
  refine x_get S hK hP 0 rfl cfX1 1 lkX1_19 (by decide) rfl dX1_arrive_14 ?_
  refine x_get S hK hP 2 rfl cfX3 1 lkX1_59 (by decide) rfl dX1_arrive_17 ?_
  refine lv_iload_n hx hb dX1_arrive_20 rfl (lv_at hl 1 rfl) ?_
  refine x_iald S hK hP 4 rfl (vp_in_nI (by omega) (by decide)) dX1_arrive_21 ?_
  refine lv_topi (fun v_4 ev_4 => ?_)
  refine x_roSNi (As := [.int v_4]) S hK hP hDW hZ hAB hBA hS hA hl mwX10_inBoth lkX1_62 (ctX10_inBoth l D k z v_4 ) [] rfl (by decide) rfl rfl ⟨Nat.le_of_ble_eq_true rfl, Nat.le_of_ble_eq_true rfl, Nat.le_of_ble_eq_true rfl⟩ dX1_arrive_22 ⟨Nat.le_of_ble_eq_true rfl, Nat.le_of_ble_eq_true rfl⟩ (fun r_5 H locs hr_5 hP hS => ?_)
  refine lv_iconst (v := (-1)) hx hb dX1_arrive_25 (by decide) ?_
  refine lv_ixor hx hb dX1_arrive_26 ?_
  refine lv_topi (fun v_7 ev_7 => ?_)
  refine lv_iand hx hb dX1_arrive_27 ?_
  refine lv_topi (fun v_8 ev_8 => ?_)
  exact x_reti S hr hlk hQ hS () trivial x_T dX1_arrive_28

set_option maxHeartbeats 4000000 in
set_option maxRecDepth 100000 in
theorem ctX1_takersAt_c (l : Launch) (D : va_G) (k : Nat → ClassId) (z : Nat → Nat) (o : Nat → Nat) (clawNow : Int32) (charder : Int32) (ctold : Int32) (creply : Int32) (cwet : Int32) (f72 : Nat → Int32) (f69 : Nat → Int32) (f70 : Nat → Int32) (f71 : Nat → Int32) (glines : Int32) (ghours : Nat) (glaw : Int32) (godds : Int32) (grows : Nat) (gheads : Nat) (gsayings : Nat) (gslugs : Nat) (gacts : Nat) (f26 : Nat → Int32) (f30 : Nat → Int32) (f31 : Nat → Int32) (p0 : Nat) (hghours : ghours ≤ 16) (hgrows : grows ≤ 4) (hgheads : gheads ≤ 12) (hgsayings : gsayings ≤ 8) (hgslugs : gslugs ≤ 4) (hgacts : gacts ≤ 30) (hp0 : p0 ≤ 16) : RO l yX1_takersAt cX1_takersAt 2 (some .int) 0 D k z [.ref (o 5), .int (nI p0)] [((o 5), .inr (1, [.ref (o 3), .ref (o 4), .int clawNow, .int charder, .int ctold, .int creply, .int cwet, .ref (o 72)])), ((o 72), .inl (k 0, 17, .inl f72)), ((o 4), .inr (3, [.ref (o 69), .ref (o 70), .ref (o 71)])), ((o 69), .inl (k 0, 17, .inl f69)), ((o 70), .inl (k 0, 17, .inl f70)), ((o 71), .inl (k 0, 17, .inl f71)), ((o 3), .inr (2, [.int glines, .int (nI ghours), .int glaw, .int godds, .int (nI grows), .int (nI gheads), .int (nI gsayings), .int (nI gslugs), .int (nI gacts), .ref (o 26), .ref (o 27), .ref (o 28), .ref (o 29), .ref (o 30), .ref (o 31), .ref (o 32), .ref (o 33), .ref (o 34), .ref (o 35)])), ((o 26), .inl (k 0, 12, .inl f26)), ((o 30), .inl (k 0, 12, .inl f30)), ((o 31), .inl (k 0, 12, .inl f31))] (Qi (fun r : Int32 => True)) := by
  refine RO.of (by decide) (Nat.le_of_ble_eq_true rfl) ?_
  intro p e s m below meth c ls A B args Q S hr hlk hQ hK hP hDW hZ hAB hBA hA hS hl
  have hx := S.1
  have hb := S.2.1
  have hl : lv_has ls 2 [(0, .ref (o 5)), (1, .int (nI p0))] := hl
  refine lv_aload_n hx hb dX1_takersAt_0 rfl (lv_at hl 0 rfl) ?_
  refine x_get S hK hP 0 rfl cfX1 1 lkX1_19 (by decide) rfl dX1_takersAt_1 ?_
  refine x_get S hK hP 2 rfl cfX3 2 lkX1_78 (by decide) rfl dX1_takersAt_4 ?_
  refine lv_iload_n hx hb dX1_takersAt_7 rfl (lv_at hl 1 rfl) ?_
  refine x_iald S hK hP 5 rfl (vp_in_nI (by omega) (by decide)) dX1_takersAt_8 ?_
  refine lv_topi (fun v_1 ev_1 => ?_)
  refine lv_aload_n hx hb dX1_takersAt_9 rfl (lv_at hl 0 rfl) ?_
  refine x_get S hK hP 0 rfl cfX1 1 lkX1_19 (by decide) rfl dX1_takersAt_10 ?_
  refine x_get S hK hP 2 rfl cfX3 1 lkX1_59 (by decide) rfl dX1_takersAt_13 ?_
  refine lv_iload_n hx hb dX1_takersAt_16 rfl (lv_at hl 1 rfl) ?_
  refine x_iald S hK hP 4 rfl (vp_in_nI (by omega) (by decide)) dX1_takersAt_17 ?_
  refine lv_topi (fun v_2 ev_2 => ?_)
  refine lv_iconst (v := (-1)) hx hb dX1_takersAt_18 (by decide) ?_
  refine lv_ixor hx hb dX1_takersAt_19 ?_
  refine lv_topi (fun v_3 ev_3 => ?_)
  refine lv_iand hx hb dX1_takersAt_20 ?_
  refine lv_topi (fun v_4 ev_4 => ?_)
  exact x_reti S hr hlk hQ hS () trivial x_T dX1_takersAt_21

set_option maxHeartbeats 4000000 in
set_option maxRecDepth 100000 in
theorem ctX1_lean_c (l : Launch) (D : va_G) (k : Nat → ClassId) (z : Nat → Nat) (o : Nat → Nat) (clawNow : Int32) (charder : Int32) (ctold : Int32) (creply : Int32) (cwet : Int32) (f72 : Nat → Int32) (f69 : Nat → Int32) (f70 : Nat → Int32) (f71 : Nat → Int32) (glines : Int32) (ghours : Nat) (glaw : Int32) (godds : Int32) (grows : Nat) (gheads : Nat) (gsayings : Nat) (gslugs : Nat) (gacts : Nat) (f26 : Nat → Int32) (f30 : Nat → Int32) (f31 : Nat → Int32) (p0 : Nat) (p1 : Int32) (hghours : ghours ≤ 16) (hgrows : grows ≤ 4) (hgheads : gheads ≤ 12) (hgsayings : gsayings ≤ 8) (hgslugs : gslugs ≤ 4) (hgacts : gacts ≤ 30) (hp0 : p0 ≤ 11) : RO l yX1_lean cX1_lean 7 (some .int) 1 D k z [.ref (o 5), .int (nI p0), .int p1] [((o 5), .inr (1, [.ref (o 3), .ref (o 4), .int clawNow, .int charder, .int ctold, .int creply, .int cwet, .ref (o 72)])), ((o 72), .inl (k 0, 17, .inl f72)), ((o 4), .inr (3, [.ref (o 69), .ref (o 70), .ref (o 71)])), ((o 69), .inl (k 0, 17, .inl f69)), ((o 70), .inl (k 0, 17, .inl f70)), ((o 71), .inl (k 0, 17, .inl f71)), ((o 3), .inr (2, [.int glines, .int (nI ghours), .int glaw, .int godds, .int (nI grows), .int (nI gheads), .int (nI gsayings), .int (nI gslugs), .int (nI gacts), .ref (o 26), .ref (o 27), .ref (o 28), .ref (o 29), .ref (o 30), .ref (o 31), .ref (o 32), .ref (o 33), .ref (o 34), .ref (o 35)])), ((o 26), .inl (k 0, 12, .inl f26)), ((o 30), .inl (k 0, 12, .inl f30)), ((o 31), .inl (k 0, 12, .inl f31))] (Qi (fun r : Int32 => True)) := by
  refine RO.of (by decide) (Nat.le_of_ble_eq_true rfl) ?_
  intro p e s m below meth c ls A B args Q S hr hlk hQ hK hP hDW hZ hAB hBA hA hS hl
  have hx := S.1
  have hb := S.2.1
  have hl : lv_has ls 7 [(0, .ref (o 5)), (1, .int (nI p0)), (2, .int p1)] := hl
  refine lv_aload_n hx hb dX1_lean_0 rfl (lv_at hl 0 rfl) ?_
  refine x_get S hK hP 0 rfl cfX1 0 lkX1_15 (by decide) rfl dX1_lean_1 ?_
  refine x_get S hK hP 6 rfl cfX2 13 lkX1_84 (by decide) rfl dX1_lean_4 ?_
  refine lv_iload_n hx hb dX1_lean_7 rfl (lv_at hl 1 rfl) ?_
  refine x_iald S hK hP 8 rfl (vp_in_nI (by omega) (by decide)) dX1_lean_8 ?_
  refine lv_topi (fun v_1 ev_1 => ?_)
  refine lv_istore_n (lv' := [(3, .int v_1), (0, .ref (o 5)), (1, .int (nI p0)), (2, .int p1)]) hx hb dX1_lean_9 rfl hl (by decide) rfl (fun ls hl => ?_)
  refine lv_aload_n hx hb dX1_lean_10 rfl (lv_at hl 1 rfl) ?_
  refine x_get S hK hP 0 rfl cfX1 2 lkX1_29 (by decide) rfl dX1_lean_11 ?_
  refine lv_iconst (v := 3) hx hb dX1_lean_14 (by decide) ?_
  refine lv_icmp_ne (tgt := 26) hx hb dX1_lean_15 (by decide) (fun c_2 => ?_) (fun c_2 => ?_)
  · skip
    refine lv_iload_n hx hb dX1_lean_26 rfl (lv_at hl 0 rfl) ?_
    refine lv_istore (lv' := [(4, .int v_1), (3, .int v_1), (0, .ref (o 5)), (1, .int (nI p0)), (2, .int p1)]) hx hb dX1_lean_27 hl (by decide) rfl (fun ls hl => ?_)
    refine lv_iload_n hx hb dX1_lean_29 rfl (lv_at hl 4 rfl) ?_
    refine lv_iload hx hb dX1_lean_30 (lv_at hl 0 rfl) ?_
    refine lv_iand hx hb dX1_lean_32 ?_
    refine lv_topi (fun v_3 ev_3 => ?_)
    refine x_roSi (As := [.int v_3]) S hK hP hDW hZ hAB hBA hS hA hl mwJ6_bitCount_0f7a4 lkX1_98 (ctJ6_bitCount_0f7a4 l D k z v_3 ) [] rfl (by decide) rfl rfl ⟨Nat.le_of_ble_eq_true rfl, Nat.le_of_ble_eq_true rfl, Nat.le_of_ble_eq_true rfl⟩ dX1_lean_33 ⟨Nat.le_of_ble_eq_true rfl, Nat.le_of_ble_eq_true rfl⟩ (fun r_4 H locs hr_4 hP hS => ?_)
    obtain ⟨n_6, rfl, hn_6⟩ := hr_4
    refine lv_iload_n hx hb dX1_lean_36 rfl (lv_at hl 4 rfl) ?_
    refine lv_iload hx hb dX1_lean_37 (lv_at hl 0 rfl) ?_
    refine lv_bipush (v := 16) hx hb dX1_lean_39 (by decide) ?_
    refine lv_ishl hx hb dX1_lean_41 ?_
    refine lv_topi (fun v_7 ev_7 => ?_)
    refine lv_iand hx hb dX1_lean_42 ?_
    refine lv_topi (fun v_8 ev_8 => ?_)
    refine x_roSi (As := [.int v_8]) S hK hP hDW hZ hAB hBA hS hA hl mwJ6_bitCount_0f7a4 lkX1_98 (ctJ6_bitCount_0f7a4 l D k z v_8 ) [] rfl (by decide) rfl rfl ⟨Nat.le_of_ble_eq_true rfl, Nat.le_of_ble_eq_true rfl, Nat.le_of_ble_eq_true rfl⟩ dX1_lean_43 ⟨Nat.le_of_ble_eq_true rfl, Nat.le_of_ble_eq_true rfl⟩ (fun r_9 H locs hr_9 hP hS => ?_)
    obtain ⟨n_11, rfl, hn_11⟩ := hr_9
    refine lv_isub hx hb dX1_lean_46 ?_
    refine lv_topi (fun v_12 ev_12 => ?_)
    refine lv_istore (lv' := [(5, .int v_12), (4, .int v_1), (3, .int v_1), (0, .ref (o 5)), (1, .int (nI p0)), (2, .int p1)]) hx hb dX1_lean_47 hl (by decide) rfl (fun ls hl => ?_)
    refine lv_aload_n hx hb dX1_lean_49 rfl (lv_at hl 3 rfl) ?_
    refine x_get S hK hP 0 rfl cfX1 2 lkX1_29 (by decide) rfl dX1_lean_50 ?_
    refine lv_iconst (v := 1) hx hb dX1_lean_53 (by decide) ?_
    refine lv_icmp_ne (tgt := 91) hx hb dX1_lean_54 (by decide) (fun c_13 => ?_) (fun c_13 => ?_)
    · skip
      refine lv_iload hx hb dX1_lean_91 (lv_at hl 0 rfl) ?_
      exact x_reti S hr hlk hQ hS () trivial x_T dX1_lean_93
    · skip
      refine lv_aload_n hx hb dX1_lean_57 rfl (lv_at hl 3 rfl) ?_
      refine x_get S hK hP 0 rfl cfX1 0 lkX1_15 (by decide) rfl dX1_lean_58 ?_
      refine x_get S hK hP 6 rfl cfX2 14 lkX1_103 (by decide) rfl dX1_lean_61 ?_
      refine lv_iload_n hx hb dX1_lean_64 rfl (lv_at hl 4 rfl) ?_
      refine x_iald S hK hP 9 rfl (vp_in_nI (by omega) (by decide)) dX1_lean_65 ?_
      refine lv_topi (fun v_14 ev_14 => ?_)
      refine lv_istore (lv' := [(6, .int v_14), (5, .int v_12), (4, .int v_1), (3, .int v_1), (0, .ref (o 5)), (1, .int (nI p0)), (2, .int p1)]) hx hb dX1_lean_66 hl (by decide) rfl (fun ls hl => ?_)
      refine lv_iload hx hb dX1_lean_68 (lv_at hl 1 rfl) ?_
      refine lv_iload_n hx hb dX1_lean_70 rfl (lv_at hl 6 rfl) ?_
      refine lv_iload hx hb dX1_lean_71 (lv_at hl 0 rfl) ?_
      refine lv_iand hx hb dX1_lean_73 ?_
      refine lv_topi (fun v_15 ev_15 => ?_)
      refine x_roSi (As := [.int v_15]) S hK hP hDW hZ hAB hBA hS hA hl mwJ6_bitCount_0f7a4 lkX1_98 (ctJ6_bitCount_0f7a4 l D k z v_15 ) [] rfl (by decide) rfl rfl ⟨Nat.le_of_ble_eq_true rfl, Nat.le_of_ble_eq_true rfl, Nat.le_of_ble_eq_true rfl⟩ dX1_lean_74 ⟨Nat.le_of_ble_eq_true rfl, Nat.le_of_ble_eq_true rfl⟩ (fun r_16 H locs hr_16 hP hS => ?_)
      obtain ⟨n_18, rfl, hn_18⟩ := hr_16
      refine lv_iload_n hx hb dX1_lean_77 rfl (lv_at hl 6 rfl) ?_
      refine lv_iload hx hb dX1_lean_78 (lv_at hl 0 rfl) ?_
      refine lv_bipush (v := 16) hx hb dX1_lean_80 (by decide) ?_
      refine lv_ishl hx hb dX1_lean_82 ?_
      refine lv_topi (fun v_19 ev_19 => ?_)
      refine lv_iand hx hb dX1_lean_83 ?_
      refine lv_topi (fun v_20 ev_20 => ?_)
      refine x_roSi (As := [.int v_20]) S hK hP hDW hZ hAB hBA hS hA hl mwJ6_bitCount_0f7a4 lkX1_98 (ctJ6_bitCount_0f7a4 l D k z v_20 ) [] rfl (by decide) rfl rfl ⟨Nat.le_of_ble_eq_true rfl, Nat.le_of_ble_eq_true rfl, Nat.le_of_ble_eq_true rfl⟩ dX1_lean_84 ⟨Nat.le_of_ble_eq_true rfl, Nat.le_of_ble_eq_true rfl⟩ (fun r_21 H locs hr_21 hP hS => ?_)
      obtain ⟨n_23, rfl, hn_23⟩ := hr_21
      refine lv_isub hx hb dX1_lean_87 ?_
      refine lv_topi (fun v_24 ev_24 => ?_)
      refine lv_iadd hx hb dX1_lean_88 ?_
      refine lv_topi (fun v_25 ev_25 => ?_)
      refine lv_istore (lv' := [(5, .int v_25), (6, .int v_14), (4, .int v_1), (3, .int v_1), (0, .ref (o 5)), (1, .int (nI p0)), (2, .int p1)]) hx hb dX1_lean_89 hl (by decide) rfl (fun ls hl => ?_)
      refine lv_iload hx hb dX1_lean_91 (lv_at hl 0 rfl) ?_
      exact x_reti S hr hlk hQ hS () trivial x_T dX1_lean_93
  · skip
    refine lv_iload_n hx hb dX1_lean_18 rfl (lv_at hl 0 rfl) ?_
    refine lv_iconst (v := 1) hx hb dX1_lean_19 (by decide) ?_
    refine lv_iload_n hx hb dX1_lean_20 rfl (lv_at hl 2 rfl) ?_
    refine lv_ishl hx hb dX1_lean_21 ?_
    refine lv_topi (fun v_26 ev_26 => ?_)
    refine lv_ior hx hb dX1_lean_22 ?_
    refine lv_topi (fun v_27 ev_27 => ?_)
    refine lv_goto (tgt := 27) hx hb dX1_lean_23 (by decide) ?_
    refine lv_istore (lv' := [(4, .int v_27), (3, .int v_1), (0, .ref (o 5)), (1, .int (nI p0)), (2, .int p1)]) hx hb dX1_lean_27 hl (by decide) rfl (fun ls hl => ?_)
    refine lv_iload_n hx hb dX1_lean_29 rfl (lv_at hl 4 rfl) ?_
    refine lv_iload hx hb dX1_lean_30 (lv_at hl 0 rfl) ?_
    refine lv_iand hx hb dX1_lean_32 ?_
    refine lv_topi (fun v_28 ev_28 => ?_)
    refine x_roSi (As := [.int v_28]) S hK hP hDW hZ hAB hBA hS hA hl mwJ6_bitCount_0f7a4 lkX1_98 (ctJ6_bitCount_0f7a4 l D k z v_28 ) [] rfl (by decide) rfl rfl ⟨Nat.le_of_ble_eq_true rfl, Nat.le_of_ble_eq_true rfl, Nat.le_of_ble_eq_true rfl⟩ dX1_lean_33 ⟨Nat.le_of_ble_eq_true rfl, Nat.le_of_ble_eq_true rfl⟩ (fun r_29 H locs hr_29 hP hS => ?_)
    obtain ⟨n_31, rfl, hn_31⟩ := hr_29
    refine lv_iload_n hx hb dX1_lean_36 rfl (lv_at hl 4 rfl) ?_
    refine lv_iload hx hb dX1_lean_37 (lv_at hl 0 rfl) ?_
    refine lv_bipush (v := 16) hx hb dX1_lean_39 (by decide) ?_
    refine lv_ishl hx hb dX1_lean_41 ?_
    refine lv_topi (fun v_32 ev_32 => ?_)
    refine lv_iand hx hb dX1_lean_42 ?_
    refine lv_topi (fun v_33 ev_33 => ?_)
    refine x_roSi (As := [.int v_33]) S hK hP hDW hZ hAB hBA hS hA hl mwJ6_bitCount_0f7a4 lkX1_98 (ctJ6_bitCount_0f7a4 l D k z v_33 ) [] rfl (by decide) rfl rfl ⟨Nat.le_of_ble_eq_true rfl, Nat.le_of_ble_eq_true rfl, Nat.le_of_ble_eq_true rfl⟩ dX1_lean_43 ⟨Nat.le_of_ble_eq_true rfl, Nat.le_of_ble_eq_true rfl⟩ (fun r_34 H locs hr_34 hP hS => ?_)
    obtain ⟨n_36, rfl, hn_36⟩ := hr_34
    refine lv_isub hx hb dX1_lean_46 ?_
    refine lv_topi (fun v_37 ev_37 => ?_)
    refine lv_istore (lv' := [(5, .int v_37), (4, .int v_27), (3, .int v_1), (0, .ref (o 5)), (1, .int (nI p0)), (2, .int p1)]) hx hb dX1_lean_47 hl (by decide) rfl (fun ls hl => ?_)
    refine lv_aload_n hx hb dX1_lean_49 rfl (lv_at hl 3 rfl) ?_
    refine x_get S hK hP 0 rfl cfX1 2 lkX1_29 (by decide) rfl dX1_lean_50 ?_
    refine lv_iconst (v := 1) hx hb dX1_lean_53 (by decide) ?_
    refine lv_icmp_ne (tgt := 91) hx hb dX1_lean_54 (by decide) (fun c_38 => ?_) (fun c_38 => ?_)
    · skip
      refine lv_iload hx hb dX1_lean_91 (lv_at hl 0 rfl) ?_
      exact x_reti S hr hlk hQ hS () trivial x_T dX1_lean_93
    · skip
      refine lv_aload_n hx hb dX1_lean_57 rfl (lv_at hl 3 rfl) ?_
      refine x_get S hK hP 0 rfl cfX1 0 lkX1_15 (by decide) rfl dX1_lean_58 ?_
      refine x_get S hK hP 6 rfl cfX2 14 lkX1_103 (by decide) rfl dX1_lean_61 ?_
      refine lv_iload_n hx hb dX1_lean_64 rfl (lv_at hl 4 rfl) ?_
      refine x_iald S hK hP 9 rfl (vp_in_nI (by omega) (by decide)) dX1_lean_65 ?_
      refine lv_topi (fun v_39 ev_39 => ?_)
      refine lv_istore (lv' := [(6, .int v_39), (5, .int v_37), (4, .int v_27), (3, .int v_1), (0, .ref (o 5)), (1, .int (nI p0)), (2, .int p1)]) hx hb dX1_lean_66 hl (by decide) rfl (fun ls hl => ?_)
      refine lv_iload hx hb dX1_lean_68 (lv_at hl 1 rfl) ?_
      refine lv_iload_n hx hb dX1_lean_70 rfl (lv_at hl 6 rfl) ?_
      refine lv_iload hx hb dX1_lean_71 (lv_at hl 0 rfl) ?_
      refine lv_iand hx hb dX1_lean_73 ?_
      refine lv_topi (fun v_40 ev_40 => ?_)
      refine x_roSi (As := [.int v_40]) S hK hP hDW hZ hAB hBA hS hA hl mwJ6_bitCount_0f7a4 lkX1_98 (ctJ6_bitCount_0f7a4 l D k z v_40 ) [] rfl (by decide) rfl rfl ⟨Nat.le_of_ble_eq_true rfl, Nat.le_of_ble_eq_true rfl, Nat.le_of_ble_eq_true rfl⟩ dX1_lean_74 ⟨Nat.le_of_ble_eq_true rfl, Nat.le_of_ble_eq_true rfl⟩ (fun r_41 H locs hr_41 hP hS => ?_)
      obtain ⟨n_43, rfl, hn_43⟩ := hr_41
      refine lv_iload_n hx hb dX1_lean_77 rfl (lv_at hl 6 rfl) ?_
      refine lv_iload hx hb dX1_lean_78 (lv_at hl 0 rfl) ?_
      refine lv_bipush (v := 16) hx hb dX1_lean_80 (by decide) ?_
      refine lv_ishl hx hb dX1_lean_82 ?_
      refine lv_topi (fun v_44 ev_44 => ?_)
      refine lv_iand hx hb dX1_lean_83 ?_
      refine lv_topi (fun v_45 ev_45 => ?_)
      refine x_roSi (As := [.int v_45]) S hK hP hDW hZ hAB hBA hS hA hl mwJ6_bitCount_0f7a4 lkX1_98 (ctJ6_bitCount_0f7a4 l D k z v_45 ) [] rfl (by decide) rfl rfl ⟨Nat.le_of_ble_eq_true rfl, Nat.le_of_ble_eq_true rfl, Nat.le_of_ble_eq_true rfl⟩ dX1_lean_84 ⟨Nat.le_of_ble_eq_true rfl, Nat.le_of_ble_eq_true rfl⟩ (fun r_46 H locs hr_46 hP hS => ?_)
      obtain ⟨n_48, rfl, hn_48⟩ := hr_46
      refine lv_isub hx hb dX1_lean_87 ?_
      refine lv_topi (fun v_49 ev_49 => ?_)
      refine lv_iadd hx hb dX1_lean_88 ?_
      refine lv_topi (fun v_50 ev_50 => ?_)
      refine lv_istore (lv' := [(5, .int v_50), (6, .int v_39), (4, .int v_27), (3, .int v_1), (0, .ref (o 5)), (1, .int (nI p0)), (2, .int p1)]) hx hb dX1_lean_89 hl (by decide) rfl (fun ls hl => ?_)
      refine lv_iload hx hb dX1_lean_91 (lv_at hl 0 rfl) ?_
      exact x_reti S hr hlk hQ hS () trivial x_T dX1_lean_93

set_option maxHeartbeats 4000000 in
set_option maxRecDepth 100000 in
theorem ctX1_passTo_c (l : Launch) (D : va_G) (k : Nat → ClassId) (z : Nat → Nat) (o : Nat → Nat) (clawNow : Int32) (charder : Int32) (ctold : Int32) (creply : Int32) (cwet : Int32) (f72 : Nat → Int32) (f69 : Nat → Int32) (f70 : Nat → Int32) (f71 : Nat → Int32) (glines : Int32) (ghours : Nat) (glaw : Int32) (godds : Int32) (grows : Nat) (gheads : Nat) (gsayings : Nat) (gslugs : Nat) (gacts : Nat) (f26 : Nat → Int32) (f30 : Nat → Int32) (f31 : Nat → Int32) (p0 : Int32) (p1 : Int32) (hghours : ghours ≤ 16) (hgrows : grows ≤ 4) (hgheads : gheads ≤ 12) (hgsayings : gsayings ≤ 8) (hgslugs : gslugs ≤ 4) (hgacts : gacts ≤ 30) : RO l yX1_passTo cX1_passTo 9 (some .int) 2 D k z [.ref (o 5), .int p0, .int p1] [((o 5), .inr (1, [.ref (o 3), .ref (o 4), .int clawNow, .int charder, .int ctold, .int creply, .int cwet, .ref (o 72)])), ((o 72), .inl (k 0, 17, .inl f72)), ((o 4), .inr (3, [.ref (o 69), .ref (o 70), .ref (o 71)])), ((o 69), .inl (k 0, 17, .inl f69)), ((o 70), .inl (k 0, 17, .inl f70)), ((o 71), .inl (k 0, 17, .inl f71)), ((o 3), .inr (2, [.int glines, .int (nI ghours), .int glaw, .int godds, .int (nI grows), .int (nI gheads), .int (nI gsayings), .int (nI gslugs), .int (nI gacts), .ref (o 26), .ref (o 27), .ref (o 28), .ref (o 29), .ref (o 30), .ref (o 31), .ref (o 32), .ref (o 33), .ref (o 34), .ref (o 35)])), ((o 26), .inl (k 0, 12, .inl f26)), ((o 30), .inl (k 0, 12, .inl f30)), ((o 31), .inl (k 0, 12, .inl f31))] (Qi (fun r : Int32 => True)) := by
  refine RO.of (by decide) (Nat.le_of_ble_eq_true rfl) ?_
  intro p e s m below meth c ls A B args Q S hr hlk hQ hK hP hDW hZ hAB hBA hA hS hl
  have hx := S.1
  have hb := S.2.1
  have hl : lv_has ls 9 [(0, .ref (o 5)), (1, .int p0), (2, .int p1)] := hl
  refine lv_aload_n hx hb dX1_passTo_0 rfl (lv_at hl 0 rfl) ?_
  refine x_get S hK hP 0 rfl cfX1 2 lkX1_29 (by decide) rfl dX1_passTo_1 ?_
  refine lv_iconst (v := 2) hx hb dX1_passTo_4 (by decide) ?_
  refine lv_icmp_ne (tgt := 21) hx hb dX1_passTo_5 (by decide) (fun c_1 => ?_) (fun c_1 => ?_)
  · skip
    refine lv_iload_n hx hb dX1_passTo_21 rfl (lv_at hl 1 rfl) ?_
    refine lv_istore_n (lv' := [(3, .int p0), (0, .ref (o 5)), (1, .int p0), (2, .int p1)]) hx hb dX1_passTo_22 rfl hl (by decide) rfl (fun ls hl => ?_)
    refine lv_iload_n hx hb dX1_passTo_23 rfl (lv_at hl 3 rfl) ?_
    refine lv_istore (lv' := [(4, .int p1), (3, .int p0), (0, .ref (o 5)), (1, .int p0), (2, .int p1)]) hx hb dX1_passTo_24 hl (by decide) rfl (fun ls hl => ?_)
    refine lv_iconst (v := 0) hx hb dX1_passTo_26 (by decide) ?_
    refine lv_istore (lv' := [(5, .int 0), (4, .int p1), (3, .int p0), (0, .ref (o 5)), (1, .int p0), (2, .int p1)]) hx hb dX1_passTo_27 hl (by decide) rfl (fun ls hl => ?_)
    have lp_54 : ∀ (nn j_52 : Nat) (x_53 : Int32) (H : Heap) (locs : List Loc) (ls : Array Slot), j_52 ≤ gheads → gheads - j_52 < nn → va_P D vwCl [((o 5), .inr (1, [.ref (o 3), .ref (o 4), .int clawNow, .int charder, .int ctold, .int creply, .int cwet, .ref (o 72)])), ((o 72), .inl (k 0, 17, .inl f72)), ((o 4), .inr (3, [.ref (o 69), .ref (o 70), .ref (o 71)])), ((o 69), .inl (k 0, 17, .inl f69)), ((o 70), .inl (k 0, 17, .inl f70)), ((o 71), .inl (k 0, 17, .inl f71)), ((o 3), .inr (2, [.int glines, .int (nI ghours), .int glaw, .int godds, .int (nI grows), .int (nI gheads), .int (nI gsayings), .int (nI gslugs), .int (nI gacts), .ref (o 26), .ref (o 27), .ref (o 28), .ref (o 29), .ref (o 30), .ref (o 31), .ref (o 32), .ref (o 33), .ref (o 34), .ref (o 35)])), ((o 26), .inl (k 0, 12, .inl f26)), ((o 30), .inl (k 0, 12, .inl f30)), ((o 31), .inl (k 0, 12, .inl f31))] H → va_S A s.heap H locs → lv_has ls 9 [(5, .int (nI j_52)), (4, .int x_53), (3, .int p0), (0, .ref (o 5)), (1, .int p0), (2, .int p1)] → W p l e (Rm 2 0 0) s m args below meth c H locs 0 0 Q (F0 m 29 ls []) := by
      intro nn
      induction nn with
      | zero => intro j_52 x_53 H locs ls hjj_52 hnj_52; exact absurd hnj_52 (by omega)
      | succ nn ihj_52 =>
        intro j_52 x_53 H locs ls hjj_52 hnj_52 hP hS hl
        refine lv_iload hx hb dX1_passTo_29 (lv_at hl 0 rfl) ?_
        refine lv_aload_n hx hb dX1_passTo_31 rfl (lv_at hl 3 rfl) ?_
        refine x_get S hK hP 0 rfl cfX1 0 lkX1_15 (by decide) rfl dX1_passTo_32 ?_
        refine x_get S hK hP 6 rfl cfX2 5 lkX1_81 (by decide) rfl dX1_passTo_35 ?_
        refine lv_icmp_ge (tgt := 141) hx hb dX1_passTo_38 (by decide) (fun c_55 => ?_) (fun c_55 => ?_)
        · skip
          have c_55 : gheads ≤ j_52 := (ni_le rfl rfl (by omega) (by omega)).mp c_55
          refine lv_iload hx hb dX1_passTo_141 (lv_at hl 1 rfl) ?_
          exact x_reti S hr hlk hQ hS () trivial x_T dX1_passTo_143
        · skip
          have c_55 : ¬ gheads ≤ j_52 := fun q => c_55 ((ni_le rfl rfl (by omega) (by omega)).mpr q)
          refine lv_iconst (v := 1) hx hb dX1_passTo_41 (by decide) ?_
          refine lv_iload hx hb dX1_passTo_42 (lv_at hl 0 rfl) ?_
          refine lv_ishl hx hb dX1_passTo_44 ?_
          refine lv_topi (fun v_56 ev_56 => ?_)
          refine lv_istore (lv' := [(6, .int v_56), (5, .int (nI j_52)), (4, .int x_53), (3, .int p0), (0, .ref (o 5)), (1, .int p0), (2, .int p1)]) hx hb dX1_passTo_45 hl (by decide) rfl (fun ls hl => ?_)
          refine lv_iload_n hx hb dX1_passTo_47 rfl (lv_at hl 3 rfl) ?_
          refine lv_iload hx hb dX1_passTo_48 (lv_at hl 0 rfl) ?_
          refine lv_iand hx hb dX1_passTo_50 ?_
          refine lv_topi (fun v_57 ev_57 => ?_)
          refine lv_if_eq (tgt := 135) hx hb dX1_passTo_51 (by decide) (fun c_58 => ?_) (fun c_58 => ?_)
          · skip
            refine lv_iinc (v := (nI (j_52 + 1))) (lv' := [(5, .int (nI (j_52 + 1))), (6, .int v_56), (4, .int x_53), (3, .int p0), (0, .ref (o 5)), (1, .int p0), (2, .int p1)]) hx hb dX1_passTo_135 hl (k := 1) rfl (ni_inc _) (by decide) rfl (fun ls hl => ?_)
            refine lv_goto (tgt := 29) hx hb dX1_passTo_138 (by decide) ?_
            exact ihj_52 (j_52 + 1) x_53 _ _ _ (by omega) (by omega) hP hS (lv_sub hl [0, 2, 3, 4, 5, 6] rfl)
          · skip
            refine lv_iload_n hx hb dX1_passTo_54 rfl (lv_at hl 6 rfl) ?_
            refine lv_aload_n hx hb dX1_passTo_55 rfl (lv_at hl 4 rfl) ?_
            refine x_get S hK hP 0 rfl cfX1 0 lkX1_15 (by decide) rfl dX1_passTo_56 ?_
            refine x_get S hK hP 6 rfl cfX2 13 lkX1_84 (by decide) rfl dX1_passTo_59 ?_
            refine lv_iload hx hb dX1_passTo_62 (lv_at hl 1 rfl) ?_
            refine x_iald S hK hP 8 rfl (vp_in_nI (by omega) (by decide)) dX1_passTo_64 ?_
            refine lv_topi (fun v_59 ev_59 => ?_)
            refine x_roSNi (As := [.int v_59]) S hK hP hDW hZ hAB hBA hS hA hl mwX10_inBoth lkX1_62 (ctX10_inBoth l D k z v_59 ) [] rfl (by decide) rfl rfl ⟨Nat.le_of_ble_eq_true rfl, Nat.le_of_ble_eq_true rfl, Nat.le_of_ble_eq_true rfl⟩ dX1_passTo_65 ⟨Nat.le_of_ble_eq_true rfl, Nat.le_of_ble_eq_true rfl⟩ (fun r_60 H locs hr_60 hP hS => ?_)
            refine lv_iand hx hb dX1_passTo_68 ?_
            refine lv_topi (fun v_62 ev_62 => ?_)
            refine lv_if_eq (tgt := 135) hx hb dX1_passTo_69 (by decide) (fun c_63 => ?_) (fun c_63 => ?_)
            · skip
              refine lv_iinc (v := (nI (j_52 + 1))) (lv' := [(5, .int (nI (j_52 + 1))), (6, .int v_56), (4, .int x_53), (3, .int p0), (0, .ref (o 5)), (1, .int p0), (2, .int p1)]) hx hb dX1_passTo_135 hl (k := 1) rfl (ni_inc _) (by decide) rfl (fun ls hl => ?_)
              refine lv_goto (tgt := 29) hx hb dX1_passTo_138 (by decide) ?_
              exact ihj_52 (j_52 + 1) x_53 _ _ _ (by omega) (by omega) hP hS (lv_sub hl [0, 2, 3, 4, 5, 6] rfl)
            · skip
              refine lv_aload_n hx hb dX1_passTo_72 rfl (lv_at hl 4 rfl) ?_
              refine lv_iload hx hb dX1_passTo_73 (lv_at hl 1 rfl) ?_
              refine lv_iload_n hx hb dX1_passTo_75 rfl (lv_at hl 6 rfl) ?_
              refine x_roVi (As := [.int (nI j_52), .int p1]) S hK hP hDW hZ hAB hBA hS hA hl mwX1_lean lkX1_87 (ctX1_lean_c l D k z o clawNow charder ctold creply cwet f72 f69 f70 f71 glines ghours glaw godds grows gheads gsayings gslugs gacts f26 f30 f31 j_52 p1 (by omega) (by omega) (by omega) (by omega) (by omega) (by omega) (by omega)) [0, 1, 2, 3, 4, 5, 6, 7, 8, 9] rfl (by decide) rfl rfl rfl rfl rfl ⟨Nat.le_of_ble_eq_true rfl, Nat.le_of_ble_eq_true rfl, Nat.le_of_ble_eq_true rfl⟩ dX1_passTo_76 ⟨Nat.le_of_ble_eq_true rfl, Nat.le_of_ble_eq_true rfl⟩ (fun r_64 H locs hr_64 hP hS => ?_)
              refine lv_istore (lv' := [(7, .int r_64), (6, .int v_56), (5, .int (nI j_52)), (4, .int x_53), (3, .int p0), (0, .ref (o 5)), (1, .int p0), (2, .int p1)]) hx hb dX1_passTo_79 hl (by decide) rfl (fun ls hl => ?_)
              refine lv_aload_n hx hb dX1_passTo_81 rfl (lv_at hl 5 rfl) ?_
              refine x_get S hK hP 0 rfl cfX1 0 lkX1_15 (by decide) rfl dX1_passTo_82 ?_
              refine x_get S hK hP 6 rfl cfX2 9 lkX1_90 (by decide) rfl dX1_passTo_85 ?_
              refine lv_iload hx hb dX1_passTo_88 (lv_at hl 2 rfl) ?_
              refine x_iald S hK hP 7 rfl (vp_in_nI (by omega) (by decide)) dX1_passTo_90 ?_
              refine lv_topi (fun v_66 ev_66 => ?_)
              refine lv_aload_n hx hb dX1_passTo_91 rfl (lv_at hl 5 rfl) ?_
              refine x_get S hK hP 0 rfl cfX1 3 lkX1_32 (by decide) rfl dX1_passTo_92 ?_
              refine lv_iload hx hb dX1_passTo_95 (lv_at hl 2 rfl) ?_
              refine lv_iushr hx hb dX1_passTo_97 rfl ?_
              refine lv_topi (fun v_67 ev_67 => ?_)
              refine lv_iconst (v := 1) hx hb dX1_passTo_98 (by decide) ?_
              refine lv_iand hx hb dX1_passTo_99 ?_
              refine lv_topi (fun v_68 ev_68 => ?_)
              refine lv_iadd hx hb dX1_passTo_100 ?_
              refine lv_topi (fun v_69 ev_69 => ?_)
              refine lv_istore (lv' := [(8, .int v_69), (7, .int r_64), (6, .int v_56), (5, .int (nI j_52)), (4, .int x_53), (3, .int p0), (0, .ref (o 5)), (1, .int p0), (2, .int p1)]) hx hb dX1_passTo_101 hl (by decide) rfl (fun ls hl => ?_)
              refine lv_iload hx hb dX1_passTo_103 (lv_at hl 1 rfl) ?_
              refine x_mabs S hl lkX1_93 (Nat.le_of_ble_eq_true rfl) (Nat.le_of_ble_eq_true rfl) ⟨Nat.le_of_ble_eq_true rfl, Nat.le_of_ble_eq_true rfl⟩ dX1_passTo_105 (fun v_70 ev_70 => ?_)
              refine lv_iload hx hb dX1_passTo_108 (lv_at hl 0 rfl) ?_
              refine lv_icmp_lt (tgt := 135) hx hb dX1_passTo_110 (by decide) (fun c_71 => ?_) (fun c_71 => ?_)
              · skip
                refine lv_iinc (v := (nI (j_52 + 1))) (lv' := [(5, .int (nI (j_52 + 1))), (8, .int v_69), (7, .int r_64), (6, .int v_56), (4, .int x_53), (3, .int p0), (0, .ref (o 5)), (1, .int p0), (2, .int p1)]) hx hb dX1_passTo_135 hl (k := 3) rfl (ni_inc _) (by decide) rfl (fun ls hl => ?_)
                refine lv_goto (tgt := 29) hx hb dX1_passTo_138 (by decide) ?_
                exact ihj_52 (j_52 + 1) x_53 _ _ _ (by omega) (by omega) hP hS (lv_sub hl [0, 4, 5, 6, 7, 8] rfl)
              · skip
                refine lv_iload hx hb dX1_passTo_113 (lv_at hl 4 rfl) ?_
                refine lv_iload hx hb dX1_passTo_115 (lv_at hl 1 rfl) ?_
                refine lv_if_le (tgt := 125) hx hb dX1_passTo_117 (by decide) (fun c_72 => ?_) (fun c_72 => ?_)
                · skip
                  refine lv_iload hx hb dX1_passTo_125 (lv_at hl 2 rfl) ?_
                  refine lv_bipush (v := 16) hx hb dX1_passTo_127 (by decide) ?_
                  refine lv_ishl hx hb dX1_passTo_129 ?_
                  refine lv_topi (fun v_73 ev_73 => ?_)
                  refine x_roSNi (As := [.int x_53, .int v_73]) S hK hP hDW hZ hAB hBA hS hA hl mwX10_heard lkX1_56 (ctX10_heard l D k z x_53 v_73 ) [] rfl (by decide) rfl rfl ⟨Nat.le_of_ble_eq_true rfl, Nat.le_of_ble_eq_true rfl, Nat.le_of_ble_eq_true rfl⟩ dX1_passTo_130 ⟨Nat.le_of_ble_eq_true rfl, Nat.le_of_ble_eq_true rfl⟩ (fun r_74 H locs hr_74 hP hS => ?_)
                  refine lv_istore (lv' := [(4, .int r_74), (8, .int v_69), (7, .int r_64), (6, .int v_56), (5, .int (nI j_52)), (3, .int p0), (0, .ref (o 5)), (1, .int p0), (2, .int p1)]) hx hb dX1_passTo_133 hl (by decide) rfl (fun ls hl => ?_)
                  refine lv_iinc (v := (nI (j_52 + 1))) (lv' := [(5, .int (nI (j_52 + 1))), (4, .int r_74), (8, .int v_69), (7, .int r_64), (6, .int v_56), (3, .int p0), (0, .ref (o 5)), (1, .int p0), (2, .int p1)]) hx hb dX1_passTo_135 hl (k := 4) rfl (ni_inc _) (by decide) rfl (fun ls hl => ?_)
                  refine lv_goto (tgt := 29) hx hb dX1_passTo_138 (by decide) ?_
                  exact ihj_52 (j_52 + 1) r_74 _ _ _ (by omega) (by omega) hP hS (lv_sub hl [0, 1, 5, 6, 7, 8] rfl)
                · skip
                  refine lv_iload hx hb dX1_passTo_120 (lv_at hl 2 rfl) ?_
                  refine lv_goto (tgt := 130) hx hb dX1_passTo_122 (by decide) ?_
                  refine x_roSNi (As := [.int x_53, .int v_56]) S hK hP hDW hZ hAB hBA hS hA hl mwX10_heard lkX1_56 (ctX10_heard l D k z x_53 v_56 ) [] rfl (by decide) rfl rfl ⟨Nat.le_of_ble_eq_true rfl, Nat.le_of_ble_eq_true rfl, Nat.le_of_ble_eq_true rfl⟩ dX1_passTo_130 ⟨Nat.le_of_ble_eq_true rfl, Nat.le_of_ble_eq_true rfl⟩ (fun r_76 H locs hr_76 hP hS => ?_)
                  refine lv_istore (lv' := [(4, .int r_76), (8, .int v_69), (7, .int r_64), (6, .int v_56), (5, .int (nI j_52)), (3, .int p0), (0, .ref (o 5)), (1, .int p0), (2, .int p1)]) hx hb dX1_passTo_133 hl (by decide) rfl (fun ls hl => ?_)
                  refine lv_iinc (v := (nI (j_52 + 1))) (lv' := [(5, .int (nI (j_52 + 1))), (4, .int r_76), (8, .int v_69), (7, .int r_64), (6, .int v_56), (3, .int p0), (0, .ref (o 5)), (1, .int p0), (2, .int p1)]) hx hb dX1_passTo_135 hl (k := 4) rfl (ni_inc _) (by decide) rfl (fun ls hl => ?_)
                  refine lv_goto (tgt := 29) hx hb dX1_passTo_138 (by decide) ?_
                  exact ihj_52 (j_52 + 1) r_76 _ _ _ (by omega) (by omega) hP hS (lv_sub hl [0, 1, 5, 6, 7, 8] rfl)
    exact lp_54 (gheads + 1) 0 p1 _ _ _ (by omega) (by omega) hP hS (lv_sub hl [0, 1, 2, 3, 4, 5] rfl)
  · skip
    refine lv_iload_n hx hb dX1_passTo_8 rfl (lv_at hl 1 rfl) ?_
    refine lv_iload_n hx hb dX1_passTo_9 rfl (lv_at hl 2 rfl) ?_
    refine lv_iload_n hx hb dX1_passTo_10 rfl (lv_at hl 2 rfl) ?_
    refine lv_bipush (v := 16) hx hb dX1_passTo_11 (by decide) ?_
    refine lv_iushr hx hb dX1_passTo_13 rfl ?_
    refine lv_topi (fun v_78 ev_78 => ?_)
    refine lv_ior hx hb dX1_passTo_14 ?_
    refine lv_topi (fun v_79 ev_79 => ?_)
    refine lv_iconst (v := (-1)) hx hb dX1_passTo_15 (by decide) ?_
    refine lv_ixor hx hb dX1_passTo_16 ?_
    refine lv_topi (fun v_80 ev_80 => ?_)
    refine lv_iand hx hb dX1_passTo_17 ?_
    refine lv_topi (fun v_81 ev_81 => ?_)
    refine lv_goto (tgt := 22) hx hb dX1_passTo_18 (by decide) ?_
    refine lv_istore_n (lv' := [(3, .int v_81), (0, .ref (o 5)), (1, .int p0), (2, .int p1)]) hx hb dX1_passTo_22 rfl hl (by decide) rfl (fun ls hl => ?_)
    refine lv_iload_n hx hb dX1_passTo_23 rfl (lv_at hl 3 rfl) ?_
    refine lv_istore (lv' := [(4, .int p1), (3, .int v_81), (0, .ref (o 5)), (1, .int p0), (2, .int p1)]) hx hb dX1_passTo_24 hl (by decide) rfl (fun ls hl => ?_)
    refine lv_iconst (v := 0) hx hb dX1_passTo_26 (by decide) ?_
    refine lv_istore (lv' := [(5, .int 0), (4, .int p1), (3, .int v_81), (0, .ref (o 5)), (1, .int p0), (2, .int p1)]) hx hb dX1_passTo_27 hl (by decide) rfl (fun ls hl => ?_)
    have lp_111 : ∀ (nn j_109 : Nat) (x_110 : Int32) (H : Heap) (locs : List Loc) (ls : Array Slot), j_109 ≤ gheads → gheads - j_109 < nn → va_P D vwCl [((o 5), .inr (1, [.ref (o 3), .ref (o 4), .int clawNow, .int charder, .int ctold, .int creply, .int cwet, .ref (o 72)])), ((o 72), .inl (k 0, 17, .inl f72)), ((o 4), .inr (3, [.ref (o 69), .ref (o 70), .ref (o 71)])), ((o 69), .inl (k 0, 17, .inl f69)), ((o 70), .inl (k 0, 17, .inl f70)), ((o 71), .inl (k 0, 17, .inl f71)), ((o 3), .inr (2, [.int glines, .int (nI ghours), .int glaw, .int godds, .int (nI grows), .int (nI gheads), .int (nI gsayings), .int (nI gslugs), .int (nI gacts), .ref (o 26), .ref (o 27), .ref (o 28), .ref (o 29), .ref (o 30), .ref (o 31), .ref (o 32), .ref (o 33), .ref (o 34), .ref (o 35)])), ((o 26), .inl (k 0, 12, .inl f26)), ((o 30), .inl (k 0, 12, .inl f30)), ((o 31), .inl (k 0, 12, .inl f31))] H → va_S A s.heap H locs → lv_has ls 9 [(5, .int (nI j_109)), (4, .int x_110), (3, .int v_81), (0, .ref (o 5)), (1, .int p0), (2, .int p1)] → W p l e (Rm 2 0 0) s m args below meth c H locs 0 0 Q (F0 m 29 ls []) := by
      intro nn
      induction nn with
      | zero => intro j_109 x_110 H locs ls hjj_109 hnj_109; exact absurd hnj_109 (by omega)
      | succ nn ihj_109 =>
        intro j_109 x_110 H locs ls hjj_109 hnj_109 hP hS hl
        refine lv_iload hx hb dX1_passTo_29 (lv_at hl 0 rfl) ?_
        refine lv_aload_n hx hb dX1_passTo_31 rfl (lv_at hl 3 rfl) ?_
        refine x_get S hK hP 0 rfl cfX1 0 lkX1_15 (by decide) rfl dX1_passTo_32 ?_
        refine x_get S hK hP 6 rfl cfX2 5 lkX1_81 (by decide) rfl dX1_passTo_35 ?_
        refine lv_icmp_ge (tgt := 141) hx hb dX1_passTo_38 (by decide) (fun c_112 => ?_) (fun c_112 => ?_)
        · skip
          have c_112 : gheads ≤ j_109 := (ni_le rfl rfl (by omega) (by omega)).mp c_112
          refine lv_iload hx hb dX1_passTo_141 (lv_at hl 1 rfl) ?_
          exact x_reti S hr hlk hQ hS () trivial x_T dX1_passTo_143
        · skip
          have c_112 : ¬ gheads ≤ j_109 := fun q => c_112 ((ni_le rfl rfl (by omega) (by omega)).mpr q)
          refine lv_iconst (v := 1) hx hb dX1_passTo_41 (by decide) ?_
          refine lv_iload hx hb dX1_passTo_42 (lv_at hl 0 rfl) ?_
          refine lv_ishl hx hb dX1_passTo_44 ?_
          refine lv_topi (fun v_113 ev_113 => ?_)
          refine lv_istore (lv' := [(6, .int v_113), (5, .int (nI j_109)), (4, .int x_110), (3, .int v_81), (0, .ref (o 5)), (1, .int p0), (2, .int p1)]) hx hb dX1_passTo_45 hl (by decide) rfl (fun ls hl => ?_)
          refine lv_iload_n hx hb dX1_passTo_47 rfl (lv_at hl 3 rfl) ?_
          refine lv_iload hx hb dX1_passTo_48 (lv_at hl 0 rfl) ?_
          refine lv_iand hx hb dX1_passTo_50 ?_
          refine lv_topi (fun v_114 ev_114 => ?_)
          refine lv_if_eq (tgt := 135) hx hb dX1_passTo_51 (by decide) (fun c_115 => ?_) (fun c_115 => ?_)
          · skip
            refine lv_iinc (v := (nI (j_109 + 1))) (lv' := [(5, .int (nI (j_109 + 1))), (6, .int v_113), (4, .int x_110), (3, .int v_81), (0, .ref (o 5)), (1, .int p0), (2, .int p1)]) hx hb dX1_passTo_135 hl (k := 1) rfl (ni_inc _) (by decide) rfl (fun ls hl => ?_)
            refine lv_goto (tgt := 29) hx hb dX1_passTo_138 (by decide) ?_
            exact ihj_109 (j_109 + 1) x_110 _ _ _ (by omega) (by omega) hP hS (lv_sub hl [0, 2, 3, 4, 5, 6] rfl)
          · skip
            refine lv_iload_n hx hb dX1_passTo_54 rfl (lv_at hl 6 rfl) ?_
            refine lv_aload_n hx hb dX1_passTo_55 rfl (lv_at hl 4 rfl) ?_
            refine x_get S hK hP 0 rfl cfX1 0 lkX1_15 (by decide) rfl dX1_passTo_56 ?_
            refine x_get S hK hP 6 rfl cfX2 13 lkX1_84 (by decide) rfl dX1_passTo_59 ?_
            refine lv_iload hx hb dX1_passTo_62 (lv_at hl 1 rfl) ?_
            refine x_iald S hK hP 8 rfl (vp_in_nI (by omega) (by decide)) dX1_passTo_64 ?_
            refine lv_topi (fun v_116 ev_116 => ?_)
            refine x_roSNi (As := [.int v_116]) S hK hP hDW hZ hAB hBA hS hA hl mwX10_inBoth lkX1_62 (ctX10_inBoth l D k z v_116 ) [] rfl (by decide) rfl rfl ⟨Nat.le_of_ble_eq_true rfl, Nat.le_of_ble_eq_true rfl, Nat.le_of_ble_eq_true rfl⟩ dX1_passTo_65 ⟨Nat.le_of_ble_eq_true rfl, Nat.le_of_ble_eq_true rfl⟩ (fun r_117 H locs hr_117 hP hS => ?_)
            refine lv_iand hx hb dX1_passTo_68 ?_
            refine lv_topi (fun v_119 ev_119 => ?_)
            refine lv_if_eq (tgt := 135) hx hb dX1_passTo_69 (by decide) (fun c_120 => ?_) (fun c_120 => ?_)
            · skip
              refine lv_iinc (v := (nI (j_109 + 1))) (lv' := [(5, .int (nI (j_109 + 1))), (6, .int v_113), (4, .int x_110), (3, .int v_81), (0, .ref (o 5)), (1, .int p0), (2, .int p1)]) hx hb dX1_passTo_135 hl (k := 1) rfl (ni_inc _) (by decide) rfl (fun ls hl => ?_)
              refine lv_goto (tgt := 29) hx hb dX1_passTo_138 (by decide) ?_
              exact ihj_109 (j_109 + 1) x_110 _ _ _ (by omega) (by omega) hP hS (lv_sub hl [0, 2, 3, 4, 5, 6] rfl)
            · skip
              refine lv_aload_n hx hb dX1_passTo_72 rfl (lv_at hl 4 rfl) ?_
              refine lv_iload hx hb dX1_passTo_73 (lv_at hl 1 rfl) ?_
              refine lv_iload_n hx hb dX1_passTo_75 rfl (lv_at hl 6 rfl) ?_
              refine x_roVi (As := [.int (nI j_109), .int p1]) S hK hP hDW hZ hAB hBA hS hA hl mwX1_lean lkX1_87 (ctX1_lean_c l D k z o clawNow charder ctold creply cwet f72 f69 f70 f71 glines ghours glaw godds grows gheads gsayings gslugs gacts f26 f30 f31 j_109 p1 (by omega) (by omega) (by omega) (by omega) (by omega) (by omega) (by omega)) [0, 1, 2, 3, 4, 5, 6, 7, 8, 9] rfl (by decide) rfl rfl rfl rfl rfl ⟨Nat.le_of_ble_eq_true rfl, Nat.le_of_ble_eq_true rfl, Nat.le_of_ble_eq_true rfl⟩ dX1_passTo_76 ⟨Nat.le_of_ble_eq_true rfl, Nat.le_of_ble_eq_true rfl⟩ (fun r_121 H locs hr_121 hP hS => ?_)
              refine lv_istore (lv' := [(7, .int r_121), (6, .int v_113), (5, .int (nI j_109)), (4, .int x_110), (3, .int v_81), (0, .ref (o 5)), (1, .int p0), (2, .int p1)]) hx hb dX1_passTo_79 hl (by decide) rfl (fun ls hl => ?_)
              refine lv_aload_n hx hb dX1_passTo_81 rfl (lv_at hl 5 rfl) ?_
              refine x_get S hK hP 0 rfl cfX1 0 lkX1_15 (by decide) rfl dX1_passTo_82 ?_
              refine x_get S hK hP 6 rfl cfX2 9 lkX1_90 (by decide) rfl dX1_passTo_85 ?_
              refine lv_iload hx hb dX1_passTo_88 (lv_at hl 2 rfl) ?_
              refine x_iald S hK hP 7 rfl (vp_in_nI (by omega) (by decide)) dX1_passTo_90 ?_
              refine lv_topi (fun v_123 ev_123 => ?_)
              refine lv_aload_n hx hb dX1_passTo_91 rfl (lv_at hl 5 rfl) ?_
              refine x_get S hK hP 0 rfl cfX1 3 lkX1_32 (by decide) rfl dX1_passTo_92 ?_
              refine lv_iload hx hb dX1_passTo_95 (lv_at hl 2 rfl) ?_
              refine lv_iushr hx hb dX1_passTo_97 rfl ?_
              refine lv_topi (fun v_124 ev_124 => ?_)
              refine lv_iconst (v := 1) hx hb dX1_passTo_98 (by decide) ?_
              refine lv_iand hx hb dX1_passTo_99 ?_
              refine lv_topi (fun v_125 ev_125 => ?_)
              refine lv_iadd hx hb dX1_passTo_100 ?_
              refine lv_topi (fun v_126 ev_126 => ?_)
              refine lv_istore (lv' := [(8, .int v_126), (7, .int r_121), (6, .int v_113), (5, .int (nI j_109)), (4, .int x_110), (3, .int v_81), (0, .ref (o 5)), (1, .int p0), (2, .int p1)]) hx hb dX1_passTo_101 hl (by decide) rfl (fun ls hl => ?_)
              refine lv_iload hx hb dX1_passTo_103 (lv_at hl 1 rfl) ?_
              refine x_mabs S hl lkX1_93 (Nat.le_of_ble_eq_true rfl) (Nat.le_of_ble_eq_true rfl) ⟨Nat.le_of_ble_eq_true rfl, Nat.le_of_ble_eq_true rfl⟩ dX1_passTo_105 (fun v_127 ev_127 => ?_)
              refine lv_iload hx hb dX1_passTo_108 (lv_at hl 0 rfl) ?_
              refine lv_icmp_lt (tgt := 135) hx hb dX1_passTo_110 (by decide) (fun c_128 => ?_) (fun c_128 => ?_)
              · skip
                refine lv_iinc (v := (nI (j_109 + 1))) (lv' := [(5, .int (nI (j_109 + 1))), (8, .int v_126), (7, .int r_121), (6, .int v_113), (4, .int x_110), (3, .int v_81), (0, .ref (o 5)), (1, .int p0), (2, .int p1)]) hx hb dX1_passTo_135 hl (k := 3) rfl (ni_inc _) (by decide) rfl (fun ls hl => ?_)
                refine lv_goto (tgt := 29) hx hb dX1_passTo_138 (by decide) ?_
                exact ihj_109 (j_109 + 1) x_110 _ _ _ (by omega) (by omega) hP hS (lv_sub hl [0, 4, 5, 6, 7, 8] rfl)
              · skip
                refine lv_iload hx hb dX1_passTo_113 (lv_at hl 4 rfl) ?_
                refine lv_iload hx hb dX1_passTo_115 (lv_at hl 1 rfl) ?_
                refine lv_if_le (tgt := 125) hx hb dX1_passTo_117 (by decide) (fun c_129 => ?_) (fun c_129 => ?_)
                · skip
                  refine lv_iload hx hb dX1_passTo_125 (lv_at hl 2 rfl) ?_
                  refine lv_bipush (v := 16) hx hb dX1_passTo_127 (by decide) ?_
                  refine lv_ishl hx hb dX1_passTo_129 ?_
                  refine lv_topi (fun v_130 ev_130 => ?_)
                  refine x_roSNi (As := [.int x_110, .int v_130]) S hK hP hDW hZ hAB hBA hS hA hl mwX10_heard lkX1_56 (ctX10_heard l D k z x_110 v_130 ) [] rfl (by decide) rfl rfl ⟨Nat.le_of_ble_eq_true rfl, Nat.le_of_ble_eq_true rfl, Nat.le_of_ble_eq_true rfl⟩ dX1_passTo_130 ⟨Nat.le_of_ble_eq_true rfl, Nat.le_of_ble_eq_true rfl⟩ (fun r_131 H locs hr_131 hP hS => ?_)
                  refine lv_istore (lv' := [(4, .int r_131), (8, .int v_126), (7, .int r_121), (6, .int v_113), (5, .int (nI j_109)), (3, .int v_81), (0, .ref (o 5)), (1, .int p0), (2, .int p1)]) hx hb dX1_passTo_133 hl (by decide) rfl (fun ls hl => ?_)
                  refine lv_iinc (v := (nI (j_109 + 1))) (lv' := [(5, .int (nI (j_109 + 1))), (4, .int r_131), (8, .int v_126), (7, .int r_121), (6, .int v_113), (3, .int v_81), (0, .ref (o 5)), (1, .int p0), (2, .int p1)]) hx hb dX1_passTo_135 hl (k := 4) rfl (ni_inc _) (by decide) rfl (fun ls hl => ?_)
                  refine lv_goto (tgt := 29) hx hb dX1_passTo_138 (by decide) ?_
                  exact ihj_109 (j_109 + 1) r_131 _ _ _ (by omega) (by omega) hP hS (lv_sub hl [0, 1, 5, 6, 7, 8] rfl)
                · skip
                  refine lv_iload hx hb dX1_passTo_120 (lv_at hl 2 rfl) ?_
                  refine lv_goto (tgt := 130) hx hb dX1_passTo_122 (by decide) ?_
                  refine x_roSNi (As := [.int x_110, .int v_113]) S hK hP hDW hZ hAB hBA hS hA hl mwX10_heard lkX1_56 (ctX10_heard l D k z x_110 v_113 ) [] rfl (by decide) rfl rfl ⟨Nat.le_of_ble_eq_true rfl, Nat.le_of_ble_eq_true rfl, Nat.le_of_ble_eq_true rfl⟩ dX1_passTo_130 ⟨Nat.le_of_ble_eq_true rfl, Nat.le_of_ble_eq_true rfl⟩ (fun r_133 H locs hr_133 hP hS => ?_)
                  refine lv_istore (lv' := [(4, .int r_133), (8, .int v_126), (7, .int r_121), (6, .int v_113), (5, .int (nI j_109)), (3, .int v_81), (0, .ref (o 5)), (1, .int p0), (2, .int p1)]) hx hb dX1_passTo_133 hl (by decide) rfl (fun ls hl => ?_)
                  refine lv_iinc (v := (nI (j_109 + 1))) (lv' := [(5, .int (nI (j_109 + 1))), (4, .int r_133), (8, .int v_126), (7, .int r_121), (6, .int v_113), (3, .int v_81), (0, .ref (o 5)), (1, .int p0), (2, .int p1)]) hx hb dX1_passTo_135 hl (k := 4) rfl (ni_inc _) (by decide) rfl (fun ls hl => ?_)
                  refine lv_goto (tgt := 29) hx hb dX1_passTo_138 (by decide) ?_
                  exact ihj_109 (j_109 + 1) r_133 _ _ _ (by omega) (by omega) hP hS (lv_sub hl [0, 1, 5, 6, 7, 8] rfl)
    exact lp_111 (gheads + 1) 0 p1 _ _ _ (by omega) (by omega) hP hS (lv_sub hl [0, 1, 2, 3, 4, 5] rfl)

set_option maxHeartbeats 4000000 in
set_option maxRecDepth 100000 in
theorem ctX1_viewAt_c (l : Launch) (D : va_G) (k : Nat → ClassId) (z : Nat → Nat) (o : Nat → Nat) (clawNow : Int32) (charder : Int32) (ctold : Int32) (creply : Int32) (cwet : Int32) (f72 : Nat → Int32) (f69 : Nat → Int32) (f70 : Nat → Int32) (f71 : Nat → Int32) (glines : Int32) (ghours : Nat) (glaw : Int32) (godds : Int32) (grows : Nat) (gheads : Nat) (gsayings : Nat) (gslugs : Nat) (gacts : Nat) (f26 : Nat → Int32) (f30 : Nat → Int32) (f31 : Nat → Int32) (p0 : Int32) (p1 : Nat) (hghours : ghours ≤ 16) (hgrows : grows ≤ 4) (hgheads : gheads ≤ 12) (hgsayings : gsayings ≤ 8) (hgslugs : gslugs ≤ 4) (hgacts : gacts ≤ 30) (hp1 : p1 ≤ 16) : RO l yX1_viewAt cX1_viewAt 3 (some .int) 1 D k z [.ref (o 5), .int p0, .int (nI p1)] [((o 5), .inr (1, [.ref (o 3), .ref (o 4), .int clawNow, .int charder, .int ctold, .int creply, .int cwet, .ref (o 72)])), ((o 72), .inl (k 0, 17, .inl f72)), ((o 4), .inr (3, [.ref (o 69), .ref (o 70), .ref (o 71)])), ((o 69), .inl (k 0, 17, .inl f69)), ((o 70), .inl (k 0, 17, .inl f70)), ((o 71), .inl (k 0, 17, .inl f71)), ((o 3), .inr (2, [.int glines, .int (nI ghours), .int glaw, .int godds, .int (nI grows), .int (nI gheads), .int (nI gsayings), .int (nI gslugs), .int (nI gacts), .ref (o 26), .ref (o 27), .ref (o 28), .ref (o 29), .ref (o 30), .ref (o 31), .ref (o 32), .ref (o 33), .ref (o 34), .ref (o 35)])), ((o 26), .inl (k 0, 12, .inl f26)), ((o 30), .inl (k 0, 12, .inl f30)), ((o 31), .inl (k 0, 12, .inl f31))] (Qi (fun r : Int32 => True)) := by
  refine RO.of (by decide) (Nat.le_of_ble_eq_true rfl) ?_
  intro p e s m below meth c ls A B args Q S hr hlk hQ hK hP hDW hZ hAB hBA hA hS hl
  have hx := S.1
  have hb := S.2.1
  have hl : lv_has ls 3 [(0, .ref (o 5)), (1, .int p0), (2, .int (nI p1))] := hl
  refine lv_aload_n hx hb dX1_viewAt_0 rfl (lv_at hl 0 rfl) ?_
  refine x_get S hK hP 0 rfl cfX1 7 lkX1_9 (by decide) rfl dX1_viewAt_1 ?_
  refine lv_iload_n hx hb dX1_viewAt_4 rfl (lv_at hl 2 rfl) ?_
  refine x_iald S hK hP 1 rfl (vp_in_nI (by omega) (by decide)) dX1_viewAt_5 ?_
  refine lv_topi (fun v_1 ev_1 => ?_)
  refine lv_iload_n hx hb dX1_viewAt_6 rfl (lv_at hl 1 rfl) ?_
  refine x_roSNi (As := [.int v_1, .int p0]) S hK hP hDW hZ hAB hBA hS hA hl mwX10_viewIn lkX1_106 (ctX10_viewIn l D k z v_1 p0 ) [] rfl (by decide) rfl rfl ⟨Nat.le_of_ble_eq_true rfl, Nat.le_of_ble_eq_true rfl, Nat.le_of_ble_eq_true rfl⟩ dX1_viewAt_7 ⟨Nat.le_of_ble_eq_true rfl, Nat.le_of_ble_eq_true rfl⟩ (fun r_2 H locs hr_2 hP hS => ?_)
  exact x_reti S hr hlk hQ hS () trivial x_T dX1_viewAt_10

set_option maxHeartbeats 4000000 in
set_option maxRecDepth 100000 in
theorem ctX1_lastState_c (l : Launch) (D : va_G) (k : Nat → ClassId) (z : Nat → Nat) (o : Nat → Nat) (clawNow : Int32) (charder : Int32) (ctold : Int32) (creply : Int32) (cwet : Int32) (f72 : Nat → Int32) (f69 : Nat → Int32) (f70 : Nat → Int32) (f71 : Nat → Int32) (glines : Int32) (ghours : Nat) (glaw : Int32) (godds : Int32) (grows : Nat) (gheads : Nat) (gsayings : Nat) (gslugs : Nat) (gacts : Nat) (f26 : Nat → Int32) (f30 : Nat → Int32) (f31 : Nat → Int32) (hghours : ghours ≤ 16) (hgrows : grows ≤ 4) (hgheads : gheads ≤ 12) (hgsayings : gsayings ≤ 8) (hgslugs : gslugs ≤ 4) (hgacts : gacts ≤ 30) : RO l yX1_lastState cX1_lastState 1 (some .int) 0 D k z [.ref (o 5)] [((o 5), .inr (1, [.ref (o 3), .ref (o 4), .int clawNow, .int charder, .int ctold, .int creply, .int cwet, .ref (o 72)])), ((o 72), .inl (k 0, 17, .inl f72)), ((o 4), .inr (3, [.ref (o 69), .ref (o 70), .ref (o 71)])), ((o 69), .inl (k 0, 17, .inl f69)), ((o 70), .inl (k 0, 17, .inl f70)), ((o 71), .inl (k 0, 17, .inl f71)), ((o 3), .inr (2, [.int glines, .int (nI ghours), .int glaw, .int godds, .int (nI grows), .int (nI gheads), .int (nI gsayings), .int (nI gslugs), .int (nI gacts), .ref (o 26), .ref (o 27), .ref (o 28), .ref (o 29), .ref (o 30), .ref (o 31), .ref (o 32), .ref (o 33), .ref (o 34), .ref (o 35)])), ((o 26), .inl (k 0, 12, .inl f26)), ((o 30), .inl (k 0, 12, .inl f30)), ((o 31), .inl (k 0, 12, .inl f31))] (Qi (fun r : Int32 => True)) := by
  refine RO.of (by decide) (Nat.le_of_ble_eq_true rfl) ?_
  intro p e s m below meth c ls A B args Q S hr hlk hQ hK hP hDW hZ hAB hBA hA hS hl
  have hx := S.1
  have hb := S.2.1
  have hl : lv_has ls 1 [(0, .ref (o 5))] := hl
  refine lv_aload_n hx hb dX1_lastState_0 rfl (lv_at hl 0 rfl) ?_
  refine x_get S hK hP 0 rfl cfX1 7 lkX1_9 (by decide) rfl dX1_lastState_1 ?_
  refine lv_aload_n hx hb dX1_lastState_4 rfl (lv_at hl 0 rfl) ?_
  refine x_get S hK hP 0 rfl cfX1 0 lkX1_15 (by decide) rfl dX1_lastState_5 ?_
  refine x_get S hK hP 6 rfl cfX2 1 lkX1_66 (by decide) rfl dX1_lastState_8 ?_
  refine x_iald S hK hP 1 rfl (vp_in_nI (by omega) (by decide)) dX1_lastState_11 ?_
  refine lv_topi (fun v_1 ev_1 => ?_)
  exact x_reti S hr hlk hQ hS () trivial x_T dX1_lastState_12

set_option maxHeartbeats 4000000 in
set_option maxRecDepth 100000 in
theorem ctX1_run_c (l : Launch) (D : va_G) (k : Nat → ClassId) (z : Nat → Nat) (o : Nat → Nat) (clawNow : Int32) (charder : Int32) (ctold : Int32) (creply : Int32) (cwet : Int32) (f72 : Nat → Int32) (f69 : Nat → Int32) (f70 : Nat → Int32) (f71 : Nat → Int32) (glines : Int32) (ghours : Nat) (glaw : Int32) (godds : Int32) (grows : Nat) (gheads : Nat) (gsayings : Nat) (gslugs : Nat) (gacts : Nat) (f26 : Nat → Int32) (f30 : Nat → Int32) (f31 : Nat → Int32) (hghours : ghours ≤ 16) (hgrows : grows ≤ 4) (hgheads : gheads ≤ 12) (hgsayings : gsayings ≤ 8) (hgslugs : gslugs ≤ 4) (hgacts : gacts ≤ 30) : MU l yX1_run cX1_run 7 none 3 D k z [.ref (o 5)] [((o 5), .inr (1, [.ref (o 3), .ref (o 4), .int clawNow, .int charder, .int ctold, .int creply, .int cwet, .ref (o 72)])), ((o 72), .inl (k 0, 17, .inl f72)), ((o 4), .inr (3, [.ref (o 69), .ref (o 70), .ref (o 71)])), ((o 69), .inl (k 0, 17, .inl f69)), ((o 70), .inl (k 0, 17, .inl f70)), ((o 71), .inl (k 0, 17, .inl f71)), ((o 3), .inr (2, [.int glines, .int (nI ghours), .int glaw, .int godds, .int (nI grows), .int (nI gheads), .int (nI gsayings), .int (nI gslugs), .int (nI gacts), .ref (o 26), .ref (o 27), .ref (o 28), .ref (o 29), .ref (o 30), .ref (o 31), .ref (o 32), .ref (o 33), .ref (o 34), .ref (o 35)])), ((o 26), .inl (k 0, 12, .inl f26)), ((o 30), .inl (k 0, 12, .inl f30)), ((o 31), .inl (k 0, 12, .inl f31))] 0 0 (Uv D (fun _ : (Nat → Int32) × (Nat → Nat) × (Nat → Nat → Int32) × (Nat → Nat → Int64) × (Nat → Int64) => True) (fun u : (Nat → Int32) × (Nat → Nat) × (Nat → Nat → Int32) × (Nat → Nat → Int64) × (Nat → Int64) => [((o 5), .inr (1, [.ref (o 3), .ref (o 4), .int clawNow, .int charder, .int ctold, .int creply, .int cwet, .ref (o 72)])), ((o 72), .inl (k 0, 17, .inl (u.2.2.1 0))), ((o 4), .inr (3, [.ref (o 69), .ref (o 70), .ref (o 71)])), ((o 69), .inl (k 0, 17, .inl f69)), ((o 70), .inl (k 0, 17, .inl f70)), ((o 71), .inl (k 0, 17, .inl f71)), ((o 3), .inr (2, [.int glines, .int (nI ghours), .int glaw, .int godds, .int (nI grows), .int (nI gheads), .int (nI gsayings), .int (nI gslugs), .int (nI gacts), .ref (o 26), .ref (o 27), .ref (o 28), .ref (o 29), .ref (o 30), .ref (o 31), .ref (o 32), .ref (o 33), .ref (o 34), .ref (o 35)])), ((o 26), .inl (k 0, 12, .inl f26)), ((o 30), .inl (k 0, 12, .inl f30)), ((o 31), .inl (k 0, 12, .inl f31))])) := by
  refine MU.of (by decide) (Nat.le_of_ble_eq_true rfl) ?_
  intro p e s m below meth c ls A args Q S hr hlk hnm hQ hK hP hD hZ hA hS hl
  have hx := S.1
  have hb := S.2.1
  have hl : lv_has ls 7 [(0, .ref (o 5))] := hl
  refine lv_aload_n hx hb dX1_run_0 rfl (lv_at hl 0 rfl) ?_
  refine x_get S hK hP 0 rfl cfX1 1 lkX1_19 (by decide) rfl dX1_run_1 ?_
  refine x_get S hK hP 2 rfl cfX3 0 lkX1_51 (by decide) rfl dX1_run_4 ?_
  refine lv_iconst (v := 0) hx hb dX1_run_7 (by decide) ?_
  refine x_iald S hK hP 3 rfl (vp_lit (by decide)) dX1_run_8 ?_
  refine lv_topi (fun v_1 ev_1 => ?_)
  refine lv_aload_n hx hb dX1_run_9 rfl (lv_at hl 0 rfl) ?_
  refine x_get S hK hP 0 rfl cfX1 4 lkX1_35 (by decide) rfl dX1_run_10 ?_
  refine x_roSNi (As := [.int v_1, .int ctold]) S hK hP hD hZ (fun _ h => h) hA hS hA hl mwX10_heard lkX1_56 (ctX10_heard l D k z v_1 ctold ) [] rfl (by decide) rfl rfl ⟨Nat.le_of_ble_eq_true rfl, Nat.le_of_ble_eq_true rfl, Nat.le_of_ble_eq_true rfl⟩ dX1_run_13 ⟨Nat.le_of_ble_eq_true rfl, Nat.le_of_ble_eq_true rfl⟩ (fun r_2 H locs hr_2 hP hS => ?_)
  refine lv_aload_n hx hb dX1_run_16 rfl (lv_at hl 0 rfl) ?_
  refine x_get S hK hP 0 rfl cfX1 5 lkX1_38 (by decide) rfl dX1_run_17 ?_
  refine x_roSNi (As := [.int r_2, .int creply]) S hK hP hD hZ (fun _ h => h) hA hS hA hl mwX10_heard lkX1_56 (ctX10_heard l D k z r_2 creply ) [] rfl (by decide) rfl rfl ⟨Nat.le_of_ble_eq_true rfl, Nat.le_of_ble_eq_true rfl, Nat.le_of_ble_eq_true rfl⟩ dX1_run_20 ⟨Nat.le_of_ble_eq_true rfl, Nat.le_of_ble_eq_true rfl⟩ (fun r_4 H locs hr_4 hP hS => ?_)
  refine lv_aload_n hx hb dX1_run_23 rfl (lv_at hl 0 rfl) ?_
  refine x_get S hK hP 0 rfl cfX1 1 lkX1_19 (by decide) rfl dX1_run_24 ?_
  refine x_get S hK hP 2 rfl cfX3 1 lkX1_59 (by decide) rfl dX1_run_27 ?_
  refine lv_iconst (v := 0) hx hb dX1_run_30 (by decide) ?_
  refine x_iald S hK hP 4 rfl (vp_lit (by decide)) dX1_run_31 ?_
  refine lv_topi (fun v_6 ev_6 => ?_)
  refine x_roSNi (As := [.int v_6]) S hK hP hD hZ (fun _ h => h) hA hS hA hl mwX10_inBoth lkX1_62 (ctX10_inBoth l D k z v_6 ) [] rfl (by decide) rfl rfl ⟨Nat.le_of_ble_eq_true rfl, Nat.le_of_ble_eq_true rfl, Nat.le_of_ble_eq_true rfl⟩ dX1_run_32 ⟨Nat.le_of_ble_eq_true rfl, Nat.le_of_ble_eq_true rfl⟩ (fun r_7 H locs hr_7 hP hS => ?_)
  refine lv_iconst (v := (-1)) hx hb dX1_run_35 (by decide) ?_
  refine lv_ixor hx hb dX1_run_36 ?_
  refine lv_topi (fun v_9 ev_9 => ?_)
  refine lv_iand hx hb dX1_run_37 ?_
  refine lv_topi (fun v_10 ev_10 => ?_)
  refine lv_istore_n (lv' := [(1, .int v_10), (0, .ref (o 5))]) hx hb dX1_run_38 rfl hl (by decide) rfl (fun ls hl => ?_)
  refine lv_aload_n hx hb dX1_run_39 rfl (lv_at hl 1 rfl) ?_
  refine x_get S hK hP 0 rfl cfX1 7 lkX1_9 (by decide) rfl dX1_run_40 ?_
  refine lv_iconst (v := 0) hx hb dX1_run_43 (by decide) ?_
  refine lv_iload_n hx hb dX1_run_44 rfl (lv_at hl 0 rfl) ?_
  refine x_iast (ws' := fun f_11 => [((o 5), .inr (1, [.ref (o 3), .ref (o 4), .int clawNow, .int charder, .int ctold, .int creply, .int cwet, .ref (o 72)])), ((o 72), .inl (k 0, 17, .inl f_11)), ((o 4), .inr (3, [.ref (o 69), .ref (o 70), .ref (o 71)])), ((o 69), .inl (k 0, 17, .inl f69)), ((o 70), .inl (k 0, 17, .inl f70)), ((o 71), .inl (k 0, 17, .inl f71)), ((o 3), .inr (2, [.int glines, .int (nI ghours), .int glaw, .int godds, .int (nI grows), .int (nI gheads), .int (nI gsayings), .int (nI gslugs), .int (nI gacts), .ref (o 26), .ref (o 27), .ref (o 28), .ref (o 29), .ref (o 30), .ref (o 31), .ref (o 32), .ref (o 33), .ref (o 34), .ref (o 35)])), ((o 26), .inl (k 0, 12, .inl f26)), ((o 30), .inl (k 0, 12, .inl f30)), ((o 31), .inl (k 0, 12, .inl f31))]) S hK hP hD hS 1 rfl (vp_lit (by decide)) (fun _ => rfl) dX1_run_45 (fun f_11 H locs ef_11 hP hD hS => ?_)
  refine lv_iload_n hx hb dX1_run_46 rfl (lv_at hl 0 rfl) ?_
  refine lv_istore_n (lv' := [(2, .int v_10), (1, .int v_10), (0, .ref (o 5))]) hx hb dX1_run_47 rfl hl (by decide) rfl (fun ls hl => ?_)
  refine lv_iconst (v := (-1)) hx hb dX1_run_48 (by decide) ?_
  refine lv_istore_n (lv' := [(3, .int (-1)), (2, .int v_10), (1, .int v_10), (0, .ref (o 5))]) hx hb dX1_run_49 rfl hl (by decide) rfl (fun ls hl => ?_)
  refine lv_iconst (v := 0) hx hb dX1_run_50 (by decide) ?_
  refine lv_istore (lv' := [(4, .int 0), (3, .int (-1)), (2, .int v_10), (1, .int v_10), (0, .ref (o 5))]) hx hb dX1_run_51 hl (by decide) rfl (fun ls hl => ?_)
  have lp_154 : ∀ (nn j_149 : Nat) (x_150 : Int32) (g_151 : Nat → Int32) (x_152 : Int32) (x_153 : Int32) (H : Heap) (locs : List Loc) (ls : Array Slot), j_149 ≤ ghours → ghours - j_149 < nn → va_P D vwCl [((o 5), .inr (1, [.ref (o 3), .ref (o 4), .int clawNow, .int charder, .int ctold, .int creply, .int cwet, .ref (o 72)])), ((o 72), .inl (k 0, 17, .inl g_151)), ((o 4), .inr (3, [.ref (o 69), .ref (o 70), .ref (o 71)])), ((o 69), .inl (k 0, 17, .inl f69)), ((o 70), .inl (k 0, 17, .inl f70)), ((o 71), .inl (k 0, 17, .inl f71)), ((o 3), .inr (2, [.int glines, .int (nI ghours), .int glaw, .int godds, .int (nI grows), .int (nI gheads), .int (nI gsayings), .int (nI gslugs), .int (nI gacts), .ref (o 26), .ref (o 27), .ref (o 28), .ref (o 29), .ref (o 30), .ref (o 31), .ref (o 32), .ref (o 33), .ref (o 34), .ref (o 35)])), ((o 26), .inl (k 0, 12, .inl f26)), ((o 30), .inl (k 0, 12, .inl f30)), ((o 31), .inl (k 0, 12, .inl f31))] H → va_D A [((o 5), .inr (1, [.ref (o 3), .ref (o 4), .int clawNow, .int charder, .int ctold, .int creply, .int cwet, .ref (o 72)])), ((o 72), .inl (k 0, 17, .inl g_151)), ((o 4), .inr (3, [.ref (o 69), .ref (o 70), .ref (o 71)])), ((o 69), .inl (k 0, 17, .inl f69)), ((o 70), .inl (k 0, 17, .inl f70)), ((o 71), .inl (k 0, 17, .inl f71)), ((o 3), .inr (2, [.int glines, .int (nI ghours), .int glaw, .int godds, .int (nI grows), .int (nI gheads), .int (nI gsayings), .int (nI gslugs), .int (nI gacts), .ref (o 26), .ref (o 27), .ref (o 28), .ref (o 29), .ref (o 30), .ref (o 31), .ref (o 32), .ref (o 33), .ref (o 34), .ref (o 35)])), ((o 26), .inl (k 0, 12, .inl f26)), ((o 30), .inl (k 0, 12, .inl f30)), ((o 31), .inl (k 0, 12, .inl f31))] → va_S A s.heap H locs → lv_has ls 7 [(4, .int (nI j_149)), (3, .int x_152), (2, .int x_153), (1, .int x_150), (0, .ref (o 5))] → W p l e (Rm 3 0 0) s m args below meth c H locs 0 0 Q (F0 m 53 ls []) := by
    intro nn
    induction nn with
    | zero => intro j_149 x_150 g_151 x_152 x_153 H locs ls hjj_149 hnj_149; exact absurd hnj_149 (by omega)
    | succ nn ihj_149 =>
      intro j_149 x_150 g_151 x_152 x_153 H locs ls hjj_149 hnj_149 hP hD hS hl
      refine lv_iload hx hb dX1_run_53 (lv_at hl 0 rfl) ?_
      refine lv_aload_n hx hb dX1_run_55 rfl (lv_at hl 4 rfl) ?_
      refine x_get S hK hP 0 rfl cfX1 0 lkX1_15 (by decide) rfl dX1_run_56 ?_
      refine x_get S hK hP 6 rfl cfX2 1 lkX1_66 (by decide) rfl dX1_run_59 ?_
      refine lv_icmp_ge (tgt := 163) hx hb dX1_run_62 (by decide) (fun c_155 => ?_) (fun c_155 => ?_)
      · skip
        have c_155 : ghours ≤ j_149 := (ni_le rfl rfl (by omega) (by omega)).mp c_155
        exact x_retv S hr hlk hQ hS ((fun i => ([] : List (Int32)).getD i 0), (fun i => ([] : List (Nat)).getD i 0), (fun i => ([g_151] : List (Nat → Int32)).getD i (fun _ => 0)), (fun i => ([] : List (Nat → Int64)).getD i (fun _ => 0)), (fun i => ([] : List (Int64)).getD i 0)) trivial (x_B hP hD) dX1_run_163
      · skip
        have c_155 : ¬ ghours ≤ j_149 := fun q => c_155 ((ni_le rfl rfl (by omega) (by omega)).mpr q)
        refine lv_iload hx hb dX1_run_65 (lv_at hl 0 rfl) ?_
        refine lv_bipush (v := 16) hx hb dX1_run_67 (by decide) ?_
        refine lv_icmp_ge (tgt := 163) hx hb dX1_run_69 (by decide) (fun c_156 => ?_) (fun c_156 => ?_)
        · skip
          have c_156 : 16 ≤ j_149 := (ni_le (by decide) rfl (by omega) (by omega)).mp c_156
          exact x_retv S hr hlk hQ hS ((fun i => ([] : List (Int32)).getD i 0), (fun i => ([] : List (Nat)).getD i 0), (fun i => ([g_151] : List (Nat → Int32)).getD i (fun _ => 0)), (fun i => ([] : List (Nat → Int64)).getD i (fun _ => 0)), (fun i => ([] : List (Int64)).getD i 0)) trivial (x_B hP hD) dX1_run_163
        · skip
          have c_156 : ¬ 16 ≤ j_149 := fun q => c_156 ((ni_le (by decide) rfl (by omega) (by omega)).mpr q)
          refine lv_aload_n hx hb dX1_run_72 rfl (lv_at hl 4 rfl) ?_
          refine lv_iload hx hb dX1_run_73 (lv_at hl 0 rfl) ?_
          refine x_roVi (As := [.int (nI j_149)]) S hK hP hD hZ (fun _ h => h) hA hS hA hl mwX1_takersAt lkX1_69 (ctX1_takersAt_c l D k z o clawNow charder ctold creply cwet g_151 f69 f70 f71 glines ghours glaw godds grows gheads gsayings gslugs gacts f26 f30 f31 j_149 (by omega) (by omega) (by omega) (by omega) (by omega) (by omega) (by omega)) [0, 1, 2, 3, 4, 5, 6, 7, 8, 9] rfl (by decide) rfl rfl rfl rfl rfl ⟨Nat.le_of_ble_eq_true rfl, Nat.le_of_ble_eq_true rfl, Nat.le_of_ble_eq_true rfl⟩ dX1_run_75 ⟨Nat.le_of_ble_eq_true rfl, Nat.le_of_ble_eq_true rfl⟩ (fun r_157 H locs hr_157 hP hS => ?_)
          refine lv_istore (lv' := [(5, .int r_157), (4, .int (nI j_149)), (3, .int x_152), (2, .int x_153), (1, .int x_150), (0, .ref (o 5))]) hx hb dX1_run_78 hl (by decide) rfl (fun ls hl => ?_)
          refine lv_iload_n hx hb dX1_run_80 rfl (lv_at hl 4 rfl) ?_
          refine lv_iload_n hx hb dX1_run_81 rfl (lv_at hl 3 rfl) ?_
          refine lv_icmp_ne (tgt := 95) hx hb dX1_run_82 (by decide) (fun c_159 => ?_) (fun c_159 => ?_)
          · skip
            refine lv_iconst (v := 0) hx hb dX1_run_95 (by decide) ?_
            refine lv_istore (lv' := [(6, .int 0), (5, .int r_157), (4, .int (nI j_149)), (3, .int x_152), (2, .int x_153), (1, .int x_150), (0, .ref (o 5))]) hx hb dX1_run_96 hl (by decide) rfl (fun ls hl => ?_)
            refine lv_iload hx hb dX1_run_98 (lv_at hl 0 rfl) ?_
            refine lv_if_ne (tgt := 137) hx hb dX1_run_100 (by decide) (fun c_160 => absurd (by decide) c_160) (fun c_160 => ?_)
            refine lv_aload_n hx hb dX1_run_103 rfl (lv_at hl 6 rfl) ?_
            refine x_get S hK hP 0 rfl cfX1 6 lkX1_41 (by decide) rfl dX1_run_104 ?_
            refine lv_iload hx hb dX1_run_107 (lv_at hl 2 rfl) ?_
            refine lv_iushr hx hb dX1_run_109 rfl ?_
            refine lv_topi (fun v_161 ev_161 => ?_)
            refine lv_iconst (v := 1) hx hb dX1_run_110 (by decide) ?_
            refine lv_iand hx hb dX1_run_111 ?_
            refine lv_topi (fun v_162 ev_162 => ?_)
            refine lv_if_ne (tgt := 137) hx hb dX1_run_112 (by decide) (fun c_163 => ?_) (fun c_163 => ?_)
            · skip
              refine lv_aload_n hx hb dX1_run_137 rfl (lv_at hl 6 rfl) ?_
              refine lv_iload hx hb dX1_run_138 (lv_at hl 2 rfl) ?_
              refine lv_iconst (v := 1) hx hb dX1_run_140 (by decide) ?_
              refine lv_iadd hx hb dX1_run_141 ?_
              refine x_is (nI (j_149 + 1)) (ni_add rfl (by decide)) ?_
              refine lv_iload_n hx hb dX1_run_142 rfl (lv_at hl 5 rfl) ?_
              refine x_roVi (As := [.int (nI (j_149 + 1)), .int x_150]) S hK hP hD hZ (fun _ h => h) hA hS hA hl mwX1_arrive lkX1_75 (ctX1_arrive_c l D k z o clawNow charder ctold creply cwet g_151 f69 f70 f71 glines ghours glaw godds grows gheads gsayings gslugs gacts f26 f30 f31 (j_149 + 1) x_150 (by omega) (by omega) (by omega) (by omega) (by omega) (by omega) (by omega)) [0, 1, 2, 3, 4, 5, 6, 7, 8, 9] rfl (by decide) rfl rfl rfl rfl rfl ⟨Nat.le_of_ble_eq_true rfl, Nat.le_of_ble_eq_true rfl, Nat.le_of_ble_eq_true rfl⟩ dX1_run_143 ⟨Nat.le_of_ble_eq_true rfl, Nat.le_of_ble_eq_true rfl⟩ (fun r_164 H locs hr_164 hP hS => ?_)
              refine lv_istore_n (lv' := [(1, .int r_164), (6, .int 0), (5, .int r_157), (4, .int (nI j_149)), (3, .int x_152), (2, .int x_153), (0, .ref (o 5))]) hx hb dX1_run_146 rfl hl (by decide) rfl (fun ls hl => ?_)
              refine lv_aload_n hx hb dX1_run_147 rfl (lv_at hl 6 rfl) ?_
              refine x_get S hK hP 0 rfl cfX1 7 lkX1_9 (by decide) rfl dX1_run_148 ?_
              refine lv_iload hx hb dX1_run_151 (lv_at hl 3 rfl) ?_
              refine lv_iconst (v := 1) hx hb dX1_run_153 (by decide) ?_
              refine lv_iadd hx hb dX1_run_154 ?_
              refine x_is (nI (j_149 + 1)) (ni_add rfl (by decide)) ?_
              refine lv_iload_n hx hb dX1_run_155 rfl (lv_at hl 0 rfl) ?_
              refine x_iast (ws' := fun f_166 => [((o 5), .inr (1, [.ref (o 3), .ref (o 4), .int clawNow, .int charder, .int ctold, .int creply, .int cwet, .ref (o 72)])), ((o 72), .inl (k 0, 17, .inl f_166)), ((o 4), .inr (3, [.ref (o 69), .ref (o 70), .ref (o 71)])), ((o 69), .inl (k 0, 17, .inl f69)), ((o 70), .inl (k 0, 17, .inl f70)), ((o 71), .inl (k 0, 17, .inl f71)), ((o 3), .inr (2, [.int glines, .int (nI ghours), .int glaw, .int godds, .int (nI grows), .int (nI gheads), .int (nI gsayings), .int (nI gslugs), .int (nI gacts), .ref (o 26), .ref (o 27), .ref (o 28), .ref (o 29), .ref (o 30), .ref (o 31), .ref (o 32), .ref (o 33), .ref (o 34), .ref (o 35)])), ((o 26), .inl (k 0, 12, .inl f26)), ((o 30), .inl (k 0, 12, .inl f30)), ((o 31), .inl (k 0, 12, .inl f31))]) S hK hP hD hS 1 rfl (vp_in_nI (by omega) (by decide)) (fun _ => rfl) dX1_run_156 (fun f_166 H locs ef_166 hP hD hS => ?_)
              refine lv_iinc (v := (nI (j_149 + 1))) (lv' := [(4, .int (nI (j_149 + 1))), (1, .int r_164), (6, .int 0), (5, .int r_157), (3, .int x_152), (2, .int x_153), (0, .ref (o 5))]) hx hb dX1_run_157 hl (k := 3) rfl (ni_inc _) (by decide) rfl (fun ls hl => ?_)
              refine lv_goto (tgt := 53) hx hb dX1_run_160 (by decide) ?_
              exact ihj_149 (j_149 + 1) r_164 f_166 x_152 x_153 _ _ _ (by omega) (by omega) hP hD hS (lv_sub hl [0, 4, 5, 1, 6] rfl)
            · skip
              refine lv_iload_n hx hb dX1_run_115 rfl (lv_at hl 5 rfl) ?_
              refine lv_istore_n (lv' := [(2, .int x_150), (6, .int 0), (5, .int r_157), (4, .int (nI j_149)), (3, .int x_152), (1, .int x_150), (0, .ref (o 5))]) hx hb dX1_run_116 rfl hl (by decide) rfl (fun ls hl => ?_)
              refine lv_aload_n hx hb dX1_run_117 rfl (lv_at hl 6 rfl) ?_
              refine lv_iload hx hb dX1_run_118 (lv_at hl 2 rfl) ?_
              refine lv_iload_n hx hb dX1_run_120 rfl (lv_at hl 5 rfl) ?_
              refine x_roVi (As := [.int r_157, .int x_150]) S hK hP hD hZ (fun _ h => h) hA hS hA hl mwX1_passTo lkX1_72 (ctX1_passTo_c l D k z o clawNow charder ctold creply cwet g_151 f69 f70 f71 glines ghours glaw godds grows gheads gsayings gslugs gacts f26 f30 f31 r_157 x_150 (by omega) (by omega) (by omega) (by omega) (by omega) (by omega)) [0, 1, 2, 3, 4, 5, 6, 7, 8, 9] rfl (by decide) rfl rfl rfl rfl rfl ⟨Nat.le_of_ble_eq_true rfl, Nat.le_of_ble_eq_true rfl, Nat.le_of_ble_eq_true rfl⟩ dX1_run_121 ⟨Nat.le_of_ble_eq_true rfl, Nat.le_of_ble_eq_true rfl⟩ (fun r_167 H locs hr_167 hP hS => ?_)
              refine lv_istore_n (lv' := [(1, .int r_167), (2, .int x_150), (6, .int 0), (5, .int r_157), (4, .int (nI j_149)), (3, .int x_152), (0, .ref (o 5))]) hx hb dX1_run_124 rfl hl (by decide) rfl (fun ls hl => ?_)
              refine lv_iload_n hx hb dX1_run_125 rfl (lv_at hl 0 rfl) ?_
              refine lv_iload_n hx hb dX1_run_126 rfl (lv_at hl 1 rfl) ?_
              refine lv_icmp_ne (tgt := 135) hx hb dX1_run_127 (by decide) (fun c_169 => ?_) (fun c_169 => ?_)
              · skip
                refine lv_iconst (v := (-1)) hx hb dX1_run_135 (by decide) ?_
                refine lv_istore_n (lv' := [(3, .int (-1)), (1, .int r_167), (2, .int x_150), (6, .int 0), (5, .int r_157), (4, .int (nI j_149)), (0, .ref (o 5))]) hx hb dX1_run_136 rfl hl (by decide) rfl (fun ls hl => ?_)
                refine lv_aload_n hx hb dX1_run_137 rfl (lv_at hl 6 rfl) ?_
                refine lv_iload hx hb dX1_run_138 (lv_at hl 5 rfl) ?_
                refine lv_iconst (v := 1) hx hb dX1_run_140 (by decide) ?_
                refine lv_iadd hx hb dX1_run_141 ?_
                refine x_is (nI (j_149 + 1)) (ni_add rfl (by decide)) ?_
                refine lv_iload_n hx hb dX1_run_142 rfl (lv_at hl 1 rfl) ?_
                refine x_roVi (As := [.int (nI (j_149 + 1)), .int r_167]) S hK hP hD hZ (fun _ h => h) hA hS hA hl mwX1_arrive lkX1_75 (ctX1_arrive_c l D k z o clawNow charder ctold creply cwet g_151 f69 f70 f71 glines ghours glaw godds grows gheads gsayings gslugs gacts f26 f30 f31 (j_149 + 1) r_167 (by omega) (by omega) (by omega) (by omega) (by omega) (by omega) (by omega)) [0, 1, 2, 3, 4, 5, 6, 7, 8, 9] rfl (by decide) rfl rfl rfl rfl rfl ⟨Nat.le_of_ble_eq_true rfl, Nat.le_of_ble_eq_true rfl, Nat.le_of_ble_eq_true rfl⟩ dX1_run_143 ⟨Nat.le_of_ble_eq_true rfl, Nat.le_of_ble_eq_true rfl⟩ (fun r_170 H locs hr_170 hP hS => ?_)
                refine lv_istore_n (lv' := [(1, .int r_170), (3, .int (-1)), (2, .int x_150), (6, .int 0), (5, .int r_157), (4, .int (nI j_149)), (0, .ref (o 5))]) hx hb dX1_run_146 rfl hl (by decide) rfl (fun ls hl => ?_)
                refine lv_aload_n hx hb dX1_run_147 rfl (lv_at hl 6 rfl) ?_
                refine x_get S hK hP 0 rfl cfX1 7 lkX1_9 (by decide) rfl dX1_run_148 ?_
                refine lv_iload hx hb dX1_run_151 (lv_at hl 5 rfl) ?_
                refine lv_iconst (v := 1) hx hb dX1_run_153 (by decide) ?_
                refine lv_iadd hx hb dX1_run_154 ?_
                refine x_is (nI (j_149 + 1)) (ni_add rfl (by decide)) ?_
                refine lv_iload_n hx hb dX1_run_155 rfl (lv_at hl 0 rfl) ?_
                refine x_iast (ws' := fun f_172 => [((o 5), .inr (1, [.ref (o 3), .ref (o 4), .int clawNow, .int charder, .int ctold, .int creply, .int cwet, .ref (o 72)])), ((o 72), .inl (k 0, 17, .inl f_172)), ((o 4), .inr (3, [.ref (o 69), .ref (o 70), .ref (o 71)])), ((o 69), .inl (k 0, 17, .inl f69)), ((o 70), .inl (k 0, 17, .inl f70)), ((o 71), .inl (k 0, 17, .inl f71)), ((o 3), .inr (2, [.int glines, .int (nI ghours), .int glaw, .int godds, .int (nI grows), .int (nI gheads), .int (nI gsayings), .int (nI gslugs), .int (nI gacts), .ref (o 26), .ref (o 27), .ref (o 28), .ref (o 29), .ref (o 30), .ref (o 31), .ref (o 32), .ref (o 33), .ref (o 34), .ref (o 35)])), ((o 26), .inl (k 0, 12, .inl f26)), ((o 30), .inl (k 0, 12, .inl f30)), ((o 31), .inl (k 0, 12, .inl f31))]) S hK hP hD hS 1 rfl (vp_in_nI (by omega) (by decide)) (fun _ => rfl) dX1_run_156 (fun f_172 H locs ef_172 hP hD hS => ?_)
                refine lv_iinc (v := (nI (j_149 + 1))) (lv' := [(4, .int (nI (j_149 + 1))), (1, .int r_170), (3, .int (-1)), (2, .int x_150), (6, .int 0), (5, .int r_157), (0, .ref (o 5))]) hx hb dX1_run_157 hl (k := 5) rfl (ni_inc _) (by decide) rfl (fun ls hl => ?_)
                refine lv_goto (tgt := 53) hx hb dX1_run_160 (by decide) ?_
                exact ihj_149 (j_149 + 1) r_170 f_172 (-1) x_150 _ _ _ (by omega) (by omega) hP hD hS (lv_sub hl [0, 2, 3, 1, 6] rfl)
              · skip
                refine lv_iload hx hb dX1_run_130 (lv_at hl 3 rfl) ?_
                refine lv_goto (tgt := 136) hx hb dX1_run_132 (by decide) ?_
                refine lv_istore_n (lv' := [(3, .int r_157), (1, .int r_167), (2, .int x_150), (6, .int 0), (5, .int r_157), (4, .int (nI j_149)), (0, .ref (o 5))]) hx hb dX1_run_136 rfl hl (by decide) rfl (fun ls hl => ?_)
                refine lv_aload_n hx hb dX1_run_137 rfl (lv_at hl 6 rfl) ?_
                refine lv_iload hx hb dX1_run_138 (lv_at hl 5 rfl) ?_
                refine lv_iconst (v := 1) hx hb dX1_run_140 (by decide) ?_
                refine lv_iadd hx hb dX1_run_141 ?_
                refine x_is (nI (j_149 + 1)) (ni_add rfl (by decide)) ?_
                refine lv_iload_n hx hb dX1_run_142 rfl (lv_at hl 1 rfl) ?_
                refine x_roVi (As := [.int (nI (j_149 + 1)), .int r_167]) S hK hP hD hZ (fun _ h => h) hA hS hA hl mwX1_arrive lkX1_75 (ctX1_arrive_c l D k z o clawNow charder ctold creply cwet g_151 f69 f70 f71 glines ghours glaw godds grows gheads gsayings gslugs gacts f26 f30 f31 (j_149 + 1) r_167 (by omega) (by omega) (by omega) (by omega) (by omega) (by omega) (by omega)) [0, 1, 2, 3, 4, 5, 6, 7, 8, 9] rfl (by decide) rfl rfl rfl rfl rfl ⟨Nat.le_of_ble_eq_true rfl, Nat.le_of_ble_eq_true rfl, Nat.le_of_ble_eq_true rfl⟩ dX1_run_143 ⟨Nat.le_of_ble_eq_true rfl, Nat.le_of_ble_eq_true rfl⟩ (fun r_173 H locs hr_173 hP hS => ?_)
                refine lv_istore_n (lv' := [(1, .int r_173), (3, .int r_157), (2, .int x_150), (6, .int 0), (5, .int r_157), (4, .int (nI j_149)), (0, .ref (o 5))]) hx hb dX1_run_146 rfl hl (by decide) rfl (fun ls hl => ?_)
                refine lv_aload_n hx hb dX1_run_147 rfl (lv_at hl 6 rfl) ?_
                refine x_get S hK hP 0 rfl cfX1 7 lkX1_9 (by decide) rfl dX1_run_148 ?_
                refine lv_iload hx hb dX1_run_151 (lv_at hl 5 rfl) ?_
                refine lv_iconst (v := 1) hx hb dX1_run_153 (by decide) ?_
                refine lv_iadd hx hb dX1_run_154 ?_
                refine x_is (nI (j_149 + 1)) (ni_add rfl (by decide)) ?_
                refine lv_iload_n hx hb dX1_run_155 rfl (lv_at hl 0 rfl) ?_
                refine x_iast (ws' := fun f_175 => [((o 5), .inr (1, [.ref (o 3), .ref (o 4), .int clawNow, .int charder, .int ctold, .int creply, .int cwet, .ref (o 72)])), ((o 72), .inl (k 0, 17, .inl f_175)), ((o 4), .inr (3, [.ref (o 69), .ref (o 70), .ref (o 71)])), ((o 69), .inl (k 0, 17, .inl f69)), ((o 70), .inl (k 0, 17, .inl f70)), ((o 71), .inl (k 0, 17, .inl f71)), ((o 3), .inr (2, [.int glines, .int (nI ghours), .int glaw, .int godds, .int (nI grows), .int (nI gheads), .int (nI gsayings), .int (nI gslugs), .int (nI gacts), .ref (o 26), .ref (o 27), .ref (o 28), .ref (o 29), .ref (o 30), .ref (o 31), .ref (o 32), .ref (o 33), .ref (o 34), .ref (o 35)])), ((o 26), .inl (k 0, 12, .inl f26)), ((o 30), .inl (k 0, 12, .inl f30)), ((o 31), .inl (k 0, 12, .inl f31))]) S hK hP hD hS 1 rfl (vp_in_nI (by omega) (by decide)) (fun _ => rfl) dX1_run_156 (fun f_175 H locs ef_175 hP hD hS => ?_)
                refine lv_iinc (v := (nI (j_149 + 1))) (lv' := [(4, .int (nI (j_149 + 1))), (1, .int r_173), (3, .int r_157), (2, .int x_150), (6, .int 0), (5, .int r_157), (0, .ref (o 5))]) hx hb dX1_run_157 hl (k := 5) rfl (ni_inc _) (by decide) rfl (fun ls hl => ?_)
                refine lv_goto (tgt := 53) hx hb dX1_run_160 (by decide) ?_
                exact ihj_149 (j_149 + 1) r_173 f_175 r_157 x_150 _ _ _ (by omega) (by omega) hP hD hS (lv_sub hl [0, 2, 3, 1, 6] rfl)
          · skip
            refine lv_iload hx hb dX1_run_85 (lv_at hl 0 rfl) ?_
            refine lv_iload_n hx hb dX1_run_87 rfl (lv_at hl 2 rfl) ?_
            refine lv_icmp_ne (tgt := 95) hx hb dX1_run_88 (by decide) (fun c_176 => ?_) (fun c_176 => ?_)
            · skip
              refine lv_iconst (v := 0) hx hb dX1_run_95 (by decide) ?_
              refine lv_istore (lv' := [(6, .int 0), (5, .int r_157), (4, .int (nI j_149)), (3, .int x_152), (2, .int x_153), (1, .int x_150), (0, .ref (o 5))]) hx hb dX1_run_96 hl (by decide) rfl (fun ls hl => ?_)
              refine lv_iload hx hb dX1_run_98 (lv_at hl 0 rfl) ?_
              refine lv_if_ne (tgt := 137) hx hb dX1_run_100 (by decide) (fun c_177 => absurd (by decide) c_177) (fun c_177 => ?_)
              refine lv_aload_n hx hb dX1_run_103 rfl (lv_at hl 6 rfl) ?_
              refine x_get S hK hP 0 rfl cfX1 6 lkX1_41 (by decide) rfl dX1_run_104 ?_
              refine lv_iload hx hb dX1_run_107 (lv_at hl 2 rfl) ?_
              refine lv_iushr hx hb dX1_run_109 rfl ?_
              refine lv_topi (fun v_178 ev_178 => ?_)
              refine lv_iconst (v := 1) hx hb dX1_run_110 (by decide) ?_
              refine lv_iand hx hb dX1_run_111 ?_
              refine lv_topi (fun v_179 ev_179 => ?_)
              refine lv_if_ne (tgt := 137) hx hb dX1_run_112 (by decide) (fun c_180 => ?_) (fun c_180 => ?_)
              · skip
                refine lv_aload_n hx hb dX1_run_137 rfl (lv_at hl 6 rfl) ?_
                refine lv_iload hx hb dX1_run_138 (lv_at hl 2 rfl) ?_
                refine lv_iconst (v := 1) hx hb dX1_run_140 (by decide) ?_
                refine lv_iadd hx hb dX1_run_141 ?_
                refine x_is (nI (j_149 + 1)) (ni_add rfl (by decide)) ?_
                refine lv_iload_n hx hb dX1_run_142 rfl (lv_at hl 5 rfl) ?_
                refine x_roVi (As := [.int (nI (j_149 + 1)), .int x_150]) S hK hP hD hZ (fun _ h => h) hA hS hA hl mwX1_arrive lkX1_75 (ctX1_arrive_c l D k z o clawNow charder ctold creply cwet g_151 f69 f70 f71 glines ghours glaw godds grows gheads gsayings gslugs gacts f26 f30 f31 (j_149 + 1) x_150 (by omega) (by omega) (by omega) (by omega) (by omega) (by omega) (by omega)) [0, 1, 2, 3, 4, 5, 6, 7, 8, 9] rfl (by decide) rfl rfl rfl rfl rfl ⟨Nat.le_of_ble_eq_true rfl, Nat.le_of_ble_eq_true rfl, Nat.le_of_ble_eq_true rfl⟩ dX1_run_143 ⟨Nat.le_of_ble_eq_true rfl, Nat.le_of_ble_eq_true rfl⟩ (fun r_181 H locs hr_181 hP hS => ?_)
                refine lv_istore_n (lv' := [(1, .int r_181), (6, .int 0), (5, .int r_157), (4, .int (nI j_149)), (3, .int x_152), (2, .int x_153), (0, .ref (o 5))]) hx hb dX1_run_146 rfl hl (by decide) rfl (fun ls hl => ?_)
                refine lv_aload_n hx hb dX1_run_147 rfl (lv_at hl 6 rfl) ?_
                refine x_get S hK hP 0 rfl cfX1 7 lkX1_9 (by decide) rfl dX1_run_148 ?_
                refine lv_iload hx hb dX1_run_151 (lv_at hl 3 rfl) ?_
                refine lv_iconst (v := 1) hx hb dX1_run_153 (by decide) ?_
                refine lv_iadd hx hb dX1_run_154 ?_
                refine x_is (nI (j_149 + 1)) (ni_add rfl (by decide)) ?_
                refine lv_iload_n hx hb dX1_run_155 rfl (lv_at hl 0 rfl) ?_
                refine x_iast (ws' := fun f_183 => [((o 5), .inr (1, [.ref (o 3), .ref (o 4), .int clawNow, .int charder, .int ctold, .int creply, .int cwet, .ref (o 72)])), ((o 72), .inl (k 0, 17, .inl f_183)), ((o 4), .inr (3, [.ref (o 69), .ref (o 70), .ref (o 71)])), ((o 69), .inl (k 0, 17, .inl f69)), ((o 70), .inl (k 0, 17, .inl f70)), ((o 71), .inl (k 0, 17, .inl f71)), ((o 3), .inr (2, [.int glines, .int (nI ghours), .int glaw, .int godds, .int (nI grows), .int (nI gheads), .int (nI gsayings), .int (nI gslugs), .int (nI gacts), .ref (o 26), .ref (o 27), .ref (o 28), .ref (o 29), .ref (o 30), .ref (o 31), .ref (o 32), .ref (o 33), .ref (o 34), .ref (o 35)])), ((o 26), .inl (k 0, 12, .inl f26)), ((o 30), .inl (k 0, 12, .inl f30)), ((o 31), .inl (k 0, 12, .inl f31))]) S hK hP hD hS 1 rfl (vp_in_nI (by omega) (by decide)) (fun _ => rfl) dX1_run_156 (fun f_183 H locs ef_183 hP hD hS => ?_)
                refine lv_iinc (v := (nI (j_149 + 1))) (lv' := [(4, .int (nI (j_149 + 1))), (1, .int r_181), (6, .int 0), (5, .int r_157), (3, .int x_152), (2, .int x_153), (0, .ref (o 5))]) hx hb dX1_run_157 hl (k := 3) rfl (ni_inc _) (by decide) rfl (fun ls hl => ?_)
                refine lv_goto (tgt := 53) hx hb dX1_run_160 (by decide) ?_
                exact ihj_149 (j_149 + 1) r_181 f_183 x_152 x_153 _ _ _ (by omega) (by omega) hP hD hS (lv_sub hl [0, 4, 5, 1, 6] rfl)
              · skip
                refine lv_iload_n hx hb dX1_run_115 rfl (lv_at hl 5 rfl) ?_
                refine lv_istore_n (lv' := [(2, .int x_150), (6, .int 0), (5, .int r_157), (4, .int (nI j_149)), (3, .int x_152), (1, .int x_150), (0, .ref (o 5))]) hx hb dX1_run_116 rfl hl (by decide) rfl (fun ls hl => ?_)
                refine lv_aload_n hx hb dX1_run_117 rfl (lv_at hl 6 rfl) ?_
                refine lv_iload hx hb dX1_run_118 (lv_at hl 2 rfl) ?_
                refine lv_iload_n hx hb dX1_run_120 rfl (lv_at hl 5 rfl) ?_
                refine x_roVi (As := [.int r_157, .int x_150]) S hK hP hD hZ (fun _ h => h) hA hS hA hl mwX1_passTo lkX1_72 (ctX1_passTo_c l D k z o clawNow charder ctold creply cwet g_151 f69 f70 f71 glines ghours glaw godds grows gheads gsayings gslugs gacts f26 f30 f31 r_157 x_150 (by omega) (by omega) (by omega) (by omega) (by omega) (by omega)) [0, 1, 2, 3, 4, 5, 6, 7, 8, 9] rfl (by decide) rfl rfl rfl rfl rfl ⟨Nat.le_of_ble_eq_true rfl, Nat.le_of_ble_eq_true rfl, Nat.le_of_ble_eq_true rfl⟩ dX1_run_121 ⟨Nat.le_of_ble_eq_true rfl, Nat.le_of_ble_eq_true rfl⟩ (fun r_184 H locs hr_184 hP hS => ?_)
                refine lv_istore_n (lv' := [(1, .int r_184), (2, .int x_150), (6, .int 0), (5, .int r_157), (4, .int (nI j_149)), (3, .int x_152), (0, .ref (o 5))]) hx hb dX1_run_124 rfl hl (by decide) rfl (fun ls hl => ?_)
                refine lv_iload_n hx hb dX1_run_125 rfl (lv_at hl 0 rfl) ?_
                refine lv_iload_n hx hb dX1_run_126 rfl (lv_at hl 1 rfl) ?_
                refine lv_icmp_ne (tgt := 135) hx hb dX1_run_127 (by decide) (fun c_186 => ?_) (fun c_186 => ?_)
                · skip
                  refine lv_iconst (v := (-1)) hx hb dX1_run_135 (by decide) ?_
                  refine lv_istore_n (lv' := [(3, .int (-1)), (1, .int r_184), (2, .int x_150), (6, .int 0), (5, .int r_157), (4, .int (nI j_149)), (0, .ref (o 5))]) hx hb dX1_run_136 rfl hl (by decide) rfl (fun ls hl => ?_)
                  refine lv_aload_n hx hb dX1_run_137 rfl (lv_at hl 6 rfl) ?_
                  refine lv_iload hx hb dX1_run_138 (lv_at hl 5 rfl) ?_
                  refine lv_iconst (v := 1) hx hb dX1_run_140 (by decide) ?_
                  refine lv_iadd hx hb dX1_run_141 ?_
                  refine x_is (nI (j_149 + 1)) (ni_add rfl (by decide)) ?_
                  refine lv_iload_n hx hb dX1_run_142 rfl (lv_at hl 1 rfl) ?_
                  refine x_roVi (As := [.int (nI (j_149 + 1)), .int r_184]) S hK hP hD hZ (fun _ h => h) hA hS hA hl mwX1_arrive lkX1_75 (ctX1_arrive_c l D k z o clawNow charder ctold creply cwet g_151 f69 f70 f71 glines ghours glaw godds grows gheads gsayings gslugs gacts f26 f30 f31 (j_149 + 1) r_184 (by omega) (by omega) (by omega) (by omega) (by omega) (by omega) (by omega)) [0, 1, 2, 3, 4, 5, 6, 7, 8, 9] rfl (by decide) rfl rfl rfl rfl rfl ⟨Nat.le_of_ble_eq_true rfl, Nat.le_of_ble_eq_true rfl, Nat.le_of_ble_eq_true rfl⟩ dX1_run_143 ⟨Nat.le_of_ble_eq_true rfl, Nat.le_of_ble_eq_true rfl⟩ (fun r_187 H locs hr_187 hP hS => ?_)
                  refine lv_istore_n (lv' := [(1, .int r_187), (3, .int (-1)), (2, .int x_150), (6, .int 0), (5, .int r_157), (4, .int (nI j_149)), (0, .ref (o 5))]) hx hb dX1_run_146 rfl hl (by decide) rfl (fun ls hl => ?_)
                  refine lv_aload_n hx hb dX1_run_147 rfl (lv_at hl 6 rfl) ?_
                  refine x_get S hK hP 0 rfl cfX1 7 lkX1_9 (by decide) rfl dX1_run_148 ?_
                  refine lv_iload hx hb dX1_run_151 (lv_at hl 5 rfl) ?_
                  refine lv_iconst (v := 1) hx hb dX1_run_153 (by decide) ?_
                  refine lv_iadd hx hb dX1_run_154 ?_
                  refine x_is (nI (j_149 + 1)) (ni_add rfl (by decide)) ?_
                  refine lv_iload_n hx hb dX1_run_155 rfl (lv_at hl 0 rfl) ?_
                  refine x_iast (ws' := fun f_189 => [((o 5), .inr (1, [.ref (o 3), .ref (o 4), .int clawNow, .int charder, .int ctold, .int creply, .int cwet, .ref (o 72)])), ((o 72), .inl (k 0, 17, .inl f_189)), ((o 4), .inr (3, [.ref (o 69), .ref (o 70), .ref (o 71)])), ((o 69), .inl (k 0, 17, .inl f69)), ((o 70), .inl (k 0, 17, .inl f70)), ((o 71), .inl (k 0, 17, .inl f71)), ((o 3), .inr (2, [.int glines, .int (nI ghours), .int glaw, .int godds, .int (nI grows), .int (nI gheads), .int (nI gsayings), .int (nI gslugs), .int (nI gacts), .ref (o 26), .ref (o 27), .ref (o 28), .ref (o 29), .ref (o 30), .ref (o 31), .ref (o 32), .ref (o 33), .ref (o 34), .ref (o 35)])), ((o 26), .inl (k 0, 12, .inl f26)), ((o 30), .inl (k 0, 12, .inl f30)), ((o 31), .inl (k 0, 12, .inl f31))]) S hK hP hD hS 1 rfl (vp_in_nI (by omega) (by decide)) (fun _ => rfl) dX1_run_156 (fun f_189 H locs ef_189 hP hD hS => ?_)
                  refine lv_iinc (v := (nI (j_149 + 1))) (lv' := [(4, .int (nI (j_149 + 1))), (1, .int r_187), (3, .int (-1)), (2, .int x_150), (6, .int 0), (5, .int r_157), (0, .ref (o 5))]) hx hb dX1_run_157 hl (k := 5) rfl (ni_inc _) (by decide) rfl (fun ls hl => ?_)
                  refine lv_goto (tgt := 53) hx hb dX1_run_160 (by decide) ?_
                  exact ihj_149 (j_149 + 1) r_187 f_189 (-1) x_150 _ _ _ (by omega) (by omega) hP hD hS (lv_sub hl [0, 2, 3, 1, 6] rfl)
                · skip
                  refine lv_iload hx hb dX1_run_130 (lv_at hl 3 rfl) ?_
                  refine lv_goto (tgt := 136) hx hb dX1_run_132 (by decide) ?_
                  refine lv_istore_n (lv' := [(3, .int r_157), (1, .int r_184), (2, .int x_150), (6, .int 0), (5, .int r_157), (4, .int (nI j_149)), (0, .ref (o 5))]) hx hb dX1_run_136 rfl hl (by decide) rfl (fun ls hl => ?_)
                  refine lv_aload_n hx hb dX1_run_137 rfl (lv_at hl 6 rfl) ?_
                  refine lv_iload hx hb dX1_run_138 (lv_at hl 5 rfl) ?_
                  refine lv_iconst (v := 1) hx hb dX1_run_140 (by decide) ?_
                  refine lv_iadd hx hb dX1_run_141 ?_
                  refine x_is (nI (j_149 + 1)) (ni_add rfl (by decide)) ?_
                  refine lv_iload_n hx hb dX1_run_142 rfl (lv_at hl 1 rfl) ?_
                  refine x_roVi (As := [.int (nI (j_149 + 1)), .int r_184]) S hK hP hD hZ (fun _ h => h) hA hS hA hl mwX1_arrive lkX1_75 (ctX1_arrive_c l D k z o clawNow charder ctold creply cwet g_151 f69 f70 f71 glines ghours glaw godds grows gheads gsayings gslugs gacts f26 f30 f31 (j_149 + 1) r_184 (by omega) (by omega) (by omega) (by omega) (by omega) (by omega) (by omega)) [0, 1, 2, 3, 4, 5, 6, 7, 8, 9] rfl (by decide) rfl rfl rfl rfl rfl ⟨Nat.le_of_ble_eq_true rfl, Nat.le_of_ble_eq_true rfl, Nat.le_of_ble_eq_true rfl⟩ dX1_run_143 ⟨Nat.le_of_ble_eq_true rfl, Nat.le_of_ble_eq_true rfl⟩ (fun r_190 H locs hr_190 hP hS => ?_)
                  refine lv_istore_n (lv' := [(1, .int r_190), (3, .int r_157), (2, .int x_150), (6, .int 0), (5, .int r_157), (4, .int (nI j_149)), (0, .ref (o 5))]) hx hb dX1_run_146 rfl hl (by decide) rfl (fun ls hl => ?_)
                  refine lv_aload_n hx hb dX1_run_147 rfl (lv_at hl 6 rfl) ?_
                  refine x_get S hK hP 0 rfl cfX1 7 lkX1_9 (by decide) rfl dX1_run_148 ?_
                  refine lv_iload hx hb dX1_run_151 (lv_at hl 5 rfl) ?_
                  refine lv_iconst (v := 1) hx hb dX1_run_153 (by decide) ?_
                  refine lv_iadd hx hb dX1_run_154 ?_
                  refine x_is (nI (j_149 + 1)) (ni_add rfl (by decide)) ?_
                  refine lv_iload_n hx hb dX1_run_155 rfl (lv_at hl 0 rfl) ?_
                  refine x_iast (ws' := fun f_192 => [((o 5), .inr (1, [.ref (o 3), .ref (o 4), .int clawNow, .int charder, .int ctold, .int creply, .int cwet, .ref (o 72)])), ((o 72), .inl (k 0, 17, .inl f_192)), ((o 4), .inr (3, [.ref (o 69), .ref (o 70), .ref (o 71)])), ((o 69), .inl (k 0, 17, .inl f69)), ((o 70), .inl (k 0, 17, .inl f70)), ((o 71), .inl (k 0, 17, .inl f71)), ((o 3), .inr (2, [.int glines, .int (nI ghours), .int glaw, .int godds, .int (nI grows), .int (nI gheads), .int (nI gsayings), .int (nI gslugs), .int (nI gacts), .ref (o 26), .ref (o 27), .ref (o 28), .ref (o 29), .ref (o 30), .ref (o 31), .ref (o 32), .ref (o 33), .ref (o 34), .ref (o 35)])), ((o 26), .inl (k 0, 12, .inl f26)), ((o 30), .inl (k 0, 12, .inl f30)), ((o 31), .inl (k 0, 12, .inl f31))]) S hK hP hD hS 1 rfl (vp_in_nI (by omega) (by decide)) (fun _ => rfl) dX1_run_156 (fun f_192 H locs ef_192 hP hD hS => ?_)
                  refine lv_iinc (v := (nI (j_149 + 1))) (lv' := [(4, .int (nI (j_149 + 1))), (1, .int r_190), (3, .int r_157), (2, .int x_150), (6, .int 0), (5, .int r_157), (0, .ref (o 5))]) hx hb dX1_run_157 hl (k := 5) rfl (ni_inc _) (by decide) rfl (fun ls hl => ?_)
                  refine lv_goto (tgt := 53) hx hb dX1_run_160 (by decide) ?_
                  exact ihj_149 (j_149 + 1) r_190 f_192 r_157 x_150 _ _ _ (by omega) (by omega) hP hD hS (lv_sub hl [0, 2, 3, 1, 6] rfl)
            · skip
              refine lv_iconst (v := 1) hx hb dX1_run_91 (by decide) ?_
              refine lv_goto (tgt := 96) hx hb dX1_run_92 (by decide) ?_
              refine lv_istore (lv' := [(6, .int 1), (5, .int r_157), (4, .int (nI j_149)), (3, .int x_152), (2, .int x_153), (1, .int x_150), (0, .ref (o 5))]) hx hb dX1_run_96 hl (by decide) rfl (fun ls hl => ?_)
              refine lv_iload hx hb dX1_run_98 (lv_at hl 0 rfl) ?_
              refine lv_if_ne (tgt := 137) hx hb dX1_run_100 (by decide) (fun c_193 => ?_) (fun c_193 => absurd c_193 (by decide))
              refine lv_aload_n hx hb dX1_run_137 rfl (lv_at hl 6 rfl) ?_
              refine lv_iload hx hb dX1_run_138 (lv_at hl 2 rfl) ?_
              refine lv_iconst (v := 1) hx hb dX1_run_140 (by decide) ?_
              refine lv_iadd hx hb dX1_run_141 ?_
              refine x_is (nI (j_149 + 1)) (ni_add rfl (by decide)) ?_
              refine lv_iload_n hx hb dX1_run_142 rfl (lv_at hl 5 rfl) ?_
              refine x_roVi (As := [.int (nI (j_149 + 1)), .int x_150]) S hK hP hD hZ (fun _ h => h) hA hS hA hl mwX1_arrive lkX1_75 (ctX1_arrive_c l D k z o clawNow charder ctold creply cwet g_151 f69 f70 f71 glines ghours glaw godds grows gheads gsayings gslugs gacts f26 f30 f31 (j_149 + 1) x_150 (by omega) (by omega) (by omega) (by omega) (by omega) (by omega) (by omega)) [0, 1, 2, 3, 4, 5, 6, 7, 8, 9] rfl (by decide) rfl rfl rfl rfl rfl ⟨Nat.le_of_ble_eq_true rfl, Nat.le_of_ble_eq_true rfl, Nat.le_of_ble_eq_true rfl⟩ dX1_run_143 ⟨Nat.le_of_ble_eq_true rfl, Nat.le_of_ble_eq_true rfl⟩ (fun r_194 H locs hr_194 hP hS => ?_)
              refine lv_istore_n (lv' := [(1, .int r_194), (6, .int 1), (5, .int r_157), (4, .int (nI j_149)), (3, .int x_152), (2, .int x_153), (0, .ref (o 5))]) hx hb dX1_run_146 rfl hl (by decide) rfl (fun ls hl => ?_)
              refine lv_aload_n hx hb dX1_run_147 rfl (lv_at hl 6 rfl) ?_
              refine x_get S hK hP 0 rfl cfX1 7 lkX1_9 (by decide) rfl dX1_run_148 ?_
              refine lv_iload hx hb dX1_run_151 (lv_at hl 3 rfl) ?_
              refine lv_iconst (v := 1) hx hb dX1_run_153 (by decide) ?_
              refine lv_iadd hx hb dX1_run_154 ?_
              refine x_is (nI (j_149 + 1)) (ni_add rfl (by decide)) ?_
              refine lv_iload_n hx hb dX1_run_155 rfl (lv_at hl 0 rfl) ?_
              refine x_iast (ws' := fun f_196 => [((o 5), .inr (1, [.ref (o 3), .ref (o 4), .int clawNow, .int charder, .int ctold, .int creply, .int cwet, .ref (o 72)])), ((o 72), .inl (k 0, 17, .inl f_196)), ((o 4), .inr (3, [.ref (o 69), .ref (o 70), .ref (o 71)])), ((o 69), .inl (k 0, 17, .inl f69)), ((o 70), .inl (k 0, 17, .inl f70)), ((o 71), .inl (k 0, 17, .inl f71)), ((o 3), .inr (2, [.int glines, .int (nI ghours), .int glaw, .int godds, .int (nI grows), .int (nI gheads), .int (nI gsayings), .int (nI gslugs), .int (nI gacts), .ref (o 26), .ref (o 27), .ref (o 28), .ref (o 29), .ref (o 30), .ref (o 31), .ref (o 32), .ref (o 33), .ref (o 34), .ref (o 35)])), ((o 26), .inl (k 0, 12, .inl f26)), ((o 30), .inl (k 0, 12, .inl f30)), ((o 31), .inl (k 0, 12, .inl f31))]) S hK hP hD hS 1 rfl (vp_in_nI (by omega) (by decide)) (fun _ => rfl) dX1_run_156 (fun f_196 H locs ef_196 hP hD hS => ?_)
              refine lv_iinc (v := (nI (j_149 + 1))) (lv' := [(4, .int (nI (j_149 + 1))), (1, .int r_194), (6, .int 1), (5, .int r_157), (3, .int x_152), (2, .int x_153), (0, .ref (o 5))]) hx hb dX1_run_157 hl (k := 3) rfl (ni_inc _) (by decide) rfl (fun ls hl => ?_)
              refine lv_goto (tgt := 53) hx hb dX1_run_160 (by decide) ?_
              exact ihj_149 (j_149 + 1) r_194 f_196 x_152 x_153 _ _ _ (by omega) (by omega) hP hD hS (lv_sub hl [0, 4, 5, 1, 6] rfl)
  exact lp_154 (ghours + 1) 0 v_10 f_11 (-1) v_10 _ _ _ (by omega) (by omega) hP hD hS (lv_sub hl [0, 1, 2, 3, 4] rfl)

set_option maxHeartbeats 4000000 in
set_option maxRecDepth 100000 in
theorem ctX1_asItIs_t (l : Launch) (D : va_G) (k : Nat → ClassId) (z : Nat → Nat) (o : Nat → Nat) (tlawNow : Int32) (tharder : Int32) (ttold : Int32) (treply : Int32) (twet : Int32) (f73 : Nat → Int32) (f69 : Nat → Int32) (f70 : Nat → Int32) (f71 : Nat → Int32) (glines : Int32) (ghours : Nat) (glaw : Int32) (godds : Int32) (grows : Nat) (gheads : Nat) (gsayings : Nat) (gslugs : Nat) (gacts : Nat) (f26 : Nat → Int32) (f30 : Nat → Int32) (f31 : Nat → Int32) (hghours : ghours ≤ 16) (hgrows : grows ≤ 4) (hgheads : gheads ≤ 12) (hgsayings : gsayings ≤ 8) (hgslugs : gslugs ≤ 4) (hgacts : gacts ≤ 30) : MU l yX1_asItIs cX1_asItIs 1 none 0 D k z [.ref (o 6)] [((o 6), .inr (1, [.ref (o 3), .ref (o 4), .int tlawNow, .int tharder, .int ttold, .int treply, .int twet, .ref (o 73)])), ((o 73), .inl (k 0, 17, .inl f73)), ((o 4), .inr (3, [.ref (o 69), .ref (o 70), .ref (o 71)])), ((o 69), .inl (k 0, 17, .inl f69)), ((o 70), .inl (k 0, 17, .inl f70)), ((o 71), .inl (k 0, 17, .inl f71)), ((o 3), .inr (2, [.int glines, .int (nI ghours), .int glaw, .int godds, .int (nI grows), .int (nI gheads), .int (nI gsayings), .int (nI gslugs), .int (nI gacts), .ref (o 26), .ref (o 27), .ref (o 28), .ref (o 29), .ref (o 30), .ref (o 31), .ref (o 32), .ref (o 33), .ref (o 34), .ref (o 35)])), ((o 26), .inl (k 0, 12, .inl f26)), ((o 30), .inl (k 0, 12, .inl f30)), ((o 31), .inl (k 0, 12, .inl f31))] 0 0 (Uv D (fun _ : (Nat → Int32) × (Nat → Nat) × (Nat → Nat → Int32) × (Nat → Nat → Int64) × (Nat → Int64) => True) (fun u : (Nat → Int32) × (Nat → Nat) × (Nat → Nat → Int32) × (Nat → Nat → Int64) × (Nat → Int64) => [((o 6), .inr (1, [.ref (o 3), .ref (o 4), .int (u.1 0), .int (u.1 1), .int (u.1 2), .int (u.1 3), .int (u.1 4), .ref (o 73)])), ((o 73), .inl (k 0, 17, .inl f73)), ((o 4), .inr (3, [.ref (o 69), .ref (o 70), .ref (o 71)])), ((o 69), .inl (k 0, 17, .inl f69)), ((o 70), .inl (k 0, 17, .inl f70)), ((o 71), .inl (k 0, 17, .inl f71)), ((o 3), .inr (2, [.int glines, .int (nI ghours), .int glaw, .int godds, .int (nI grows), .int (nI gheads), .int (nI gsayings), .int (nI gslugs), .int (nI gacts), .ref (o 26), .ref (o 27), .ref (o 28), .ref (o 29), .ref (o 30), .ref (o 31), .ref (o 32), .ref (o 33), .ref (o 34), .ref (o 35)])), ((o 26), .inl (k 0, 12, .inl f26)), ((o 30), .inl (k 0, 12, .inl f30)), ((o 31), .inl (k 0, 12, .inl f31))])) := by
  refine MU.of (by decide) (Nat.le_of_ble_eq_true rfl) ?_
  intro p e s m below meth c ls A args Q S hr hlk hnm hQ hK hP hD hZ hA hS hl
  have hx := S.1
  have hb := S.2.1
  have hl : lv_has ls 1 [(0, .ref (o 6))] := hl
  refine lv_aload_n hx hb dX1_asItIs_0 rfl (lv_at hl 0 rfl) ?_
  refine lv_aload_n hx hb dX1_asItIs_1 rfl (lv_at hl 0 rfl) ?_
  refine x_get S hK hP 0 rfl cfX1 0 lkX1_15 (by decide) rfl dX1_asItIs_2 ?_
  refine x_get S hK hP 6 rfl cfX2 2 lkX1_23 (by decide) rfl dX1_asItIs_5 ?_
  refine x_put (ws' := [((o 6), .inr (1, [.ref (o 3), .ref (o 4), .int glaw, .int tharder, .int ttold, .int treply, .int twet, .ref (o 73)])), ((o 73), .inl (k 0, 17, .inl f73)), ((o 4), .inr (3, [.ref (o 69), .ref (o 70), .ref (o 71)])), ((o 69), .inl (k 0, 17, .inl f69)), ((o 70), .inl (k 0, 17, .inl f70)), ((o 71), .inl (k 0, 17, .inl f71)), ((o 3), .inr (2, [.int glines, .int (nI ghours), .int glaw, .int godds, .int (nI grows), .int (nI gheads), .int (nI gsayings), .int (nI gslugs), .int (nI gacts), .ref (o 26), .ref (o 27), .ref (o 28), .ref (o 29), .ref (o 30), .ref (o 31), .ref (o 32), .ref (o 33), .ref (o 34), .ref (o 35)])), ((o 26), .inl (k 0, 12, .inl f26)), ((o 30), .inl (k 0, 12, .inl f30)), ((o 31), .inl (k 0, 12, .inl f31))]) S hK hP hD hS 0 rfl cfX1 2 lkX1_29 (by decide) rfl rfl rfl (Nat.le_of_ble_eq_true rfl) rfl dX1_asItIs_8 (fun H locs hP hD hS => ?_)
  refine lv_aload_n hx hb dX1_asItIs_11 rfl (lv_at hl 0 rfl) ?_
  refine lv_iconst (v := 0) hx hb dX1_asItIs_12 (by decide) ?_
  refine x_put (ws' := [((o 6), .inr (1, [.ref (o 3), .ref (o 4), .int glaw, .int 0, .int ttold, .int treply, .int twet, .ref (o 73)])), ((o 73), .inl (k 0, 17, .inl f73)), ((o 4), .inr (3, [.ref (o 69), .ref (o 70), .ref (o 71)])), ((o 69), .inl (k 0, 17, .inl f69)), ((o 70), .inl (k 0, 17, .inl f70)), ((o 71), .inl (k 0, 17, .inl f71)), ((o 3), .inr (2, [.int glines, .int (nI ghours), .int glaw, .int godds, .int (nI grows), .int (nI gheads), .int (nI gsayings), .int (nI gslugs), .int (nI gacts), .ref (o 26), .ref (o 27), .ref (o 28), .ref (o 29), .ref (o 30), .ref (o 31), .ref (o 32), .ref (o 33), .ref (o 34), .ref (o 35)])), ((o 26), .inl (k 0, 12, .inl f26)), ((o 30), .inl (k 0, 12, .inl f30)), ((o 31), .inl (k 0, 12, .inl f31))]) S hK hP hD hS 0 rfl cfX1 3 lkX1_32 (by decide) rfl rfl rfl (Nat.le_of_ble_eq_true rfl) rfl dX1_asItIs_13 (fun H locs hP hD hS => ?_)
  refine lv_aload_n hx hb dX1_asItIs_16 rfl (lv_at hl 0 rfl) ?_
  refine lv_iconst (v := 0) hx hb dX1_asItIs_17 (by decide) ?_
  refine x_put (ws' := [((o 6), .inr (1, [.ref (o 3), .ref (o 4), .int glaw, .int 0, .int 0, .int treply, .int twet, .ref (o 73)])), ((o 73), .inl (k 0, 17, .inl f73)), ((o 4), .inr (3, [.ref (o 69), .ref (o 70), .ref (o 71)])), ((o 69), .inl (k 0, 17, .inl f69)), ((o 70), .inl (k 0, 17, .inl f70)), ((o 71), .inl (k 0, 17, .inl f71)), ((o 3), .inr (2, [.int glines, .int (nI ghours), .int glaw, .int godds, .int (nI grows), .int (nI gheads), .int (nI gsayings), .int (nI gslugs), .int (nI gacts), .ref (o 26), .ref (o 27), .ref (o 28), .ref (o 29), .ref (o 30), .ref (o 31), .ref (o 32), .ref (o 33), .ref (o 34), .ref (o 35)])), ((o 26), .inl (k 0, 12, .inl f26)), ((o 30), .inl (k 0, 12, .inl f30)), ((o 31), .inl (k 0, 12, .inl f31))]) S hK hP hD hS 0 rfl cfX1 4 lkX1_35 (by decide) rfl rfl rfl (Nat.le_of_ble_eq_true rfl) rfl dX1_asItIs_18 (fun H locs hP hD hS => ?_)
  refine lv_aload_n hx hb dX1_asItIs_21 rfl (lv_at hl 0 rfl) ?_
  refine lv_iconst (v := 0) hx hb dX1_asItIs_22 (by decide) ?_
  refine x_put (ws' := [((o 6), .inr (1, [.ref (o 3), .ref (o 4), .int glaw, .int 0, .int 0, .int 0, .int twet, .ref (o 73)])), ((o 73), .inl (k 0, 17, .inl f73)), ((o 4), .inr (3, [.ref (o 69), .ref (o 70), .ref (o 71)])), ((o 69), .inl (k 0, 17, .inl f69)), ((o 70), .inl (k 0, 17, .inl f70)), ((o 71), .inl (k 0, 17, .inl f71)), ((o 3), .inr (2, [.int glines, .int (nI ghours), .int glaw, .int godds, .int (nI grows), .int (nI gheads), .int (nI gsayings), .int (nI gslugs), .int (nI gacts), .ref (o 26), .ref (o 27), .ref (o 28), .ref (o 29), .ref (o 30), .ref (o 31), .ref (o 32), .ref (o 33), .ref (o 34), .ref (o 35)])), ((o 26), .inl (k 0, 12, .inl f26)), ((o 30), .inl (k 0, 12, .inl f30)), ((o 31), .inl (k 0, 12, .inl f31))]) S hK hP hD hS 0 rfl cfX1 5 lkX1_38 (by decide) rfl rfl rfl (Nat.le_of_ble_eq_true rfl) rfl dX1_asItIs_23 (fun H locs hP hD hS => ?_)
  refine lv_aload_n hx hb dX1_asItIs_26 rfl (lv_at hl 0 rfl) ?_
  refine lv_iconst (v := 0) hx hb dX1_asItIs_27 (by decide) ?_
  refine x_put (ws' := [((o 6), .inr (1, [.ref (o 3), .ref (o 4), .int glaw, .int 0, .int 0, .int 0, .int 0, .ref (o 73)])), ((o 73), .inl (k 0, 17, .inl f73)), ((o 4), .inr (3, [.ref (o 69), .ref (o 70), .ref (o 71)])), ((o 69), .inl (k 0, 17, .inl f69)), ((o 70), .inl (k 0, 17, .inl f70)), ((o 71), .inl (k 0, 17, .inl f71)), ((o 3), .inr (2, [.int glines, .int (nI ghours), .int glaw, .int godds, .int (nI grows), .int (nI gheads), .int (nI gsayings), .int (nI gslugs), .int (nI gacts), .ref (o 26), .ref (o 27), .ref (o 28), .ref (o 29), .ref (o 30), .ref (o 31), .ref (o 32), .ref (o 33), .ref (o 34), .ref (o 35)])), ((o 26), .inl (k 0, 12, .inl f26)), ((o 30), .inl (k 0, 12, .inl f30)), ((o 31), .inl (k 0, 12, .inl f31))]) S hK hP hD hS 0 rfl cfX1 6 lkX1_41 (by decide) rfl rfl rfl (Nat.le_of_ble_eq_true rfl) rfl dX1_asItIs_28 (fun H locs hP hD hS => ?_)
  exact x_retv S hr hlk hQ hS ((fun i => ([glaw, 0, 0, 0, 0] : List (Int32)).getD i 0), (fun i => ([] : List (Nat)).getD i 0), (fun i => ([] : List (Nat → Int32)).getD i (fun _ => 0)), (fun i => ([] : List (Nat → Int64)).getD i (fun _ => 0)), (fun i => ([] : List (Int64)).getD i 0)) trivial (x_B hP hD) dX1_asItIs_31

set_option maxHeartbeats 4000000 in
set_option maxRecDepth 100000 in
theorem ctX1_asTold_t (l : Launch) (D : va_G) (k : Nat → ClassId) (z : Nat → Nat) (o : Nat → Nat) (tlawNow : Int32) (tharder : Int32) (ttold : Int32) (treply : Int32) (twet : Int32) (f73 : Nat → Int32) (f69 : Nat → Int32) (f70 : Nat → Int32) (f71 : Nat → Int32) (glines : Int32) (ghours : Nat) (glaw : Int32) (godds : Int32) (grows : Nat) (gheads : Nat) (gsayings : Nat) (gslugs : Nat) (gacts : Nat) (f26 : Nat → Int32) (f30 : Nat → Int32) (f31 : Nat → Int32) (p0 : Int32) (p1 : Int32) (hghours : ghours ≤ 16) (hgrows : grows ≤ 4) (hgheads : gheads ≤ 12) (hgsayings : gsayings ≤ 8) (hgslugs : gslugs ≤ 4) (hgacts : gacts ≤ 30) : MU l yX1_asTold cX1_asTold 3 none 1 D k z [.ref (o 6), .int p0, .int p1] [((o 6), .inr (1, [.ref (o 3), .ref (o 4), .int tlawNow, .int tharder, .int ttold, .int treply, .int twet, .ref (o 73)])), ((o 73), .inl (k 0, 17, .inl f73)), ((o 4), .inr (3, [.ref (o 69), .ref (o 70), .ref (o 71)])), ((o 69), .inl (k 0, 17, .inl f69)), ((o 70), .inl (k 0, 17, .inl f70)), ((o 71), .inl (k 0, 17, .inl f71)), ((o 3), .inr (2, [.int glines, .int (nI ghours), .int glaw, .int godds, .int (nI grows), .int (nI gheads), .int (nI gsayings), .int (nI gslugs), .int (nI gacts), .ref (o 26), .ref (o 27), .ref (o 28), .ref (o 29), .ref (o 30), .ref (o 31), .ref (o 32), .ref (o 33), .ref (o 34), .ref (o 35)])), ((o 26), .inl (k 0, 12, .inl f26)), ((o 30), .inl (k 0, 12, .inl f30)), ((o 31), .inl (k 0, 12, .inl f31))] 0 0 (Uv D (fun _ : (Nat → Int32) × (Nat → Nat) × (Nat → Nat → Int32) × (Nat → Nat → Int64) × (Nat → Int64) => True) (fun u : (Nat → Int32) × (Nat → Nat) × (Nat → Nat → Int32) × (Nat → Nat → Int64) × (Nat → Int64) => [((o 6), .inr (1, [.ref (o 3), .ref (o 4), .int (u.1 0), .int (u.1 1), .int (u.1 2), .int (u.1 3), .int (u.1 4), .ref (o 73)])), ((o 73), .inl (k 0, 17, .inl f73)), ((o 4), .inr (3, [.ref (o 69), .ref (o 70), .ref (o 71)])), ((o 69), .inl (k 0, 17, .inl f69)), ((o 70), .inl (k 0, 17, .inl f70)), ((o 71), .inl (k 0, 17, .inl f71)), ((o 3), .inr (2, [.int glines, .int (nI ghours), .int glaw, .int godds, .int (nI grows), .int (nI gheads), .int (nI gsayings), .int (nI gslugs), .int (nI gacts), .ref (o 26), .ref (o 27), .ref (o 28), .ref (o 29), .ref (o 30), .ref (o 31), .ref (o 32), .ref (o 33), .ref (o 34), .ref (o 35)])), ((o 26), .inl (k 0, 12, .inl f26)), ((o 30), .inl (k 0, 12, .inl f30)), ((o 31), .inl (k 0, 12, .inl f31))])) := by
  refine MU.of (by decide) (Nat.le_of_ble_eq_true rfl) ?_
  intro p e s m below meth c ls A args Q S hr hlk hnm hQ hK hP hD hZ hA hS hl
  have hx := S.1
  have hb := S.2.1
  have hl : lv_has ls 3 [(0, .ref (o 6)), (1, .int p0), (2, .int p1)] := hl
  refine lv_aload_n hx hb dX1_asTold_0 rfl (lv_at hl 0 rfl) ?_
  refine x_muVv (wr := []) (As := []) S hK hP hD hZ hS hA hl mwX1_asItIs lkX1_44 (ctX1_asItIs_c l D k z (fun i => ([0, 0, 0, (o 3), (o 4), (o 6), 0, 0, 0, 0, 0, 0, 0, 0, 0, 0, 0, 0, 0, 0, 0, 0, 0, 0, 0, 0, (o 26), (o 27), (o 28), (o 29), (o 30), (o 31), (o 32), (o 33), (o 34), (o 35), 0, 0, 0, 0, 0, 0, 0, 0, 0, 0, 0, 0, 0, 0, 0, 0, 0, 0, 0, 0, 0, 0, 0, 0, 0, 0, 0, 0, 0, 0, 0, 0, 0, (o 69), (o 70), (o 71), (o 73)] : List Nat).getD i 0) tlawNow tharder ttold treply twet f73 f69 f70 f71 glines ghours glaw godds grows gheads gsayings gslugs gacts f26 f30 f31 (by omega) (by omega) (by omega) (by omega) (by omega) (by omega)) [0, 1, 2, 3, 4, 5, 6, 7, 8, 9] [] rfl rfl (by decide) (by decide) (by decide) rfl rfl rfl rfl rfl ⟨Nat.le_of_ble_eq_true rfl, Nat.le_of_ble_eq_true rfl, Nat.le_of_ble_eq_true rfl⟩ dX1_asTold_1 ⟨Nat.le_of_ble_eq_true rfl, Nat.le_of_ble_eq_true rfl⟩ (fun u_2 H locs hr_1 hP hD hS => ?_)
  have hP : va_P D vwCl [((o 6), .inr (1, [.ref (o 3), .ref (o 4), .int (u_2.1 0), .int (u_2.1 1), .int (u_2.1 2), .int (u_2.1 3), .int (u_2.1 4), .ref (o 73)])), ((o 73), .inl (k 0, 17, .inl f73)), ((o 4), .inr (3, [.ref (o 69), .ref (o 70), .ref (o 71)])), ((o 69), .inl (k 0, 17, .inl f69)), ((o 70), .inl (k 0, 17, .inl f70)), ((o 71), .inl (k 0, 17, .inl f71)), ((o 3), .inr (2, [.int glines, .int (nI ghours), .int glaw, .int godds, .int (nI grows), .int (nI gheads), .int (nI gsayings), .int (nI gslugs), .int (nI gacts), .ref (o 26), .ref (o 27), .ref (o 28), .ref (o 29), .ref (o 30), .ref (o 31), .ref (o 32), .ref (o 33), .ref (o 34), .ref (o 35)])), ((o 26), .inl (k 0, 12, .inl f26)), ((o 30), .inl (k 0, 12, .inl f30)), ((o 31), .inl (k 0, 12, .inl f31))] H := hP.sub [0, 1, 2, 3, 4, 5, 6, 7, 8, 9] rfl
  have hD : va_D A [((o 6), .inr (1, [.ref (o 3), .ref (o 4), .int (u_2.1 0), .int (u_2.1 1), .int (u_2.1 2), .int (u_2.1 3), .int (u_2.1 4), .ref (o 73)])), ((o 73), .inl (k 0, 17, .inl f73)), ((o 4), .inr (3, [.ref (o 69), .ref (o 70), .ref (o 71)])), ((o 69), .inl (k 0, 17, .inl f69)), ((o 70), .inl (k 0, 17, .inl f70)), ((o 71), .inl (k 0, 17, .inl f71)), ((o 3), .inr (2, [.int glines, .int (nI ghours), .int glaw, .int godds, .int (nI grows), .int (nI gheads), .int (nI gsayings), .int (nI gslugs), .int (nI gacts), .ref (o 26), .ref (o 27), .ref (o 28), .ref (o 29), .ref (o 30), .ref (o 31), .ref (o 32), .ref (o 33), .ref (o 34), .ref (o 35)])), ((o 26), .inl (k 0, 12, .inl f26)), ((o 30), .inl (k 0, 12, .inl f30)), ((o 31), .inl (k 0, 12, .inl f31))] := hD.sub [0, 1, 2, 3, 4, 5, 6, 7, 8, 9] (by decide) rfl
  refine lv_aload_n hx hb dX1_asTold_4 rfl (lv_at hl 0 rfl) ?_
  refine lv_iload_n hx hb dX1_asTold_5 rfl (lv_at hl 2 rfl) ?_
  refine lv_iload_n hx hb dX1_asTold_6 rfl (lv_at hl 1 rfl) ?_
  refine x_roSNi (As := [.int p1, .int p0]) S hK hP hD hZ (fun _ h => h) hA hS hA hl mwX10_inHalf lkX1_47 (ctX10_inHalf l D k z p1 p0 ) [] rfl (by decide) rfl rfl ⟨Nat.le_of_ble_eq_true rfl, Nat.le_of_ble_eq_true rfl, Nat.le_of_ble_eq_true rfl⟩ dX1_asTold_7 ⟨Nat.le_of_ble_eq_true rfl, Nat.le_of_ble_eq_true rfl⟩ (fun r_3 H locs hr_3 hP hS => ?_)
  refine x_put (ws' := [((o 6), .inr (1, [.ref (o 3), .ref (o 4), .int (u_2.1 0), .int (u_2.1 1), .int r_3, .int (u_2.1 3), .int (u_2.1 4), .ref (o 73)])), ((o 73), .inl (k 0, 17, .inl f73)), ((o 4), .inr (3, [.ref (o 69), .ref (o 70), .ref (o 71)])), ((o 69), .inl (k 0, 17, .inl f69)), ((o 70), .inl (k 0, 17, .inl f70)), ((o 71), .inl (k 0, 17, .inl f71)), ((o 3), .inr (2, [.int glines, .int (nI ghours), .int glaw, .int godds, .int (nI grows), .int (nI gheads), .int (nI gsayings), .int (nI gslugs), .int (nI gacts), .ref (o 26), .ref (o 27), .ref (o 28), .ref (o 29), .ref (o 30), .ref (o 31), .ref (o 32), .ref (o 33), .ref (o 34), .ref (o 35)])), ((o 26), .inl (k 0, 12, .inl f26)), ((o 30), .inl (k 0, 12, .inl f30)), ((o 31), .inl (k 0, 12, .inl f31))]) S hK hP hD hS 0 rfl cfX1 4 lkX1_35 (by decide) rfl rfl rfl (Nat.le_of_ble_eq_true rfl) rfl dX1_asTold_10 (fun H locs hP hD hS => ?_)
  exact x_retv S hr hlk hQ hS ((fun i => ([(u_2.1 0), (u_2.1 1), r_3, (u_2.1 3), (u_2.1 4)] : List (Int32)).getD i 0), (fun i => ([] : List (Nat)).getD i 0), (fun i => ([] : List (Nat → Int32)).getD i (fun _ => 0)), (fun i => ([] : List (Nat → Int64)).getD i (fun _ => 0)), (fun i => ([] : List (Int64)).getD i 0)) trivial (x_B hP hD) dX1_asTold_13

set_option maxHeartbeats 4000000 in
set_option maxRecDepth 100000 in
theorem ctX1_asDuel_t (l : Launch) (D : va_G) (k : Nat → ClassId) (z : Nat → Nat) (o : Nat → Nat) (tlawNow : Int32) (tharder : Int32) (ttold : Int32) (treply : Int32) (twet : Int32) (f73 : Nat → Int32) (f69 : Nat → Int32) (f70 : Nat → Int32) (f71 : Nat → Int32) (glines : Int32) (ghours : Nat) (glaw : Int32) (godds : Int32) (grows : Nat) (gheads : Nat) (gsayings : Nat) (gslugs : Nat) (gacts : Nat) (f26 : Nat → Int32) (f30 : Nat → Int32) (f31 : Nat → Int32) (p0 : Int32) (p1 : Int32) (hghours : ghours ≤ 16) (hgrows : grows ≤ 4) (hgheads : gheads ≤ 12) (hgsayings : gsayings ≤ 8) (hgslugs : gslugs ≤ 4) (hgacts : gacts ≤ 30) : MU l yX1_asDuel cX1_asDuel 3 none 1 D k z [.ref (o 6), .int p0, .int p1] [((o 6), .inr (1, [.ref (o 3), .ref (o 4), .int tlawNow, .int tharder, .int ttold, .int treply, .int twet, .ref (o 73)])), ((o 73), .inl (k 0, 17, .inl f73)), ((o 4), .inr (3, [.ref (o 69), .ref (o 70), .ref (o 71)])), ((o 69), .inl (k 0, 17, .inl f69)), ((o 70), .inl (k 0, 17, .inl f70)), ((o 71), .inl (k 0, 17, .inl f71)), ((o 3), .inr (2, [.int glines, .int (nI ghours), .int glaw, .int godds, .int (nI grows), .int (nI gheads), .int (nI gsayings), .int (nI gslugs), .int (nI gacts), .ref (o 26), .ref (o 27), .ref (o 28), .ref (o 29), .ref (o 30), .ref (o 31), .ref (o 32), .ref (o 33), .ref (o 34), .ref (o 35)])), ((o 26), .inl (k 0, 12, .inl f26)), ((o 30), .inl (k 0, 12, .inl f30)), ((o 31), .inl (k 0, 12, .inl f31))] 0 0 (Uv D (fun _ : (Nat → Int32) × (Nat → Nat) × (Nat → Nat → Int32) × (Nat → Nat → Int64) × (Nat → Int64) => True) (fun u : (Nat → Int32) × (Nat → Nat) × (Nat → Nat → Int32) × (Nat → Nat → Int64) × (Nat → Int64) => [((o 6), .inr (1, [.ref (o 3), .ref (o 4), .int (u.1 0), .int (u.1 1), .int (u.1 2), .int (u.1 3), .int (u.1 4), .ref (o 73)])), ((o 73), .inl (k 0, 17, .inl f73)), ((o 4), .inr (3, [.ref (o 69), .ref (o 70), .ref (o 71)])), ((o 69), .inl (k 0, 17, .inl f69)), ((o 70), .inl (k 0, 17, .inl f70)), ((o 71), .inl (k 0, 17, .inl f71)), ((o 3), .inr (2, [.int glines, .int (nI ghours), .int glaw, .int godds, .int (nI grows), .int (nI gheads), .int (nI gsayings), .int (nI gslugs), .int (nI gacts), .ref (o 26), .ref (o 27), .ref (o 28), .ref (o 29), .ref (o 30), .ref (o 31), .ref (o 32), .ref (o 33), .ref (o 34), .ref (o 35)])), ((o 26), .inl (k 0, 12, .inl f26)), ((o 30), .inl (k 0, 12, .inl f30)), ((o 31), .inl (k 0, 12, .inl f31))])) := by
  refine MU.of (by decide) (Nat.le_of_ble_eq_true rfl) ?_
  intro p e s m below meth c ls A args Q S hr hlk hnm hQ hK hP hD hZ hA hS hl
  have hx := S.1
  have hb := S.2.1
  have hl : lv_has ls 3 [(0, .ref (o 6)), (1, .int p0), (2, .int p1)] := hl
  refine lv_aload_n hx hb dX1_asDuel_0 rfl (lv_at hl 0 rfl) ?_
  refine x_muVv (wr := []) (As := []) S hK hP hD hZ hS hA hl mwX1_asItIs lkX1_44 (ctX1_asItIs_c l D k z (fun i => ([0, 0, 0, (o 3), (o 4), (o 6), 0, 0, 0, 0, 0, 0, 0, 0, 0, 0, 0, 0, 0, 0, 0, 0, 0, 0, 0, 0, (o 26), (o 27), (o 28), (o 29), (o 30), (o 31), (o 32), (o 33), (o 34), (o 35), 0, 0, 0, 0, 0, 0, 0, 0, 0, 0, 0, 0, 0, 0, 0, 0, 0, 0, 0, 0, 0, 0, 0, 0, 0, 0, 0, 0, 0, 0, 0, 0, 0, (o 69), (o 70), (o 71), (o 73)] : List Nat).getD i 0) tlawNow tharder ttold treply twet f73 f69 f70 f71 glines ghours glaw godds grows gheads gsayings gslugs gacts f26 f30 f31 (by omega) (by omega) (by omega) (by omega) (by omega) (by omega)) [0, 1, 2, 3, 4, 5, 6, 7, 8, 9] [] rfl rfl (by decide) (by decide) (by decide) rfl rfl rfl rfl rfl ⟨Nat.le_of_ble_eq_true rfl, Nat.le_of_ble_eq_true rfl, Nat.le_of_ble_eq_true rfl⟩ dX1_asDuel_1 ⟨Nat.le_of_ble_eq_true rfl, Nat.le_of_ble_eq_true rfl⟩ (fun u_2 H locs hr_1 hP hD hS => ?_)
  have hP : va_P D vwCl [((o 6), .inr (1, [.ref (o 3), .ref (o 4), .int (u_2.1 0), .int (u_2.1 1), .int (u_2.1 2), .int (u_2.1 3), .int (u_2.1 4), .ref (o 73)])), ((o 73), .inl (k 0, 17, .inl f73)), ((o 4), .inr (3, [.ref (o 69), .ref (o 70), .ref (o 71)])), ((o 69), .inl (k 0, 17, .inl f69)), ((o 70), .inl (k 0, 17, .inl f70)), ((o 71), .inl (k 0, 17, .inl f71)), ((o 3), .inr (2, [.int glines, .int (nI ghours), .int glaw, .int godds, .int (nI grows), .int (nI gheads), .int (nI gsayings), .int (nI gslugs), .int (nI gacts), .ref (o 26), .ref (o 27), .ref (o 28), .ref (o 29), .ref (o 30), .ref (o 31), .ref (o 32), .ref (o 33), .ref (o 34), .ref (o 35)])), ((o 26), .inl (k 0, 12, .inl f26)), ((o 30), .inl (k 0, 12, .inl f30)), ((o 31), .inl (k 0, 12, .inl f31))] H := hP.sub [0, 1, 2, 3, 4, 5, 6, 7, 8, 9] rfl
  have hD : va_D A [((o 6), .inr (1, [.ref (o 3), .ref (o 4), .int (u_2.1 0), .int (u_2.1 1), .int (u_2.1 2), .int (u_2.1 3), .int (u_2.1 4), .ref (o 73)])), ((o 73), .inl (k 0, 17, .inl f73)), ((o 4), .inr (3, [.ref (o 69), .ref (o 70), .ref (o 71)])), ((o 69), .inl (k 0, 17, .inl f69)), ((o 70), .inl (k 0, 17, .inl f70)), ((o 71), .inl (k 0, 17, .inl f71)), ((o 3), .inr (2, [.int glines, .int (nI ghours), .int glaw, .int godds, .int (nI grows), .int (nI gheads), .int (nI gsayings), .int (nI gslugs), .int (nI gacts), .ref (o 26), .ref (o 27), .ref (o 28), .ref (o 29), .ref (o 30), .ref (o 31), .ref (o 32), .ref (o 33), .ref (o 34), .ref (o 35)])), ((o 26), .inl (k 0, 12, .inl f26)), ((o 30), .inl (k 0, 12, .inl f30)), ((o 31), .inl (k 0, 12, .inl f31))] := hD.sub [0, 1, 2, 3, 4, 5, 6, 7, 8, 9] (by decide) rfl
  refine lv_aload_n hx hb dX1_asDuel_4 rfl (lv_at hl 0 rfl) ?_
  refine lv_iconst (v := 1) hx hb dX1_asDuel_5 (by decide) ?_
  refine lv_iload_n hx hb dX1_asDuel_6 rfl (lv_at hl 1 rfl) ?_
  refine lv_ishl hx hb dX1_asDuel_7 ?_
  refine lv_topi (fun v_3 ev_3 => ?_)
  refine lv_iconst (v := 1) hx hb dX1_asDuel_8 (by decide) ?_
  refine x_roSNi (As := [.int v_3, .int 1]) S hK hP hD hZ (fun _ h => h) hA hS hA hl mwX10_inHalf lkX1_47 (ctX10_inHalf l D k z v_3 1 ) [] rfl (by decide) rfl rfl ⟨Nat.le_of_ble_eq_true rfl, Nat.le_of_ble_eq_true rfl, Nat.le_of_ble_eq_true rfl⟩ dX1_asDuel_9 ⟨Nat.le_of_ble_eq_true rfl, Nat.le_of_ble_eq_true rfl⟩ (fun r_4 H locs hr_4 hP hS => ?_)
  refine x_put (ws' := [((o 6), .inr (1, [.ref (o 3), .ref (o 4), .int (u_2.1 0), .int (u_2.1 1), .int r_4, .int (u_2.1 3), .int (u_2.1 4), .ref (o 73)])), ((o 73), .inl (k 0, 17, .inl f73)), ((o 4), .inr (3, [.ref (o 69), .ref (o 70), .ref (o 71)])), ((o 69), .inl (k 0, 17, .inl f69)), ((o 70), .inl (k 0, 17, .inl f70)), ((o 71), .inl (k 0, 17, .inl f71)), ((o 3), .inr (2, [.int glines, .int (nI ghours), .int glaw, .int godds, .int (nI grows), .int (nI gheads), .int (nI gsayings), .int (nI gslugs), .int (nI gacts), .ref (o 26), .ref (o 27), .ref (o 28), .ref (o 29), .ref (o 30), .ref (o 31), .ref (o 32), .ref (o 33), .ref (o 34), .ref (o 35)])), ((o 26), .inl (k 0, 12, .inl f26)), ((o 30), .inl (k 0, 12, .inl f30)), ((o 31), .inl (k 0, 12, .inl f31))]) S hK hP hD hS 0 rfl cfX1 4 lkX1_35 (by decide) rfl rfl rfl (Nat.le_of_ble_eq_true rfl) rfl dX1_asDuel_12 (fun H locs hP hD hS => ?_)
  refine lv_aload_n hx hb dX1_asDuel_15 rfl (lv_at hl 0 rfl) ?_
  refine lv_iconst (v := 1) hx hb dX1_asDuel_16 (by decide) ?_
  refine lv_iload_n hx hb dX1_asDuel_17 rfl (lv_at hl 2 rfl) ?_
  refine lv_ishl hx hb dX1_asDuel_18 ?_
  refine lv_topi (fun v_6 ev_6 => ?_)
  refine lv_iconst (v := 2) hx hb dX1_asDuel_19 (by decide) ?_
  refine x_roSNi (As := [.int v_6, .int 2]) S hK hP hD hZ (fun _ h => h) hA hS hA hl mwX10_inHalf lkX1_47 (ctX10_inHalf l D k z v_6 2 ) [] rfl (by decide) rfl rfl ⟨Nat.le_of_ble_eq_true rfl, Nat.le_of_ble_eq_true rfl, Nat.le_of_ble_eq_true rfl⟩ dX1_asDuel_20 ⟨Nat.le_of_ble_eq_true rfl, Nat.le_of_ble_eq_true rfl⟩ (fun r_7 H locs hr_7 hP hS => ?_)
  refine x_put (ws' := [((o 6), .inr (1, [.ref (o 3), .ref (o 4), .int (u_2.1 0), .int (u_2.1 1), .int r_4, .int r_7, .int (u_2.1 4), .ref (o 73)])), ((o 73), .inl (k 0, 17, .inl f73)), ((o 4), .inr (3, [.ref (o 69), .ref (o 70), .ref (o 71)])), ((o 69), .inl (k 0, 17, .inl f69)), ((o 70), .inl (k 0, 17, .inl f70)), ((o 71), .inl (k 0, 17, .inl f71)), ((o 3), .inr (2, [.int glines, .int (nI ghours), .int glaw, .int godds, .int (nI grows), .int (nI gheads), .int (nI gsayings), .int (nI gslugs), .int (nI gacts), .ref (o 26), .ref (o 27), .ref (o 28), .ref (o 29), .ref (o 30), .ref (o 31), .ref (o 32), .ref (o 33), .ref (o 34), .ref (o 35)])), ((o 26), .inl (k 0, 12, .inl f26)), ((o 30), .inl (k 0, 12, .inl f30)), ((o 31), .inl (k 0, 12, .inl f31))]) S hK hP hD hS 0 rfl cfX1 5 lkX1_38 (by decide) rfl rfl rfl (Nat.le_of_ble_eq_true rfl) rfl dX1_asDuel_23 (fun H locs hP hD hS => ?_)
  exact x_retv S hr hlk hQ hS ((fun i => ([(u_2.1 0), (u_2.1 1), r_4, r_7, (u_2.1 4)] : List (Int32)).getD i 0), (fun i => ([] : List (Nat)).getD i 0), (fun i => ([] : List (Nat → Int32)).getD i (fun _ => 0)), (fun i => ([] : List (Nat → Int64)).getD i (fun _ => 0)), (fun i => ([] : List (Int64)).getD i 0)) trivial (x_B hP hD) dX1_asDuel_26

set_option maxHeartbeats 4000000 in
set_option maxRecDepth 100000 in
theorem ctX1_asLaw_t (l : Launch) (D : va_G) (k : Nat → ClassId) (z : Nat → Nat) (o : Nat → Nat) (tlawNow : Int32) (tharder : Int32) (ttold : Int32) (treply : Int32) (twet : Int32) (f73 : Nat → Int32) (f69 : Nat → Int32) (f70 : Nat → Int32) (f71 : Nat → Int32) (glines : Int32) (ghours : Nat) (glaw : Int32) (godds : Int32) (grows : Nat) (gheads : Nat) (gsayings : Nat) (gslugs : Nat) (gacts : Nat) (f26 : Nat → Int32) (f30 : Nat → Int32) (f31 : Nat → Int32) (p0 : Int32) (hghours : ghours ≤ 16) (hgrows : grows ≤ 4) (hgheads : gheads ≤ 12) (hgsayings : gsayings ≤ 8) (hgslugs : gslugs ≤ 4) (hgacts : gacts ≤ 30) : MU l yX1_asLaw cX1_asLaw 2 none 1 D k z [.ref (o 6), .int p0] [((o 6), .inr (1, [.ref (o 3), .ref (o 4), .int tlawNow, .int tharder, .int ttold, .int treply, .int twet, .ref (o 73)])), ((o 73), .inl (k 0, 17, .inl f73)), ((o 4), .inr (3, [.ref (o 69), .ref (o 70), .ref (o 71)])), ((o 69), .inl (k 0, 17, .inl f69)), ((o 70), .inl (k 0, 17, .inl f70)), ((o 71), .inl (k 0, 17, .inl f71)), ((o 3), .inr (2, [.int glines, .int (nI ghours), .int glaw, .int godds, .int (nI grows), .int (nI gheads), .int (nI gsayings), .int (nI gslugs), .int (nI gacts), .ref (o 26), .ref (o 27), .ref (o 28), .ref (o 29), .ref (o 30), .ref (o 31), .ref (o 32), .ref (o 33), .ref (o 34), .ref (o 35)])), ((o 26), .inl (k 0, 12, .inl f26)), ((o 30), .inl (k 0, 12, .inl f30)), ((o 31), .inl (k 0, 12, .inl f31))] 0 0 (Uv D (fun _ : (Nat → Int32) × (Nat → Nat) × (Nat → Nat → Int32) × (Nat → Nat → Int64) × (Nat → Int64) => True) (fun u : (Nat → Int32) × (Nat → Nat) × (Nat → Nat → Int32) × (Nat → Nat → Int64) × (Nat → Int64) => [((o 6), .inr (1, [.ref (o 3), .ref (o 4), .int (u.1 0), .int (u.1 1), .int (u.1 2), .int (u.1 3), .int (u.1 4), .ref (o 73)])), ((o 73), .inl (k 0, 17, .inl f73)), ((o 4), .inr (3, [.ref (o 69), .ref (o 70), .ref (o 71)])), ((o 69), .inl (k 0, 17, .inl f69)), ((o 70), .inl (k 0, 17, .inl f70)), ((o 71), .inl (k 0, 17, .inl f71)), ((o 3), .inr (2, [.int glines, .int (nI ghours), .int glaw, .int godds, .int (nI grows), .int (nI gheads), .int (nI gsayings), .int (nI gslugs), .int (nI gacts), .ref (o 26), .ref (o 27), .ref (o 28), .ref (o 29), .ref (o 30), .ref (o 31), .ref (o 32), .ref (o 33), .ref (o 34), .ref (o 35)])), ((o 26), .inl (k 0, 12, .inl f26)), ((o 30), .inl (k 0, 12, .inl f30)), ((o 31), .inl (k 0, 12, .inl f31))])) := by
  refine MU.of (by decide) (Nat.le_of_ble_eq_true rfl) ?_
  intro p e s m below meth c ls A args Q S hr hlk hnm hQ hK hP hD hZ hA hS hl
  have hx := S.1
  have hb := S.2.1
  have hl : lv_has ls 2 [(0, .ref (o 6)), (1, .int p0)] := hl
  refine lv_aload_n hx hb dX1_asLaw_0 rfl (lv_at hl 0 rfl) ?_
  refine x_muVv (wr := []) (As := []) S hK hP hD hZ hS hA hl mwX1_asItIs lkX1_44 (ctX1_asItIs_c l D k z (fun i => ([0, 0, 0, (o 3), (o 4), (o 6), 0, 0, 0, 0, 0, 0, 0, 0, 0, 0, 0, 0, 0, 0, 0, 0, 0, 0, 0, 0, (o 26), (o 27), (o 28), (o 29), (o 30), (o 31), (o 32), (o 33), (o 34), (o 35), 0, 0, 0, 0, 0, 0, 0, 0, 0, 0, 0, 0, 0, 0, 0, 0, 0, 0, 0, 0, 0, 0, 0, 0, 0, 0, 0, 0, 0, 0, 0, 0, 0, (o 69), (o 70), (o 71), (o 73)] : List Nat).getD i 0) tlawNow tharder ttold treply twet f73 f69 f70 f71 glines ghours glaw godds grows gheads gsayings gslugs gacts f26 f30 f31 (by omega) (by omega) (by omega) (by omega) (by omega) (by omega)) [0, 1, 2, 3, 4, 5, 6, 7, 8, 9] [] rfl rfl (by decide) (by decide) (by decide) rfl rfl rfl rfl rfl ⟨Nat.le_of_ble_eq_true rfl, Nat.le_of_ble_eq_true rfl, Nat.le_of_ble_eq_true rfl⟩ dX1_asLaw_1 ⟨Nat.le_of_ble_eq_true rfl, Nat.le_of_ble_eq_true rfl⟩ (fun u_2 H locs hr_1 hP hD hS => ?_)
  have hP : va_P D vwCl [((o 6), .inr (1, [.ref (o 3), .ref (o 4), .int (u_2.1 0), .int (u_2.1 1), .int (u_2.1 2), .int (u_2.1 3), .int (u_2.1 4), .ref (o 73)])), ((o 73), .inl (k 0, 17, .inl f73)), ((o 4), .inr (3, [.ref (o 69), .ref (o 70), .ref (o 71)])), ((o 69), .inl (k 0, 17, .inl f69)), ((o 70), .inl (k 0, 17, .inl f70)), ((o 71), .inl (k 0, 17, .inl f71)), ((o 3), .inr (2, [.int glines, .int (nI ghours), .int glaw, .int godds, .int (nI grows), .int (nI gheads), .int (nI gsayings), .int (nI gslugs), .int (nI gacts), .ref (o 26), .ref (o 27), .ref (o 28), .ref (o 29), .ref (o 30), .ref (o 31), .ref (o 32), .ref (o 33), .ref (o 34), .ref (o 35)])), ((o 26), .inl (k 0, 12, .inl f26)), ((o 30), .inl (k 0, 12, .inl f30)), ((o 31), .inl (k 0, 12, .inl f31))] H := hP.sub [0, 1, 2, 3, 4, 5, 6, 7, 8, 9] rfl
  have hD : va_D A [((o 6), .inr (1, [.ref (o 3), .ref (o 4), .int (u_2.1 0), .int (u_2.1 1), .int (u_2.1 2), .int (u_2.1 3), .int (u_2.1 4), .ref (o 73)])), ((o 73), .inl (k 0, 17, .inl f73)), ((o 4), .inr (3, [.ref (o 69), .ref (o 70), .ref (o 71)])), ((o 69), .inl (k 0, 17, .inl f69)), ((o 70), .inl (k 0, 17, .inl f70)), ((o 71), .inl (k 0, 17, .inl f71)), ((o 3), .inr (2, [.int glines, .int (nI ghours), .int glaw, .int godds, .int (nI grows), .int (nI gheads), .int (nI gsayings), .int (nI gslugs), .int (nI gacts), .ref (o 26), .ref (o 27), .ref (o 28), .ref (o 29), .ref (o 30), .ref (o 31), .ref (o 32), .ref (o 33), .ref (o 34), .ref (o 35)])), ((o 26), .inl (k 0, 12, .inl f26)), ((o 30), .inl (k 0, 12, .inl f30)), ((o 31), .inl (k 0, 12, .inl f31))] := hD.sub [0, 1, 2, 3, 4, 5, 6, 7, 8, 9] (by decide) rfl
  refine lv_aload_n hx hb dX1_asLaw_4 rfl (lv_at hl 0 rfl) ?_
  refine lv_iload_n hx hb dX1_asLaw_5 rfl (lv_at hl 1 rfl) ?_
  refine x_put (ws' := [((o 6), .inr (1, [.ref (o 3), .ref (o 4), .int p0, .int (u_2.1 1), .int (u_2.1 2), .int (u_2.1 3), .int (u_2.1 4), .ref (o 73)])), ((o 73), .inl (k 0, 17, .inl f73)), ((o 4), .inr (3, [.ref (o 69), .ref (o 70), .ref (o 71)])), ((o 69), .inl (k 0, 17, .inl f69)), ((o 70), .inl (k 0, 17, .inl f70)), ((o 71), .inl (k 0, 17, .inl f71)), ((o 3), .inr (2, [.int glines, .int (nI ghours), .int glaw, .int godds, .int (nI grows), .int (nI gheads), .int (nI gsayings), .int (nI gslugs), .int (nI gacts), .ref (o 26), .ref (o 27), .ref (o 28), .ref (o 29), .ref (o 30), .ref (o 31), .ref (o 32), .ref (o 33), .ref (o 34), .ref (o 35)])), ((o 26), .inl (k 0, 12, .inl f26)), ((o 30), .inl (k 0, 12, .inl f30)), ((o 31), .inl (k 0, 12, .inl f31))]) S hK hP hD hS 0 rfl cfX1 2 lkX1_29 (by decide) rfl rfl rfl (Nat.le_of_ble_eq_true rfl) rfl dX1_asLaw_6 (fun H locs hP hD hS => ?_)
  exact x_retv S hr hlk hQ hS ((fun i => ([p0, (u_2.1 1), (u_2.1 2), (u_2.1 3), (u_2.1 4)] : List (Int32)).getD i 0), (fun i => ([] : List (Nat)).getD i 0), (fun i => ([] : List (Nat → Int32)).getD i (fun _ => 0)), (fun i => ([] : List (Nat → Int64)).getD i (fun _ => 0)), (fun i => ([] : List (Int64)).getD i 0)) trivial (x_B hP hD) dX1_asLaw_9

set_option maxHeartbeats 4000000 in
set_option maxRecDepth 100000 in
theorem ctX1_asHarder_t (l : Launch) (D : va_G) (k : Nat → ClassId) (z : Nat → Nat) (o : Nat → Nat) (tlawNow : Int32) (tharder : Int32) (ttold : Int32) (treply : Int32) (twet : Int32) (f73 : Nat → Int32) (f69 : Nat → Int32) (f70 : Nat → Int32) (f71 : Nat → Int32) (glines : Int32) (ghours : Nat) (glaw : Int32) (godds : Int32) (grows : Nat) (gheads : Nat) (gsayings : Nat) (gslugs : Nat) (gacts : Nat) (f26 : Nat → Int32) (f30 : Nat → Int32) (f31 : Nat → Int32) (p0 : Int32) (hghours : ghours ≤ 16) (hgrows : grows ≤ 4) (hgheads : gheads ≤ 12) (hgsayings : gsayings ≤ 8) (hgslugs : gslugs ≤ 4) (hgacts : gacts ≤ 30) : MU l yX1_asHarder cX1_asHarder 2 none 1 D k z [.ref (o 6), .int p0] [((o 6), .inr (1, [.ref (o 3), .ref (o 4), .int tlawNow, .int tharder, .int ttold, .int treply, .int twet, .ref (o 73)])), ((o 73), .inl (k 0, 17, .inl f73)), ((o 4), .inr (3, [.ref (o 69), .ref (o 70), .ref (o 71)])), ((o 69), .inl (k 0, 17, .inl f69)), ((o 70), .inl (k 0, 17, .inl f70)), ((o 71), .inl (k 0, 17, .inl f71)), ((o 3), .inr (2, [.int glines, .int (nI ghours), .int glaw, .int godds, .int (nI grows), .int (nI gheads), .int (nI gsayings), .int (nI gslugs), .int (nI gacts), .ref (o 26), .ref (o 27), .ref (o 28), .ref (o 29), .ref (o 30), .ref (o 31), .ref (o 32), .ref (o 33), .ref (o 34), .ref (o 35)])), ((o 26), .inl (k 0, 12, .inl f26)), ((o 30), .inl (k 0, 12, .inl f30)), ((o 31), .inl (k 0, 12, .inl f31))] 0 0 (Uv D (fun _ : (Nat → Int32) × (Nat → Nat) × (Nat → Nat → Int32) × (Nat → Nat → Int64) × (Nat → Int64) => True) (fun u : (Nat → Int32) × (Nat → Nat) × (Nat → Nat → Int32) × (Nat → Nat → Int64) × (Nat → Int64) => [((o 6), .inr (1, [.ref (o 3), .ref (o 4), .int (u.1 0), .int (u.1 1), .int (u.1 2), .int (u.1 3), .int (u.1 4), .ref (o 73)])), ((o 73), .inl (k 0, 17, .inl f73)), ((o 4), .inr (3, [.ref (o 69), .ref (o 70), .ref (o 71)])), ((o 69), .inl (k 0, 17, .inl f69)), ((o 70), .inl (k 0, 17, .inl f70)), ((o 71), .inl (k 0, 17, .inl f71)), ((o 3), .inr (2, [.int glines, .int (nI ghours), .int glaw, .int godds, .int (nI grows), .int (nI gheads), .int (nI gsayings), .int (nI gslugs), .int (nI gacts), .ref (o 26), .ref (o 27), .ref (o 28), .ref (o 29), .ref (o 30), .ref (o 31), .ref (o 32), .ref (o 33), .ref (o 34), .ref (o 35)])), ((o 26), .inl (k 0, 12, .inl f26)), ((o 30), .inl (k 0, 12, .inl f30)), ((o 31), .inl (k 0, 12, .inl f31))])) := by
  refine MU.of (by decide) (Nat.le_of_ble_eq_true rfl) ?_
  intro p e s m below meth c ls A args Q S hr hlk hnm hQ hK hP hD hZ hA hS hl
  have hx := S.1
  have hb := S.2.1
  have hl : lv_has ls 2 [(0, .ref (o 6)), (1, .int p0)] := hl
  refine lv_aload_n hx hb dX1_asHarder_0 rfl (lv_at hl 0 rfl) ?_
  refine x_muVv (wr := []) (As := []) S hK hP hD hZ hS hA hl mwX1_asItIs lkX1_44 (ctX1_asItIs_c l D k z (fun i => ([0, 0, 0, (o 3), (o 4), (o 6), 0, 0, 0, 0, 0, 0, 0, 0, 0, 0, 0, 0, 0, 0, 0, 0, 0, 0, 0, 0, (o 26), (o 27), (o 28), (o 29), (o 30), (o 31), (o 32), (o 33), (o 34), (o 35), 0, 0, 0, 0, 0, 0, 0, 0, 0, 0, 0, 0, 0, 0, 0, 0, 0, 0, 0, 0, 0, 0, 0, 0, 0, 0, 0, 0, 0, 0, 0, 0, 0, (o 69), (o 70), (o 71), (o 73)] : List Nat).getD i 0) tlawNow tharder ttold treply twet f73 f69 f70 f71 glines ghours glaw godds grows gheads gsayings gslugs gacts f26 f30 f31 (by omega) (by omega) (by omega) (by omega) (by omega) (by omega)) [0, 1, 2, 3, 4, 5, 6, 7, 8, 9] [] rfl rfl (by decide) (by decide) (by decide) rfl rfl rfl rfl rfl ⟨Nat.le_of_ble_eq_true rfl, Nat.le_of_ble_eq_true rfl, Nat.le_of_ble_eq_true rfl⟩ dX1_asHarder_1 ⟨Nat.le_of_ble_eq_true rfl, Nat.le_of_ble_eq_true rfl⟩ (fun u_2 H locs hr_1 hP hD hS => ?_)
  have hP : va_P D vwCl [((o 6), .inr (1, [.ref (o 3), .ref (o 4), .int (u_2.1 0), .int (u_2.1 1), .int (u_2.1 2), .int (u_2.1 3), .int (u_2.1 4), .ref (o 73)])), ((o 73), .inl (k 0, 17, .inl f73)), ((o 4), .inr (3, [.ref (o 69), .ref (o 70), .ref (o 71)])), ((o 69), .inl (k 0, 17, .inl f69)), ((o 70), .inl (k 0, 17, .inl f70)), ((o 71), .inl (k 0, 17, .inl f71)), ((o 3), .inr (2, [.int glines, .int (nI ghours), .int glaw, .int godds, .int (nI grows), .int (nI gheads), .int (nI gsayings), .int (nI gslugs), .int (nI gacts), .ref (o 26), .ref (o 27), .ref (o 28), .ref (o 29), .ref (o 30), .ref (o 31), .ref (o 32), .ref (o 33), .ref (o 34), .ref (o 35)])), ((o 26), .inl (k 0, 12, .inl f26)), ((o 30), .inl (k 0, 12, .inl f30)), ((o 31), .inl (k 0, 12, .inl f31))] H := hP.sub [0, 1, 2, 3, 4, 5, 6, 7, 8, 9] rfl
  have hD : va_D A [((o 6), .inr (1, [.ref (o 3), .ref (o 4), .int (u_2.1 0), .int (u_2.1 1), .int (u_2.1 2), .int (u_2.1 3), .int (u_2.1 4), .ref (o 73)])), ((o 73), .inl (k 0, 17, .inl f73)), ((o 4), .inr (3, [.ref (o 69), .ref (o 70), .ref (o 71)])), ((o 69), .inl (k 0, 17, .inl f69)), ((o 70), .inl (k 0, 17, .inl f70)), ((o 71), .inl (k 0, 17, .inl f71)), ((o 3), .inr (2, [.int glines, .int (nI ghours), .int glaw, .int godds, .int (nI grows), .int (nI gheads), .int (nI gsayings), .int (nI gslugs), .int (nI gacts), .ref (o 26), .ref (o 27), .ref (o 28), .ref (o 29), .ref (o 30), .ref (o 31), .ref (o 32), .ref (o 33), .ref (o 34), .ref (o 35)])), ((o 26), .inl (k 0, 12, .inl f26)), ((o 30), .inl (k 0, 12, .inl f30)), ((o 31), .inl (k 0, 12, .inl f31))] := hD.sub [0, 1, 2, 3, 4, 5, 6, 7, 8, 9] (by decide) rfl
  refine lv_aload_n hx hb dX1_asHarder_4 rfl (lv_at hl 0 rfl) ?_
  refine lv_iload_n hx hb dX1_asHarder_5 rfl (lv_at hl 1 rfl) ?_
  refine x_put (ws' := [((o 6), .inr (1, [.ref (o 3), .ref (o 4), .int (u_2.1 0), .int p0, .int (u_2.1 2), .int (u_2.1 3), .int (u_2.1 4), .ref (o 73)])), ((o 73), .inl (k 0, 17, .inl f73)), ((o 4), .inr (3, [.ref (o 69), .ref (o 70), .ref (o 71)])), ((o 69), .inl (k 0, 17, .inl f69)), ((o 70), .inl (k 0, 17, .inl f70)), ((o 71), .inl (k 0, 17, .inl f71)), ((o 3), .inr (2, [.int glines, .int (nI ghours), .int glaw, .int godds, .int (nI grows), .int (nI gheads), .int (nI gsayings), .int (nI gslugs), .int (nI gacts), .ref (o 26), .ref (o 27), .ref (o 28), .ref (o 29), .ref (o 30), .ref (o 31), .ref (o 32), .ref (o 33), .ref (o 34), .ref (o 35)])), ((o 26), .inl (k 0, 12, .inl f26)), ((o 30), .inl (k 0, 12, .inl f30)), ((o 31), .inl (k 0, 12, .inl f31))]) S hK hP hD hS 0 rfl cfX1 3 lkX1_32 (by decide) rfl rfl rfl (Nat.le_of_ble_eq_true rfl) rfl dX1_asHarder_6 (fun H locs hP hD hS => ?_)
  exact x_retv S hr hlk hQ hS ((fun i => ([(u_2.1 0), p0, (u_2.1 2), (u_2.1 3), (u_2.1 4)] : List (Int32)).getD i 0), (fun i => ([] : List (Nat)).getD i 0), (fun i => ([] : List (Nat → Int32)).getD i (fun _ => 0)), (fun i => ([] : List (Nat → Int64)).getD i (fun _ => 0)), (fun i => ([] : List (Int64)).getD i 0)) trivial (x_B hP hD) dX1_asHarder_9

set_option maxHeartbeats 4000000 in
set_option maxRecDepth 100000 in
theorem ctX1_asWet_t (l : Launch) (D : va_G) (k : Nat → ClassId) (z : Nat → Nat) (o : Nat → Nat) (tlawNow : Int32) (tharder : Int32) (ttold : Int32) (treply : Int32) (twet : Int32) (f73 : Nat → Int32) (f69 : Nat → Int32) (f70 : Nat → Int32) (f71 : Nat → Int32) (glines : Int32) (ghours : Nat) (glaw : Int32) (godds : Int32) (grows : Nat) (gheads : Nat) (gsayings : Nat) (gslugs : Nat) (gacts : Nat) (f26 : Nat → Int32) (f30 : Nat → Int32) (f31 : Nat → Int32) (p0 : Int32) (hghours : ghours ≤ 16) (hgrows : grows ≤ 4) (hgheads : gheads ≤ 12) (hgsayings : gsayings ≤ 8) (hgslugs : gslugs ≤ 4) (hgacts : gacts ≤ 30) : MU l yX1_asWet cX1_asWet 2 none 1 D k z [.ref (o 6), .int p0] [((o 6), .inr (1, [.ref (o 3), .ref (o 4), .int tlawNow, .int tharder, .int ttold, .int treply, .int twet, .ref (o 73)])), ((o 73), .inl (k 0, 17, .inl f73)), ((o 4), .inr (3, [.ref (o 69), .ref (o 70), .ref (o 71)])), ((o 69), .inl (k 0, 17, .inl f69)), ((o 70), .inl (k 0, 17, .inl f70)), ((o 71), .inl (k 0, 17, .inl f71)), ((o 3), .inr (2, [.int glines, .int (nI ghours), .int glaw, .int godds, .int (nI grows), .int (nI gheads), .int (nI gsayings), .int (nI gslugs), .int (nI gacts), .ref (o 26), .ref (o 27), .ref (o 28), .ref (o 29), .ref (o 30), .ref (o 31), .ref (o 32), .ref (o 33), .ref (o 34), .ref (o 35)])), ((o 26), .inl (k 0, 12, .inl f26)), ((o 30), .inl (k 0, 12, .inl f30)), ((o 31), .inl (k 0, 12, .inl f31))] 0 0 (Uv D (fun _ : (Nat → Int32) × (Nat → Nat) × (Nat → Nat → Int32) × (Nat → Nat → Int64) × (Nat → Int64) => True) (fun u : (Nat → Int32) × (Nat → Nat) × (Nat → Nat → Int32) × (Nat → Nat → Int64) × (Nat → Int64) => [((o 6), .inr (1, [.ref (o 3), .ref (o 4), .int (u.1 0), .int (u.1 1), .int (u.1 2), .int (u.1 3), .int (u.1 4), .ref (o 73)])), ((o 73), .inl (k 0, 17, .inl f73)), ((o 4), .inr (3, [.ref (o 69), .ref (o 70), .ref (o 71)])), ((o 69), .inl (k 0, 17, .inl f69)), ((o 70), .inl (k 0, 17, .inl f70)), ((o 71), .inl (k 0, 17, .inl f71)), ((o 3), .inr (2, [.int glines, .int (nI ghours), .int glaw, .int godds, .int (nI grows), .int (nI gheads), .int (nI gsayings), .int (nI gslugs), .int (nI gacts), .ref (o 26), .ref (o 27), .ref (o 28), .ref (o 29), .ref (o 30), .ref (o 31), .ref (o 32), .ref (o 33), .ref (o 34), .ref (o 35)])), ((o 26), .inl (k 0, 12, .inl f26)), ((o 30), .inl (k 0, 12, .inl f30)), ((o 31), .inl (k 0, 12, .inl f31))])) := by
  refine MU.of (by decide) (Nat.le_of_ble_eq_true rfl) ?_
  intro p e s m below meth c ls A args Q S hr hlk hnm hQ hK hP hD hZ hA hS hl
  have hx := S.1
  have hb := S.2.1
  have hl : lv_has ls 2 [(0, .ref (o 6)), (1, .int p0)] := hl
  refine lv_aload_n hx hb dX1_asWet_0 rfl (lv_at hl 0 rfl) ?_
  refine x_muVv (wr := []) (As := []) S hK hP hD hZ hS hA hl mwX1_asItIs lkX1_44 (ctX1_asItIs_c l D k z (fun i => ([0, 0, 0, (o 3), (o 4), (o 6), 0, 0, 0, 0, 0, 0, 0, 0, 0, 0, 0, 0, 0, 0, 0, 0, 0, 0, 0, 0, (o 26), (o 27), (o 28), (o 29), (o 30), (o 31), (o 32), (o 33), (o 34), (o 35), 0, 0, 0, 0, 0, 0, 0, 0, 0, 0, 0, 0, 0, 0, 0, 0, 0, 0, 0, 0, 0, 0, 0, 0, 0, 0, 0, 0, 0, 0, 0, 0, 0, (o 69), (o 70), (o 71), (o 73)] : List Nat).getD i 0) tlawNow tharder ttold treply twet f73 f69 f70 f71 glines ghours glaw godds grows gheads gsayings gslugs gacts f26 f30 f31 (by omega) (by omega) (by omega) (by omega) (by omega) (by omega)) [0, 1, 2, 3, 4, 5, 6, 7, 8, 9] [] rfl rfl (by decide) (by decide) (by decide) rfl rfl rfl rfl rfl ⟨Nat.le_of_ble_eq_true rfl, Nat.le_of_ble_eq_true rfl, Nat.le_of_ble_eq_true rfl⟩ dX1_asWet_1 ⟨Nat.le_of_ble_eq_true rfl, Nat.le_of_ble_eq_true rfl⟩ (fun u_2 H locs hr_1 hP hD hS => ?_)
  have hP : va_P D vwCl [((o 6), .inr (1, [.ref (o 3), .ref (o 4), .int (u_2.1 0), .int (u_2.1 1), .int (u_2.1 2), .int (u_2.1 3), .int (u_2.1 4), .ref (o 73)])), ((o 73), .inl (k 0, 17, .inl f73)), ((o 4), .inr (3, [.ref (o 69), .ref (o 70), .ref (o 71)])), ((o 69), .inl (k 0, 17, .inl f69)), ((o 70), .inl (k 0, 17, .inl f70)), ((o 71), .inl (k 0, 17, .inl f71)), ((o 3), .inr (2, [.int glines, .int (nI ghours), .int glaw, .int godds, .int (nI grows), .int (nI gheads), .int (nI gsayings), .int (nI gslugs), .int (nI gacts), .ref (o 26), .ref (o 27), .ref (o 28), .ref (o 29), .ref (o 30), .ref (o 31), .ref (o 32), .ref (o 33), .ref (o 34), .ref (o 35)])), ((o 26), .inl (k 0, 12, .inl f26)), ((o 30), .inl (k 0, 12, .inl f30)), ((o 31), .inl (k 0, 12, .inl f31))] H := hP.sub [0, 1, 2, 3, 4, 5, 6, 7, 8, 9] rfl
  have hD : va_D A [((o 6), .inr (1, [.ref (o 3), .ref (o 4), .int (u_2.1 0), .int (u_2.1 1), .int (u_2.1 2), .int (u_2.1 3), .int (u_2.1 4), .ref (o 73)])), ((o 73), .inl (k 0, 17, .inl f73)), ((o 4), .inr (3, [.ref (o 69), .ref (o 70), .ref (o 71)])), ((o 69), .inl (k 0, 17, .inl f69)), ((o 70), .inl (k 0, 17, .inl f70)), ((o 71), .inl (k 0, 17, .inl f71)), ((o 3), .inr (2, [.int glines, .int (nI ghours), .int glaw, .int godds, .int (nI grows), .int (nI gheads), .int (nI gsayings), .int (nI gslugs), .int (nI gacts), .ref (o 26), .ref (o 27), .ref (o 28), .ref (o 29), .ref (o 30), .ref (o 31), .ref (o 32), .ref (o 33), .ref (o 34), .ref (o 35)])), ((o 26), .inl (k 0, 12, .inl f26)), ((o 30), .inl (k 0, 12, .inl f30)), ((o 31), .inl (k 0, 12, .inl f31))] := hD.sub [0, 1, 2, 3, 4, 5, 6, 7, 8, 9] (by decide) rfl
  refine lv_aload_n hx hb dX1_asWet_4 rfl (lv_at hl 0 rfl) ?_
  refine lv_iload_n hx hb dX1_asWet_5 rfl (lv_at hl 1 rfl) ?_
  refine x_put (ws' := [((o 6), .inr (1, [.ref (o 3), .ref (o 4), .int (u_2.1 0), .int (u_2.1 1), .int (u_2.1 2), .int (u_2.1 3), .int p0, .ref (o 73)])), ((o 73), .inl (k 0, 17, .inl f73)), ((o 4), .inr (3, [.ref (o 69), .ref (o 70), .ref (o 71)])), ((o 69), .inl (k 0, 17, .inl f69)), ((o 70), .inl (k 0, 17, .inl f70)), ((o 71), .inl (k 0, 17, .inl f71)), ((o 3), .inr (2, [.int glines, .int (nI ghours), .int glaw, .int godds, .int (nI grows), .int (nI gheads), .int (nI gsayings), .int (nI gslugs), .int (nI gacts), .ref (o 26), .ref (o 27), .ref (o 28), .ref (o 29), .ref (o 30), .ref (o 31), .ref (o 32), .ref (o 33), .ref (o 34), .ref (o 35)])), ((o 26), .inl (k 0, 12, .inl f26)), ((o 30), .inl (k 0, 12, .inl f30)), ((o 31), .inl (k 0, 12, .inl f31))]) S hK hP hD hS 0 rfl cfX1 6 lkX1_41 (by decide) rfl rfl rfl (Nat.le_of_ble_eq_true rfl) rfl dX1_asWet_6 (fun H locs hP hD hS => ?_)
  exact x_retv S hr hlk hQ hS ((fun i => ([(u_2.1 0), (u_2.1 1), (u_2.1 2), (u_2.1 3), p0] : List (Int32)).getD i 0), (fun i => ([] : List (Nat)).getD i 0), (fun i => ([] : List (Nat → Int32)).getD i (fun _ => 0)), (fun i => ([] : List (Nat → Int64)).getD i (fun _ => 0)), (fun i => ([] : List (Int64)).getD i 0)) trivial (x_B hP hD) dX1_asWet_9

set_option maxHeartbeats 4000000 in
set_option maxRecDepth 100000 in
theorem ctX1_arrive_t (l : Launch) (D : va_G) (k : Nat → ClassId) (z : Nat → Nat) (o : Nat → Nat) (tlawNow : Int32) (tharder : Int32) (ttold : Int32) (treply : Int32) (twet : Int32) (f73 : Nat → Int32) (f69 : Nat → Int32) (f70 : Nat → Int32) (f71 : Nat → Int32) (glines : Int32) (ghours : Nat) (glaw : Int32) (godds : Int32) (grows : Nat) (gheads : Nat) (gsayings : Nat) (gslugs : Nat) (gacts : Nat) (f26 : Nat → Int32) (f30 : Nat → Int32) (f31 : Nat → Int32) (p0 : Nat) (p1 : Int32) (hghours : ghours ≤ 16) (hgrows : grows ≤ 4) (hgheads : gheads ≤ 12) (hgsayings : gsayings ≤ 8) (hgslugs : gslugs ≤ 4) (hgacts : gacts ≤ 30) (hp0 : p0 ≤ 16) : RO l yX1_arrive cX1_arrive 3 (some .int) 1 D k z [.ref (o 6), .int (nI p0), .int p1] [((o 6), .inr (1, [.ref (o 3), .ref (o 4), .int tlawNow, .int tharder, .int ttold, .int treply, .int twet, .ref (o 73)])), ((o 73), .inl (k 0, 17, .inl f73)), ((o 4), .inr (3, [.ref (o 69), .ref (o 70), .ref (o 71)])), ((o 69), .inl (k 0, 17, .inl f69)), ((o 70), .inl (k 0, 17, .inl f70)), ((o 71), .inl (k 0, 17, .inl f71)), ((o 3), .inr (2, [.int glines, .int (nI ghours), .int glaw, .int godds, .int (nI grows), .int (nI gheads), .int (nI gsayings), .int (nI gslugs), .int (nI gacts), .ref (o 26), .ref (o 27), .ref (o 28), .ref (o 29), .ref (o 30), .ref (o 31), .ref (o 32), .ref (o 33), .ref (o 34), .ref (o 35)])), ((o 26), .inl (k 0, 12, .inl f26)), ((o 30), .inl (k 0, 12, .inl f30)), ((o 31), .inl (k 0, 12, .inl f31))] (Qi (fun r : Int32 => True)) := by
  refine RO.of (by decide) (Nat.le_of_ble_eq_true rfl) ?_
  intro p e s m below meth c ls A B args Q S hr hlk hQ hK hP hDW hZ hAB hBA hA hS hl
  have hx := S.1
  have hb := S.2.1
  have hl : lv_has ls 3 [(0, .ref (o 6)), (1, .int (nI p0)), (2, .int p1)] := hl
  refine lv_iload_n hx hb dX1_arrive_0 rfl (lv_at hl 2 rfl) ?_
  refine lv_aload_n hx hb dX1_arrive_1 rfl (lv_at hl 0 rfl) ?_
  refine x_get S hK hP 0 rfl cfX1 1 lkX1_19 (by decide) rfl dX1_arrive_2 ?_
  refine x_get S hK hP 2 rfl cfX3 0 lkX1_51 (by decide) rfl dX1_arrive_5 ?_
  refine lv_iload_n hx hb dX1_arrive_8 rfl (lv_at hl 1 rfl) ?_
  refine x_iald S hK hP 3 rfl (vp_in_nI (by omega) (by decide)) dX1_arrive_9 ?_
  refine lv_topi (fun v_1 ev_1 => ?_)
  refine x_roSNi (As := [.int p1, .int v_1]) S hK hP hDW hZ hAB hBA hS hA hl mwX10_heard lkX1_56 (ctX10_heard l D k z p1 v_1 ) [] rfl (by decide) rfl rfl ⟨Nat.le_of_ble_eq_true rfl, Nat.le_of_ble_eq_true rfl, Nat.le_of_ble_eq_true rfl⟩ dX1_arrive_10 ⟨Nat.le_of_ble_eq_true rfl, Nat.le_of_ble_eq_true rfl⟩ (fun r_2 H locs hr_2 hP hS => ?_)
  refine lv_aload_n hx hb dX1_arrive_13 rfl (lv_at hl 0 rfl) ?_
  refine x_get S hK hP 0 rfl cfX1 1 lkX1_19 (by decide) rfl dX1_arrive_14 ?_
  refine x_get S hK hP 2 rfl cfX3 1 lkX1_59 (by decide) rfl dX1_arrive_17 ?_
  refine lv_iload_n hx hb dX1_arrive_20 rfl (lv_at hl 1 rfl) ?_
  refine x_iald S hK hP 4 rfl (vp_in_nI (by omega) (by decide)) dX1_arrive_21 ?_
  refine lv_topi (fun v_4 ev_4 => ?_)
  refine x_roSNi (As := [.int v_4]) S hK hP hDW hZ hAB hBA hS hA hl mwX10_inBoth lkX1_62 (ctX10_inBoth l D k z v_4 ) [] rfl (by decide) rfl rfl ⟨Nat.le_of_ble_eq_true rfl, Nat.le_of_ble_eq_true rfl, Nat.le_of_ble_eq_true rfl⟩ dX1_arrive_22 ⟨Nat.le_of_ble_eq_true rfl, Nat.le_of_ble_eq_true rfl⟩ (fun r_5 H locs hr_5 hP hS => ?_)
  refine lv_iconst (v := (-1)) hx hb dX1_arrive_25 (by decide) ?_
  refine lv_ixor hx hb dX1_arrive_26 ?_
  refine lv_topi (fun v_7 ev_7 => ?_)
  refine lv_iand hx hb dX1_arrive_27 ?_
  refine lv_topi (fun v_8 ev_8 => ?_)
  exact x_reti S hr hlk hQ hS () trivial x_T dX1_arrive_28

set_option maxHeartbeats 4000000 in
set_option maxRecDepth 100000 in
theorem ctX1_takersAt_t (l : Launch) (D : va_G) (k : Nat → ClassId) (z : Nat → Nat) (o : Nat → Nat) (tlawNow : Int32) (tharder : Int32) (ttold : Int32) (treply : Int32) (twet : Int32) (f73 : Nat → Int32) (f69 : Nat → Int32) (f70 : Nat → Int32) (f71 : Nat → Int32) (glines : Int32) (ghours : Nat) (glaw : Int32) (godds : Int32) (grows : Nat) (gheads : Nat) (gsayings : Nat) (gslugs : Nat) (gacts : Nat) (f26 : Nat → Int32) (f30 : Nat → Int32) (f31 : Nat → Int32) (p0 : Nat) (hghours : ghours ≤ 16) (hgrows : grows ≤ 4) (hgheads : gheads ≤ 12) (hgsayings : gsayings ≤ 8) (hgslugs : gslugs ≤ 4) (hgacts : gacts ≤ 30) (hp0 : p0 ≤ 16) : RO l yX1_takersAt cX1_takersAt 2 (some .int) 0 D k z [.ref (o 6), .int (nI p0)] [((o 6), .inr (1, [.ref (o 3), .ref (o 4), .int tlawNow, .int tharder, .int ttold, .int treply, .int twet, .ref (o 73)])), ((o 73), .inl (k 0, 17, .inl f73)), ((o 4), .inr (3, [.ref (o 69), .ref (o 70), .ref (o 71)])), ((o 69), .inl (k 0, 17, .inl f69)), ((o 70), .inl (k 0, 17, .inl f70)), ((o 71), .inl (k 0, 17, .inl f71)), ((o 3), .inr (2, [.int glines, .int (nI ghours), .int glaw, .int godds, .int (nI grows), .int (nI gheads), .int (nI gsayings), .int (nI gslugs), .int (nI gacts), .ref (o 26), .ref (o 27), .ref (o 28), .ref (o 29), .ref (o 30), .ref (o 31), .ref (o 32), .ref (o 33), .ref (o 34), .ref (o 35)])), ((o 26), .inl (k 0, 12, .inl f26)), ((o 30), .inl (k 0, 12, .inl f30)), ((o 31), .inl (k 0, 12, .inl f31))] (Qi (fun r : Int32 => True)) := by
  refine RO.of (by decide) (Nat.le_of_ble_eq_true rfl) ?_
  intro p e s m below meth c ls A B args Q S hr hlk hQ hK hP hDW hZ hAB hBA hA hS hl
  have hx := S.1
  have hb := S.2.1
  have hl : lv_has ls 2 [(0, .ref (o 6)), (1, .int (nI p0))] := hl
  refine lv_aload_n hx hb dX1_takersAt_0 rfl (lv_at hl 0 rfl) ?_
  refine x_get S hK hP 0 rfl cfX1 1 lkX1_19 (by decide) rfl dX1_takersAt_1 ?_
  refine x_get S hK hP 2 rfl cfX3 2 lkX1_78 (by decide) rfl dX1_takersAt_4 ?_
  refine lv_iload_n hx hb dX1_takersAt_7 rfl (lv_at hl 1 rfl) ?_
  refine x_iald S hK hP 5 rfl (vp_in_nI (by omega) (by decide)) dX1_takersAt_8 ?_
  refine lv_topi (fun v_1 ev_1 => ?_)
  refine lv_aload_n hx hb dX1_takersAt_9 rfl (lv_at hl 0 rfl) ?_
  refine x_get S hK hP 0 rfl cfX1 1 lkX1_19 (by decide) rfl dX1_takersAt_10 ?_
  refine x_get S hK hP 2 rfl cfX3 1 lkX1_59 (by decide) rfl dX1_takersAt_13 ?_
  refine lv_iload_n hx hb dX1_takersAt_16 rfl (lv_at hl 1 rfl) ?_
  refine x_iald S hK hP 4 rfl (vp_in_nI (by omega) (by decide)) dX1_takersAt_17 ?_
  refine lv_topi (fun v_2 ev_2 => ?_)
  refine lv_iconst (v := (-1)) hx hb dX1_takersAt_18 (by decide) ?_
  refine lv_ixor hx hb dX1_takersAt_19 ?_
  refine lv_topi (fun v_3 ev_3 => ?_)
  refine lv_iand hx hb dX1_takersAt_20 ?_
  refine lv_topi (fun v_4 ev_4 => ?_)
  exact x_reti S hr hlk hQ hS () trivial x_T dX1_takersAt_21

set_option maxHeartbeats 4000000 in
set_option maxRecDepth 100000 in
theorem ctX1_lean_t (l : Launch) (D : va_G) (k : Nat → ClassId) (z : Nat → Nat) (o : Nat → Nat) (tlawNow : Int32) (tharder : Int32) (ttold : Int32) (treply : Int32) (twet : Int32) (f73 : Nat → Int32) (f69 : Nat → Int32) (f70 : Nat → Int32) (f71 : Nat → Int32) (glines : Int32) (ghours : Nat) (glaw : Int32) (godds : Int32) (grows : Nat) (gheads : Nat) (gsayings : Nat) (gslugs : Nat) (gacts : Nat) (f26 : Nat → Int32) (f30 : Nat → Int32) (f31 : Nat → Int32) (p0 : Nat) (p1 : Int32) (hghours : ghours ≤ 16) (hgrows : grows ≤ 4) (hgheads : gheads ≤ 12) (hgsayings : gsayings ≤ 8) (hgslugs : gslugs ≤ 4) (hgacts : gacts ≤ 30) (hp0 : p0 ≤ 11) : RO l yX1_lean cX1_lean 7 (some .int) 1 D k z [.ref (o 6), .int (nI p0), .int p1] [((o 6), .inr (1, [.ref (o 3), .ref (o 4), .int tlawNow, .int tharder, .int ttold, .int treply, .int twet, .ref (o 73)])), ((o 73), .inl (k 0, 17, .inl f73)), ((o 4), .inr (3, [.ref (o 69), .ref (o 70), .ref (o 71)])), ((o 69), .inl (k 0, 17, .inl f69)), ((o 70), .inl (k 0, 17, .inl f70)), ((o 71), .inl (k 0, 17, .inl f71)), ((o 3), .inr (2, [.int glines, .int (nI ghours), .int glaw, .int godds, .int (nI grows), .int (nI gheads), .int (nI gsayings), .int (nI gslugs), .int (nI gacts), .ref (o 26), .ref (o 27), .ref (o 28), .ref (o 29), .ref (o 30), .ref (o 31), .ref (o 32), .ref (o 33), .ref (o 34), .ref (o 35)])), ((o 26), .inl (k 0, 12, .inl f26)), ((o 30), .inl (k 0, 12, .inl f30)), ((o 31), .inl (k 0, 12, .inl f31))] (Qi (fun r : Int32 => True)) := by
  refine RO.of (by decide) (Nat.le_of_ble_eq_true rfl) ?_
  intro p e s m below meth c ls A B args Q S hr hlk hQ hK hP hDW hZ hAB hBA hA hS hl
  have hx := S.1
  have hb := S.2.1
  have hl : lv_has ls 7 [(0, .ref (o 6)), (1, .int (nI p0)), (2, .int p1)] := hl
  refine lv_aload_n hx hb dX1_lean_0 rfl (lv_at hl 0 rfl) ?_
  refine x_get S hK hP 0 rfl cfX1 0 lkX1_15 (by decide) rfl dX1_lean_1 ?_
  refine x_get S hK hP 6 rfl cfX2 13 lkX1_84 (by decide) rfl dX1_lean_4 ?_
  refine lv_iload_n hx hb dX1_lean_7 rfl (lv_at hl 1 rfl) ?_
  refine x_iald S hK hP 8 rfl (vp_in_nI (by omega) (by decide)) dX1_lean_8 ?_
  refine lv_topi (fun v_1 ev_1 => ?_)
  refine lv_istore_n (lv' := [(3, .int v_1), (0, .ref (o 6)), (1, .int (nI p0)), (2, .int p1)]) hx hb dX1_lean_9 rfl hl (by decide) rfl (fun ls hl => ?_)
  refine lv_aload_n hx hb dX1_lean_10 rfl (lv_at hl 1 rfl) ?_
  refine x_get S hK hP 0 rfl cfX1 2 lkX1_29 (by decide) rfl dX1_lean_11 ?_
  refine lv_iconst (v := 3) hx hb dX1_lean_14 (by decide) ?_
  refine lv_icmp_ne (tgt := 26) hx hb dX1_lean_15 (by decide) (fun c_2 => ?_) (fun c_2 => ?_)
  · skip
    refine lv_iload_n hx hb dX1_lean_26 rfl (lv_at hl 0 rfl) ?_
    refine lv_istore (lv' := [(4, .int v_1), (3, .int v_1), (0, .ref (o 6)), (1, .int (nI p0)), (2, .int p1)]) hx hb dX1_lean_27 hl (by decide) rfl (fun ls hl => ?_)
    refine lv_iload_n hx hb dX1_lean_29 rfl (lv_at hl 4 rfl) ?_
    refine lv_iload hx hb dX1_lean_30 (lv_at hl 0 rfl) ?_
    refine lv_iand hx hb dX1_lean_32 ?_
    refine lv_topi (fun v_3 ev_3 => ?_)
    refine x_roSi (As := [.int v_3]) S hK hP hDW hZ hAB hBA hS hA hl mwJ6_bitCount_0f7a4 lkX1_98 (ctJ6_bitCount_0f7a4 l D k z v_3 ) [] rfl (by decide) rfl rfl ⟨Nat.le_of_ble_eq_true rfl, Nat.le_of_ble_eq_true rfl, Nat.le_of_ble_eq_true rfl⟩ dX1_lean_33 ⟨Nat.le_of_ble_eq_true rfl, Nat.le_of_ble_eq_true rfl⟩ (fun r_4 H locs hr_4 hP hS => ?_)
    obtain ⟨n_6, rfl, hn_6⟩ := hr_4
    refine lv_iload_n hx hb dX1_lean_36 rfl (lv_at hl 4 rfl) ?_
    refine lv_iload hx hb dX1_lean_37 (lv_at hl 0 rfl) ?_
    refine lv_bipush (v := 16) hx hb dX1_lean_39 (by decide) ?_
    refine lv_ishl hx hb dX1_lean_41 ?_
    refine lv_topi (fun v_7 ev_7 => ?_)
    refine lv_iand hx hb dX1_lean_42 ?_
    refine lv_topi (fun v_8 ev_8 => ?_)
    refine x_roSi (As := [.int v_8]) S hK hP hDW hZ hAB hBA hS hA hl mwJ6_bitCount_0f7a4 lkX1_98 (ctJ6_bitCount_0f7a4 l D k z v_8 ) [] rfl (by decide) rfl rfl ⟨Nat.le_of_ble_eq_true rfl, Nat.le_of_ble_eq_true rfl, Nat.le_of_ble_eq_true rfl⟩ dX1_lean_43 ⟨Nat.le_of_ble_eq_true rfl, Nat.le_of_ble_eq_true rfl⟩ (fun r_9 H locs hr_9 hP hS => ?_)
    obtain ⟨n_11, rfl, hn_11⟩ := hr_9
    refine lv_isub hx hb dX1_lean_46 ?_
    refine lv_topi (fun v_12 ev_12 => ?_)
    refine lv_istore (lv' := [(5, .int v_12), (4, .int v_1), (3, .int v_1), (0, .ref (o 6)), (1, .int (nI p0)), (2, .int p1)]) hx hb dX1_lean_47 hl (by decide) rfl (fun ls hl => ?_)
    refine lv_aload_n hx hb dX1_lean_49 rfl (lv_at hl 3 rfl) ?_
    refine x_get S hK hP 0 rfl cfX1 2 lkX1_29 (by decide) rfl dX1_lean_50 ?_
    refine lv_iconst (v := 1) hx hb dX1_lean_53 (by decide) ?_
    refine lv_icmp_ne (tgt := 91) hx hb dX1_lean_54 (by decide) (fun c_13 => ?_) (fun c_13 => ?_)
    · skip
      refine lv_iload hx hb dX1_lean_91 (lv_at hl 0 rfl) ?_
      exact x_reti S hr hlk hQ hS () trivial x_T dX1_lean_93
    · skip
      refine lv_aload_n hx hb dX1_lean_57 rfl (lv_at hl 3 rfl) ?_
      refine x_get S hK hP 0 rfl cfX1 0 lkX1_15 (by decide) rfl dX1_lean_58 ?_
      refine x_get S hK hP 6 rfl cfX2 14 lkX1_103 (by decide) rfl dX1_lean_61 ?_
      refine lv_iload_n hx hb dX1_lean_64 rfl (lv_at hl 4 rfl) ?_
      refine x_iald S hK hP 9 rfl (vp_in_nI (by omega) (by decide)) dX1_lean_65 ?_
      refine lv_topi (fun v_14 ev_14 => ?_)
      refine lv_istore (lv' := [(6, .int v_14), (5, .int v_12), (4, .int v_1), (3, .int v_1), (0, .ref (o 6)), (1, .int (nI p0)), (2, .int p1)]) hx hb dX1_lean_66 hl (by decide) rfl (fun ls hl => ?_)
      refine lv_iload hx hb dX1_lean_68 (lv_at hl 1 rfl) ?_
      refine lv_iload_n hx hb dX1_lean_70 rfl (lv_at hl 6 rfl) ?_
      refine lv_iload hx hb dX1_lean_71 (lv_at hl 0 rfl) ?_
      refine lv_iand hx hb dX1_lean_73 ?_
      refine lv_topi (fun v_15 ev_15 => ?_)
      refine x_roSi (As := [.int v_15]) S hK hP hDW hZ hAB hBA hS hA hl mwJ6_bitCount_0f7a4 lkX1_98 (ctJ6_bitCount_0f7a4 l D k z v_15 ) [] rfl (by decide) rfl rfl ⟨Nat.le_of_ble_eq_true rfl, Nat.le_of_ble_eq_true rfl, Nat.le_of_ble_eq_true rfl⟩ dX1_lean_74 ⟨Nat.le_of_ble_eq_true rfl, Nat.le_of_ble_eq_true rfl⟩ (fun r_16 H locs hr_16 hP hS => ?_)
      obtain ⟨n_18, rfl, hn_18⟩ := hr_16
      refine lv_iload_n hx hb dX1_lean_77 rfl (lv_at hl 6 rfl) ?_
      refine lv_iload hx hb dX1_lean_78 (lv_at hl 0 rfl) ?_
      refine lv_bipush (v := 16) hx hb dX1_lean_80 (by decide) ?_
      refine lv_ishl hx hb dX1_lean_82 ?_
      refine lv_topi (fun v_19 ev_19 => ?_)
      refine lv_iand hx hb dX1_lean_83 ?_
      refine lv_topi (fun v_20 ev_20 => ?_)
      refine x_roSi (As := [.int v_20]) S hK hP hDW hZ hAB hBA hS hA hl mwJ6_bitCount_0f7a4 lkX1_98 (ctJ6_bitCount_0f7a4 l D k z v_20 ) [] rfl (by decide) rfl rfl ⟨Nat.le_of_ble_eq_true rfl, Nat.le_of_ble_eq_true rfl, Nat.le_of_ble_eq_true rfl⟩ dX1_lean_84 ⟨Nat.le_of_ble_eq_true rfl, Nat.le_of_ble_eq_true rfl⟩ (fun r_21 H locs hr_21 hP hS => ?_)
      obtain ⟨n_23, rfl, hn_23⟩ := hr_21
      refine lv_isub hx hb dX1_lean_87 ?_
      refine lv_topi (fun v_24 ev_24 => ?_)
      refine lv_iadd hx hb dX1_lean_88 ?_
      refine lv_topi (fun v_25 ev_25 => ?_)
      refine lv_istore (lv' := [(5, .int v_25), (6, .int v_14), (4, .int v_1), (3, .int v_1), (0, .ref (o 6)), (1, .int (nI p0)), (2, .int p1)]) hx hb dX1_lean_89 hl (by decide) rfl (fun ls hl => ?_)
      refine lv_iload hx hb dX1_lean_91 (lv_at hl 0 rfl) ?_
      exact x_reti S hr hlk hQ hS () trivial x_T dX1_lean_93
  · skip
    refine lv_iload_n hx hb dX1_lean_18 rfl (lv_at hl 0 rfl) ?_
    refine lv_iconst (v := 1) hx hb dX1_lean_19 (by decide) ?_
    refine lv_iload_n hx hb dX1_lean_20 rfl (lv_at hl 2 rfl) ?_
    refine lv_ishl hx hb dX1_lean_21 ?_
    refine lv_topi (fun v_26 ev_26 => ?_)
    refine lv_ior hx hb dX1_lean_22 ?_
    refine lv_topi (fun v_27 ev_27 => ?_)
    refine lv_goto (tgt := 27) hx hb dX1_lean_23 (by decide) ?_
    refine lv_istore (lv' := [(4, .int v_27), (3, .int v_1), (0, .ref (o 6)), (1, .int (nI p0)), (2, .int p1)]) hx hb dX1_lean_27 hl (by decide) rfl (fun ls hl => ?_)
    refine lv_iload_n hx hb dX1_lean_29 rfl (lv_at hl 4 rfl) ?_
    refine lv_iload hx hb dX1_lean_30 (lv_at hl 0 rfl) ?_
    refine lv_iand hx hb dX1_lean_32 ?_
    refine lv_topi (fun v_28 ev_28 => ?_)
    refine x_roSi (As := [.int v_28]) S hK hP hDW hZ hAB hBA hS hA hl mwJ6_bitCount_0f7a4 lkX1_98 (ctJ6_bitCount_0f7a4 l D k z v_28 ) [] rfl (by decide) rfl rfl ⟨Nat.le_of_ble_eq_true rfl, Nat.le_of_ble_eq_true rfl, Nat.le_of_ble_eq_true rfl⟩ dX1_lean_33 ⟨Nat.le_of_ble_eq_true rfl, Nat.le_of_ble_eq_true rfl⟩ (fun r_29 H locs hr_29 hP hS => ?_)
    obtain ⟨n_31, rfl, hn_31⟩ := hr_29
    refine lv_iload_n hx hb dX1_lean_36 rfl (lv_at hl 4 rfl) ?_
    refine lv_iload hx hb dX1_lean_37 (lv_at hl 0 rfl) ?_
    refine lv_bipush (v := 16) hx hb dX1_lean_39 (by decide) ?_
    refine lv_ishl hx hb dX1_lean_41 ?_
    refine lv_topi (fun v_32 ev_32 => ?_)
    refine lv_iand hx hb dX1_lean_42 ?_
    refine lv_topi (fun v_33 ev_33 => ?_)
    refine x_roSi (As := [.int v_33]) S hK hP hDW hZ hAB hBA hS hA hl mwJ6_bitCount_0f7a4 lkX1_98 (ctJ6_bitCount_0f7a4 l D k z v_33 ) [] rfl (by decide) rfl rfl ⟨Nat.le_of_ble_eq_true rfl, Nat.le_of_ble_eq_true rfl, Nat.le_of_ble_eq_true rfl⟩ dX1_lean_43 ⟨Nat.le_of_ble_eq_true rfl, Nat.le_of_ble_eq_true rfl⟩ (fun r_34 H locs hr_34 hP hS => ?_)
    obtain ⟨n_36, rfl, hn_36⟩ := hr_34
    refine lv_isub hx hb dX1_lean_46 ?_
    refine lv_topi (fun v_37 ev_37 => ?_)
    refine lv_istore (lv' := [(5, .int v_37), (4, .int v_27), (3, .int v_1), (0, .ref (o 6)), (1, .int (nI p0)), (2, .int p1)]) hx hb dX1_lean_47 hl (by decide) rfl (fun ls hl => ?_)
    refine lv_aload_n hx hb dX1_lean_49 rfl (lv_at hl 3 rfl) ?_
    refine x_get S hK hP 0 rfl cfX1 2 lkX1_29 (by decide) rfl dX1_lean_50 ?_
    refine lv_iconst (v := 1) hx hb dX1_lean_53 (by decide) ?_
    refine lv_icmp_ne (tgt := 91) hx hb dX1_lean_54 (by decide) (fun c_38 => ?_) (fun c_38 => ?_)
    · skip
      refine lv_iload hx hb dX1_lean_91 (lv_at hl 0 rfl) ?_
      exact x_reti S hr hlk hQ hS () trivial x_T dX1_lean_93
    · skip
      refine lv_aload_n hx hb dX1_lean_57 rfl (lv_at hl 3 rfl) ?_
      refine x_get S hK hP 0 rfl cfX1 0 lkX1_15 (by decide) rfl dX1_lean_58 ?_
      refine x_get S hK hP 6 rfl cfX2 14 lkX1_103 (by decide) rfl dX1_lean_61 ?_
      refine lv_iload_n hx hb dX1_lean_64 rfl (lv_at hl 4 rfl) ?_
      refine x_iald S hK hP 9 rfl (vp_in_nI (by omega) (by decide)) dX1_lean_65 ?_
      refine lv_topi (fun v_39 ev_39 => ?_)
      refine lv_istore (lv' := [(6, .int v_39), (5, .int v_37), (4, .int v_27), (3, .int v_1), (0, .ref (o 6)), (1, .int (nI p0)), (2, .int p1)]) hx hb dX1_lean_66 hl (by decide) rfl (fun ls hl => ?_)
      refine lv_iload hx hb dX1_lean_68 (lv_at hl 1 rfl) ?_
      refine lv_iload_n hx hb dX1_lean_70 rfl (lv_at hl 6 rfl) ?_
      refine lv_iload hx hb dX1_lean_71 (lv_at hl 0 rfl) ?_
      refine lv_iand hx hb dX1_lean_73 ?_
      refine lv_topi (fun v_40 ev_40 => ?_)
      refine x_roSi (As := [.int v_40]) S hK hP hDW hZ hAB hBA hS hA hl mwJ6_bitCount_0f7a4 lkX1_98 (ctJ6_bitCount_0f7a4 l D k z v_40 ) [] rfl (by decide) rfl rfl ⟨Nat.le_of_ble_eq_true rfl, Nat.le_of_ble_eq_true rfl, Nat.le_of_ble_eq_true rfl⟩ dX1_lean_74 ⟨Nat.le_of_ble_eq_true rfl, Nat.le_of_ble_eq_true rfl⟩ (fun r_41 H locs hr_41 hP hS => ?_)
      obtain ⟨n_43, rfl, hn_43⟩ := hr_41
      refine lv_iload_n hx hb dX1_lean_77 rfl (lv_at hl 6 rfl) ?_
      refine lv_iload hx hb dX1_lean_78 (lv_at hl 0 rfl) ?_
      refine lv_bipush (v := 16) hx hb dX1_lean_80 (by decide) ?_
      refine lv_ishl hx hb dX1_lean_82 ?_
      refine lv_topi (fun v_44 ev_44 => ?_)
      refine lv_iand hx hb dX1_lean_83 ?_
      refine lv_topi (fun v_45 ev_45 => ?_)
      refine x_roSi (As := [.int v_45]) S hK hP hDW hZ hAB hBA hS hA hl mwJ6_bitCount_0f7a4 lkX1_98 (ctJ6_bitCount_0f7a4 l D k z v_45 ) [] rfl (by decide) rfl rfl ⟨Nat.le_of_ble_eq_true rfl, Nat.le_of_ble_eq_true rfl, Nat.le_of_ble_eq_true rfl⟩ dX1_lean_84 ⟨Nat.le_of_ble_eq_true rfl, Nat.le_of_ble_eq_true rfl⟩ (fun r_46 H locs hr_46 hP hS => ?_)
      obtain ⟨n_48, rfl, hn_48⟩ := hr_46
      refine lv_isub hx hb dX1_lean_87 ?_
      refine lv_topi (fun v_49 ev_49 => ?_)
      refine lv_iadd hx hb dX1_lean_88 ?_
      refine lv_topi (fun v_50 ev_50 => ?_)
      refine lv_istore (lv' := [(5, .int v_50), (6, .int v_39), (4, .int v_27), (3, .int v_1), (0, .ref (o 6)), (1, .int (nI p0)), (2, .int p1)]) hx hb dX1_lean_89 hl (by decide) rfl (fun ls hl => ?_)
      refine lv_iload hx hb dX1_lean_91 (lv_at hl 0 rfl) ?_
      exact x_reti S hr hlk hQ hS () trivial x_T dX1_lean_93

set_option maxHeartbeats 4000000 in
set_option maxRecDepth 100000 in
theorem ctX1_passTo_t (l : Launch) (D : va_G) (k : Nat → ClassId) (z : Nat → Nat) (o : Nat → Nat) (tlawNow : Int32) (tharder : Int32) (ttold : Int32) (treply : Int32) (twet : Int32) (f73 : Nat → Int32) (f69 : Nat → Int32) (f70 : Nat → Int32) (f71 : Nat → Int32) (glines : Int32) (ghours : Nat) (glaw : Int32) (godds : Int32) (grows : Nat) (gheads : Nat) (gsayings : Nat) (gslugs : Nat) (gacts : Nat) (f26 : Nat → Int32) (f30 : Nat → Int32) (f31 : Nat → Int32) (p0 : Int32) (p1 : Int32) (hghours : ghours ≤ 16) (hgrows : grows ≤ 4) (hgheads : gheads ≤ 12) (hgsayings : gsayings ≤ 8) (hgslugs : gslugs ≤ 4) (hgacts : gacts ≤ 30) : RO l yX1_passTo cX1_passTo 9 (some .int) 2 D k z [.ref (o 6), .int p0, .int p1] [((o 6), .inr (1, [.ref (o 3), .ref (o 4), .int tlawNow, .int tharder, .int ttold, .int treply, .int twet, .ref (o 73)])), ((o 73), .inl (k 0, 17, .inl f73)), ((o 4), .inr (3, [.ref (o 69), .ref (o 70), .ref (o 71)])), ((o 69), .inl (k 0, 17, .inl f69)), ((o 70), .inl (k 0, 17, .inl f70)), ((o 71), .inl (k 0, 17, .inl f71)), ((o 3), .inr (2, [.int glines, .int (nI ghours), .int glaw, .int godds, .int (nI grows), .int (nI gheads), .int (nI gsayings), .int (nI gslugs), .int (nI gacts), .ref (o 26), .ref (o 27), .ref (o 28), .ref (o 29), .ref (o 30), .ref (o 31), .ref (o 32), .ref (o 33), .ref (o 34), .ref (o 35)])), ((o 26), .inl (k 0, 12, .inl f26)), ((o 30), .inl (k 0, 12, .inl f30)), ((o 31), .inl (k 0, 12, .inl f31))] (Qi (fun r : Int32 => True)) := by
  refine RO.of (by decide) (Nat.le_of_ble_eq_true rfl) ?_
  intro p e s m below meth c ls A B args Q S hr hlk hQ hK hP hDW hZ hAB hBA hA hS hl
  have hx := S.1
  have hb := S.2.1
  have hl : lv_has ls 9 [(0, .ref (o 6)), (1, .int p0), (2, .int p1)] := hl
  refine lv_aload_n hx hb dX1_passTo_0 rfl (lv_at hl 0 rfl) ?_
  refine x_get S hK hP 0 rfl cfX1 2 lkX1_29 (by decide) rfl dX1_passTo_1 ?_
  refine lv_iconst (v := 2) hx hb dX1_passTo_4 (by decide) ?_
  refine lv_icmp_ne (tgt := 21) hx hb dX1_passTo_5 (by decide) (fun c_1 => ?_) (fun c_1 => ?_)
  · skip
    refine lv_iload_n hx hb dX1_passTo_21 rfl (lv_at hl 1 rfl) ?_
    refine lv_istore_n (lv' := [(3, .int p0), (0, .ref (o 6)), (1, .int p0), (2, .int p1)]) hx hb dX1_passTo_22 rfl hl (by decide) rfl (fun ls hl => ?_)
    refine lv_iload_n hx hb dX1_passTo_23 rfl (lv_at hl 3 rfl) ?_
    refine lv_istore (lv' := [(4, .int p1), (3, .int p0), (0, .ref (o 6)), (1, .int p0), (2, .int p1)]) hx hb dX1_passTo_24 hl (by decide) rfl (fun ls hl => ?_)
    refine lv_iconst (v := 0) hx hb dX1_passTo_26 (by decide) ?_
    refine lv_istore (lv' := [(5, .int 0), (4, .int p1), (3, .int p0), (0, .ref (o 6)), (1, .int p0), (2, .int p1)]) hx hb dX1_passTo_27 hl (by decide) rfl (fun ls hl => ?_)
    have lp_54 : ∀ (nn j_52 : Nat) (x_53 : Int32) (H : Heap) (locs : List Loc) (ls : Array Slot), j_52 ≤ gheads → gheads - j_52 < nn → va_P D vwCl [((o 6), .inr (1, [.ref (o 3), .ref (o 4), .int tlawNow, .int tharder, .int ttold, .int treply, .int twet, .ref (o 73)])), ((o 73), .inl (k 0, 17, .inl f73)), ((o 4), .inr (3, [.ref (o 69), .ref (o 70), .ref (o 71)])), ((o 69), .inl (k 0, 17, .inl f69)), ((o 70), .inl (k 0, 17, .inl f70)), ((o 71), .inl (k 0, 17, .inl f71)), ((o 3), .inr (2, [.int glines, .int (nI ghours), .int glaw, .int godds, .int (nI grows), .int (nI gheads), .int (nI gsayings), .int (nI gslugs), .int (nI gacts), .ref (o 26), .ref (o 27), .ref (o 28), .ref (o 29), .ref (o 30), .ref (o 31), .ref (o 32), .ref (o 33), .ref (o 34), .ref (o 35)])), ((o 26), .inl (k 0, 12, .inl f26)), ((o 30), .inl (k 0, 12, .inl f30)), ((o 31), .inl (k 0, 12, .inl f31))] H → va_S A s.heap H locs → lv_has ls 9 [(5, .int (nI j_52)), (4, .int x_53), (3, .int p0), (0, .ref (o 6)), (1, .int p0), (2, .int p1)] → W p l e (Rm 2 0 0) s m args below meth c H locs 0 0 Q (F0 m 29 ls []) := by
      intro nn
      induction nn with
      | zero => intro j_52 x_53 H locs ls hjj_52 hnj_52; exact absurd hnj_52 (by omega)
      | succ nn ihj_52 =>
        intro j_52 x_53 H locs ls hjj_52 hnj_52 hP hS hl
        refine lv_iload hx hb dX1_passTo_29 (lv_at hl 0 rfl) ?_
        refine lv_aload_n hx hb dX1_passTo_31 rfl (lv_at hl 3 rfl) ?_
        refine x_get S hK hP 0 rfl cfX1 0 lkX1_15 (by decide) rfl dX1_passTo_32 ?_
        refine x_get S hK hP 6 rfl cfX2 5 lkX1_81 (by decide) rfl dX1_passTo_35 ?_
        refine lv_icmp_ge (tgt := 141) hx hb dX1_passTo_38 (by decide) (fun c_55 => ?_) (fun c_55 => ?_)
        · skip
          have c_55 : gheads ≤ j_52 := (ni_le rfl rfl (by omega) (by omega)).mp c_55
          refine lv_iload hx hb dX1_passTo_141 (lv_at hl 1 rfl) ?_
          exact x_reti S hr hlk hQ hS () trivial x_T dX1_passTo_143
        · skip
          have c_55 : ¬ gheads ≤ j_52 := fun q => c_55 ((ni_le rfl rfl (by omega) (by omega)).mpr q)
          refine lv_iconst (v := 1) hx hb dX1_passTo_41 (by decide) ?_
          refine lv_iload hx hb dX1_passTo_42 (lv_at hl 0 rfl) ?_
          refine lv_ishl hx hb dX1_passTo_44 ?_
          refine lv_topi (fun v_56 ev_56 => ?_)
          refine lv_istore (lv' := [(6, .int v_56), (5, .int (nI j_52)), (4, .int x_53), (3, .int p0), (0, .ref (o 6)), (1, .int p0), (2, .int p1)]) hx hb dX1_passTo_45 hl (by decide) rfl (fun ls hl => ?_)
          refine lv_iload_n hx hb dX1_passTo_47 rfl (lv_at hl 3 rfl) ?_
          refine lv_iload hx hb dX1_passTo_48 (lv_at hl 0 rfl) ?_
          refine lv_iand hx hb dX1_passTo_50 ?_
          refine lv_topi (fun v_57 ev_57 => ?_)
          refine lv_if_eq (tgt := 135) hx hb dX1_passTo_51 (by decide) (fun c_58 => ?_) (fun c_58 => ?_)
          · skip
            refine lv_iinc (v := (nI (j_52 + 1))) (lv' := [(5, .int (nI (j_52 + 1))), (6, .int v_56), (4, .int x_53), (3, .int p0), (0, .ref (o 6)), (1, .int p0), (2, .int p1)]) hx hb dX1_passTo_135 hl (k := 1) rfl (ni_inc _) (by decide) rfl (fun ls hl => ?_)
            refine lv_goto (tgt := 29) hx hb dX1_passTo_138 (by decide) ?_
            exact ihj_52 (j_52 + 1) x_53 _ _ _ (by omega) (by omega) hP hS (lv_sub hl [0, 2, 3, 4, 5, 6] rfl)
          · skip
            refine lv_iload_n hx hb dX1_passTo_54 rfl (lv_at hl 6 rfl) ?_
            refine lv_aload_n hx hb dX1_passTo_55 rfl (lv_at hl 4 rfl) ?_
            refine x_get S hK hP 0 rfl cfX1 0 lkX1_15 (by decide) rfl dX1_passTo_56 ?_
            refine x_get S hK hP 6 rfl cfX2 13 lkX1_84 (by decide) rfl dX1_passTo_59 ?_
            refine lv_iload hx hb dX1_passTo_62 (lv_at hl 1 rfl) ?_
            refine x_iald S hK hP 8 rfl (vp_in_nI (by omega) (by decide)) dX1_passTo_64 ?_
            refine lv_topi (fun v_59 ev_59 => ?_)
            refine x_roSNi (As := [.int v_59]) S hK hP hDW hZ hAB hBA hS hA hl mwX10_inBoth lkX1_62 (ctX10_inBoth l D k z v_59 ) [] rfl (by decide) rfl rfl ⟨Nat.le_of_ble_eq_true rfl, Nat.le_of_ble_eq_true rfl, Nat.le_of_ble_eq_true rfl⟩ dX1_passTo_65 ⟨Nat.le_of_ble_eq_true rfl, Nat.le_of_ble_eq_true rfl⟩ (fun r_60 H locs hr_60 hP hS => ?_)
            refine lv_iand hx hb dX1_passTo_68 ?_
            refine lv_topi (fun v_62 ev_62 => ?_)
            refine lv_if_eq (tgt := 135) hx hb dX1_passTo_69 (by decide) (fun c_63 => ?_) (fun c_63 => ?_)
            · skip
              refine lv_iinc (v := (nI (j_52 + 1))) (lv' := [(5, .int (nI (j_52 + 1))), (6, .int v_56), (4, .int x_53), (3, .int p0), (0, .ref (o 6)), (1, .int p0), (2, .int p1)]) hx hb dX1_passTo_135 hl (k := 1) rfl (ni_inc _) (by decide) rfl (fun ls hl => ?_)
              refine lv_goto (tgt := 29) hx hb dX1_passTo_138 (by decide) ?_
              exact ihj_52 (j_52 + 1) x_53 _ _ _ (by omega) (by omega) hP hS (lv_sub hl [0, 2, 3, 4, 5, 6] rfl)
            · skip
              refine lv_aload_n hx hb dX1_passTo_72 rfl (lv_at hl 4 rfl) ?_
              refine lv_iload hx hb dX1_passTo_73 (lv_at hl 1 rfl) ?_
              refine lv_iload_n hx hb dX1_passTo_75 rfl (lv_at hl 6 rfl) ?_
              refine x_roVi (As := [.int (nI j_52), .int p1]) S hK hP hDW hZ hAB hBA hS hA hl mwX1_lean lkX1_87 (ctX1_lean_c l D k z (fun i => ([0, 0, 0, (o 3), (o 4), (o 6), 0, 0, 0, 0, 0, 0, 0, 0, 0, 0, 0, 0, 0, 0, 0, 0, 0, 0, 0, 0, (o 26), (o 27), (o 28), (o 29), (o 30), (o 31), (o 32), (o 33), (o 34), (o 35), 0, 0, 0, 0, 0, 0, 0, 0, 0, 0, 0, 0, 0, 0, 0, 0, 0, 0, 0, 0, 0, 0, 0, 0, 0, 0, 0, 0, 0, 0, 0, 0, 0, (o 69), (o 70), (o 71), (o 73)] : List Nat).getD i 0) tlawNow tharder ttold treply twet f73 f69 f70 f71 glines ghours glaw godds grows gheads gsayings gslugs gacts f26 f30 f31 j_52 p1 (by omega) (by omega) (by omega) (by omega) (by omega) (by omega) (by omega)) [0, 1, 2, 3, 4, 5, 6, 7, 8, 9] rfl (by decide) rfl rfl rfl rfl rfl ⟨Nat.le_of_ble_eq_true rfl, Nat.le_of_ble_eq_true rfl, Nat.le_of_ble_eq_true rfl⟩ dX1_passTo_76 ⟨Nat.le_of_ble_eq_true rfl, Nat.le_of_ble_eq_true rfl⟩ (fun r_64 H locs hr_64 hP hS => ?_)
              refine lv_istore (lv' := [(7, .int r_64), (6, .int v_56), (5, .int (nI j_52)), (4, .int x_53), (3, .int p0), (0, .ref (o 6)), (1, .int p0), (2, .int p1)]) hx hb dX1_passTo_79 hl (by decide) rfl (fun ls hl => ?_)
              refine lv_aload_n hx hb dX1_passTo_81 rfl (lv_at hl 5 rfl) ?_
              refine x_get S hK hP 0 rfl cfX1 0 lkX1_15 (by decide) rfl dX1_passTo_82 ?_
              refine x_get S hK hP 6 rfl cfX2 9 lkX1_90 (by decide) rfl dX1_passTo_85 ?_
              refine lv_iload hx hb dX1_passTo_88 (lv_at hl 2 rfl) ?_
              refine x_iald S hK hP 7 rfl (vp_in_nI (by omega) (by decide)) dX1_passTo_90 ?_
              refine lv_topi (fun v_66 ev_66 => ?_)
              refine lv_aload_n hx hb dX1_passTo_91 rfl (lv_at hl 5 rfl) ?_
              refine x_get S hK hP 0 rfl cfX1 3 lkX1_32 (by decide) rfl dX1_passTo_92 ?_
              refine lv_iload hx hb dX1_passTo_95 (lv_at hl 2 rfl) ?_
              refine lv_iushr hx hb dX1_passTo_97 rfl ?_
              refine lv_topi (fun v_67 ev_67 => ?_)
              refine lv_iconst (v := 1) hx hb dX1_passTo_98 (by decide) ?_
              refine lv_iand hx hb dX1_passTo_99 ?_
              refine lv_topi (fun v_68 ev_68 => ?_)
              refine lv_iadd hx hb dX1_passTo_100 ?_
              refine lv_topi (fun v_69 ev_69 => ?_)
              refine lv_istore (lv' := [(8, .int v_69), (7, .int r_64), (6, .int v_56), (5, .int (nI j_52)), (4, .int x_53), (3, .int p0), (0, .ref (o 6)), (1, .int p0), (2, .int p1)]) hx hb dX1_passTo_101 hl (by decide) rfl (fun ls hl => ?_)
              refine lv_iload hx hb dX1_passTo_103 (lv_at hl 1 rfl) ?_
              refine x_mabs S hl lkX1_93 (Nat.le_of_ble_eq_true rfl) (Nat.le_of_ble_eq_true rfl) ⟨Nat.le_of_ble_eq_true rfl, Nat.le_of_ble_eq_true rfl⟩ dX1_passTo_105 (fun v_70 ev_70 => ?_)
              refine lv_iload hx hb dX1_passTo_108 (lv_at hl 0 rfl) ?_
              refine lv_icmp_lt (tgt := 135) hx hb dX1_passTo_110 (by decide) (fun c_71 => ?_) (fun c_71 => ?_)
              · skip
                refine lv_iinc (v := (nI (j_52 + 1))) (lv' := [(5, .int (nI (j_52 + 1))), (8, .int v_69), (7, .int r_64), (6, .int v_56), (4, .int x_53), (3, .int p0), (0, .ref (o 6)), (1, .int p0), (2, .int p1)]) hx hb dX1_passTo_135 hl (k := 3) rfl (ni_inc _) (by decide) rfl (fun ls hl => ?_)
                refine lv_goto (tgt := 29) hx hb dX1_passTo_138 (by decide) ?_
                exact ihj_52 (j_52 + 1) x_53 _ _ _ (by omega) (by omega) hP hS (lv_sub hl [0, 4, 5, 6, 7, 8] rfl)
              · skip
                refine lv_iload hx hb dX1_passTo_113 (lv_at hl 4 rfl) ?_
                refine lv_iload hx hb dX1_passTo_115 (lv_at hl 1 rfl) ?_
                refine lv_if_le (tgt := 125) hx hb dX1_passTo_117 (by decide) (fun c_72 => ?_) (fun c_72 => ?_)
                · skip
                  refine lv_iload hx hb dX1_passTo_125 (lv_at hl 2 rfl) ?_
                  refine lv_bipush (v := 16) hx hb dX1_passTo_127 (by decide) ?_
                  refine lv_ishl hx hb dX1_passTo_129 ?_
                  refine lv_topi (fun v_73 ev_73 => ?_)
                  refine x_roSNi (As := [.int x_53, .int v_73]) S hK hP hDW hZ hAB hBA hS hA hl mwX10_heard lkX1_56 (ctX10_heard l D k z x_53 v_73 ) [] rfl (by decide) rfl rfl ⟨Nat.le_of_ble_eq_true rfl, Nat.le_of_ble_eq_true rfl, Nat.le_of_ble_eq_true rfl⟩ dX1_passTo_130 ⟨Nat.le_of_ble_eq_true rfl, Nat.le_of_ble_eq_true rfl⟩ (fun r_74 H locs hr_74 hP hS => ?_)
                  refine lv_istore (lv' := [(4, .int r_74), (8, .int v_69), (7, .int r_64), (6, .int v_56), (5, .int (nI j_52)), (3, .int p0), (0, .ref (o 6)), (1, .int p0), (2, .int p1)]) hx hb dX1_passTo_133 hl (by decide) rfl (fun ls hl => ?_)
                  refine lv_iinc (v := (nI (j_52 + 1))) (lv' := [(5, .int (nI (j_52 + 1))), (4, .int r_74), (8, .int v_69), (7, .int r_64), (6, .int v_56), (3, .int p0), (0, .ref (o 6)), (1, .int p0), (2, .int p1)]) hx hb dX1_passTo_135 hl (k := 4) rfl (ni_inc _) (by decide) rfl (fun ls hl => ?_)
                  refine lv_goto (tgt := 29) hx hb dX1_passTo_138 (by decide) ?_
                  exact ihj_52 (j_52 + 1) r_74 _ _ _ (by omega) (by omega) hP hS (lv_sub hl [0, 1, 5, 6, 7, 8] rfl)
                · skip
                  refine lv_iload hx hb dX1_passTo_120 (lv_at hl 2 rfl) ?_
                  refine lv_goto (tgt := 130) hx hb dX1_passTo_122 (by decide) ?_
                  refine x_roSNi (As := [.int x_53, .int v_56]) S hK hP hDW hZ hAB hBA hS hA hl mwX10_heard lkX1_56 (ctX10_heard l D k z x_53 v_56 ) [] rfl (by decide) rfl rfl ⟨Nat.le_of_ble_eq_true rfl, Nat.le_of_ble_eq_true rfl, Nat.le_of_ble_eq_true rfl⟩ dX1_passTo_130 ⟨Nat.le_of_ble_eq_true rfl, Nat.le_of_ble_eq_true rfl⟩ (fun r_76 H locs hr_76 hP hS => ?_)
                  refine lv_istore (lv' := [(4, .int r_76), (8, .int v_69), (7, .int r_64), (6, .int v_56), (5, .int (nI j_52)), (3, .int p0), (0, .ref (o 6)), (1, .int p0), (2, .int p1)]) hx hb dX1_passTo_133 hl (by decide) rfl (fun ls hl => ?_)
                  refine lv_iinc (v := (nI (j_52 + 1))) (lv' := [(5, .int (nI (j_52 + 1))), (4, .int r_76), (8, .int v_69), (7, .int r_64), (6, .int v_56), (3, .int p0), (0, .ref (o 6)), (1, .int p0), (2, .int p1)]) hx hb dX1_passTo_135 hl (k := 4) rfl (ni_inc _) (by decide) rfl (fun ls hl => ?_)
                  refine lv_goto (tgt := 29) hx hb dX1_passTo_138 (by decide) ?_
                  exact ihj_52 (j_52 + 1) r_76 _ _ _ (by omega) (by omega) hP hS (lv_sub hl [0, 1, 5, 6, 7, 8] rfl)
    exact lp_54 (gheads + 1) 0 p1 _ _ _ (by omega) (by omega) hP hS (lv_sub hl [0, 1, 2, 3, 4, 5] rfl)
  · skip
    refine lv_iload_n hx hb dX1_passTo_8 rfl (lv_at hl 1 rfl) ?_
    refine lv_iload_n hx hb dX1_passTo_9 rfl (lv_at hl 2 rfl) ?_
    refine lv_iload_n hx hb dX1_passTo_10 rfl (lv_at hl 2 rfl) ?_
    refine lv_bipush (v := 16) hx hb dX1_passTo_11 (by decide) ?_
    refine lv_iushr hx hb dX1_passTo_13 rfl ?_
    refine lv_topi (fun v_78 ev_78 => ?_)
    refine lv_ior hx hb dX1_passTo_14 ?_
    refine lv_topi (fun v_79 ev_79 => ?_)
    refine lv_iconst (v := (-1)) hx hb dX1_passTo_15 (by decide) ?_
    refine lv_ixor hx hb dX1_passTo_16 ?_
    refine lv_topi (fun v_80 ev_80 => ?_)
    refine lv_iand hx hb dX1_passTo_17 ?_
    refine lv_topi (fun v_81 ev_81 => ?_)
    refine lv_goto (tgt := 22) hx hb dX1_passTo_18 (by decide) ?_
    refine lv_istore_n (lv' := [(3, .int v_81), (0, .ref (o 6)), (1, .int p0), (2, .int p1)]) hx hb dX1_passTo_22 rfl hl (by decide) rfl (fun ls hl => ?_)
    refine lv_iload_n hx hb dX1_passTo_23 rfl (lv_at hl 3 rfl) ?_
    refine lv_istore (lv' := [(4, .int p1), (3, .int v_81), (0, .ref (o 6)), (1, .int p0), (2, .int p1)]) hx hb dX1_passTo_24 hl (by decide) rfl (fun ls hl => ?_)
    refine lv_iconst (v := 0) hx hb dX1_passTo_26 (by decide) ?_
    refine lv_istore (lv' := [(5, .int 0), (4, .int p1), (3, .int v_81), (0, .ref (o 6)), (1, .int p0), (2, .int p1)]) hx hb dX1_passTo_27 hl (by decide) rfl (fun ls hl => ?_)
    have lp_111 : ∀ (nn j_109 : Nat) (x_110 : Int32) (H : Heap) (locs : List Loc) (ls : Array Slot), j_109 ≤ gheads → gheads - j_109 < nn → va_P D vwCl [((o 6), .inr (1, [.ref (o 3), .ref (o 4), .int tlawNow, .int tharder, .int ttold, .int treply, .int twet, .ref (o 73)])), ((o 73), .inl (k 0, 17, .inl f73)), ((o 4), .inr (3, [.ref (o 69), .ref (o 70), .ref (o 71)])), ((o 69), .inl (k 0, 17, .inl f69)), ((o 70), .inl (k 0, 17, .inl f70)), ((o 71), .inl (k 0, 17, .inl f71)), ((o 3), .inr (2, [.int glines, .int (nI ghours), .int glaw, .int godds, .int (nI grows), .int (nI gheads), .int (nI gsayings), .int (nI gslugs), .int (nI gacts), .ref (o 26), .ref (o 27), .ref (o 28), .ref (o 29), .ref (o 30), .ref (o 31), .ref (o 32), .ref (o 33), .ref (o 34), .ref (o 35)])), ((o 26), .inl (k 0, 12, .inl f26)), ((o 30), .inl (k 0, 12, .inl f30)), ((o 31), .inl (k 0, 12, .inl f31))] H → va_S A s.heap H locs → lv_has ls 9 [(5, .int (nI j_109)), (4, .int x_110), (3, .int v_81), (0, .ref (o 6)), (1, .int p0), (2, .int p1)] → W p l e (Rm 2 0 0) s m args below meth c H locs 0 0 Q (F0 m 29 ls []) := by
      intro nn
      induction nn with
      | zero => intro j_109 x_110 H locs ls hjj_109 hnj_109; exact absurd hnj_109 (by omega)
      | succ nn ihj_109 =>
        intro j_109 x_110 H locs ls hjj_109 hnj_109 hP hS hl
        refine lv_iload hx hb dX1_passTo_29 (lv_at hl 0 rfl) ?_
        refine lv_aload_n hx hb dX1_passTo_31 rfl (lv_at hl 3 rfl) ?_
        refine x_get S hK hP 0 rfl cfX1 0 lkX1_15 (by decide) rfl dX1_passTo_32 ?_
        refine x_get S hK hP 6 rfl cfX2 5 lkX1_81 (by decide) rfl dX1_passTo_35 ?_
        refine lv_icmp_ge (tgt := 141) hx hb dX1_passTo_38 (by decide) (fun c_112 => ?_) (fun c_112 => ?_)
        · skip
          have c_112 : gheads ≤ j_109 := (ni_le rfl rfl (by omega) (by omega)).mp c_112
          refine lv_iload hx hb dX1_passTo_141 (lv_at hl 1 rfl) ?_
          exact x_reti S hr hlk hQ hS () trivial x_T dX1_passTo_143
        · skip
          have c_112 : ¬ gheads ≤ j_109 := fun q => c_112 ((ni_le rfl rfl (by omega) (by omega)).mpr q)
          refine lv_iconst (v := 1) hx hb dX1_passTo_41 (by decide) ?_
          refine lv_iload hx hb dX1_passTo_42 (lv_at hl 0 rfl) ?_
          refine lv_ishl hx hb dX1_passTo_44 ?_
          refine lv_topi (fun v_113 ev_113 => ?_)
          refine lv_istore (lv' := [(6, .int v_113), (5, .int (nI j_109)), (4, .int x_110), (3, .int v_81), (0, .ref (o 6)), (1, .int p0), (2, .int p1)]) hx hb dX1_passTo_45 hl (by decide) rfl (fun ls hl => ?_)
          refine lv_iload_n hx hb dX1_passTo_47 rfl (lv_at hl 3 rfl) ?_
          refine lv_iload hx hb dX1_passTo_48 (lv_at hl 0 rfl) ?_
          refine lv_iand hx hb dX1_passTo_50 ?_
          refine lv_topi (fun v_114 ev_114 => ?_)
          refine lv_if_eq (tgt := 135) hx hb dX1_passTo_51 (by decide) (fun c_115 => ?_) (fun c_115 => ?_)
          · skip
            refine lv_iinc (v := (nI (j_109 + 1))) (lv' := [(5, .int (nI (j_109 + 1))), (6, .int v_113), (4, .int x_110), (3, .int v_81), (0, .ref (o 6)), (1, .int p0), (2, .int p1)]) hx hb dX1_passTo_135 hl (k := 1) rfl (ni_inc _) (by decide) rfl (fun ls hl => ?_)
            refine lv_goto (tgt := 29) hx hb dX1_passTo_138 (by decide) ?_
            exact ihj_109 (j_109 + 1) x_110 _ _ _ (by omega) (by omega) hP hS (lv_sub hl [0, 2, 3, 4, 5, 6] rfl)
          · skip
            refine lv_iload_n hx hb dX1_passTo_54 rfl (lv_at hl 6 rfl) ?_
            refine lv_aload_n hx hb dX1_passTo_55 rfl (lv_at hl 4 rfl) ?_
            refine x_get S hK hP 0 rfl cfX1 0 lkX1_15 (by decide) rfl dX1_passTo_56 ?_
            refine x_get S hK hP 6 rfl cfX2 13 lkX1_84 (by decide) rfl dX1_passTo_59 ?_
            refine lv_iload hx hb dX1_passTo_62 (lv_at hl 1 rfl) ?_
            refine x_iald S hK hP 8 rfl (vp_in_nI (by omega) (by decide)) dX1_passTo_64 ?_
            refine lv_topi (fun v_116 ev_116 => ?_)
            refine x_roSNi (As := [.int v_116]) S hK hP hDW hZ hAB hBA hS hA hl mwX10_inBoth lkX1_62 (ctX10_inBoth l D k z v_116 ) [] rfl (by decide) rfl rfl ⟨Nat.le_of_ble_eq_true rfl, Nat.le_of_ble_eq_true rfl, Nat.le_of_ble_eq_true rfl⟩ dX1_passTo_65 ⟨Nat.le_of_ble_eq_true rfl, Nat.le_of_ble_eq_true rfl⟩ (fun r_117 H locs hr_117 hP hS => ?_)
            refine lv_iand hx hb dX1_passTo_68 ?_
            refine lv_topi (fun v_119 ev_119 => ?_)
            refine lv_if_eq (tgt := 135) hx hb dX1_passTo_69 (by decide) (fun c_120 => ?_) (fun c_120 => ?_)
            · skip
              refine lv_iinc (v := (nI (j_109 + 1))) (lv' := [(5, .int (nI (j_109 + 1))), (6, .int v_113), (4, .int x_110), (3, .int v_81), (0, .ref (o 6)), (1, .int p0), (2, .int p1)]) hx hb dX1_passTo_135 hl (k := 1) rfl (ni_inc _) (by decide) rfl (fun ls hl => ?_)
              refine lv_goto (tgt := 29) hx hb dX1_passTo_138 (by decide) ?_
              exact ihj_109 (j_109 + 1) x_110 _ _ _ (by omega) (by omega) hP hS (lv_sub hl [0, 2, 3, 4, 5, 6] rfl)
            · skip
              refine lv_aload_n hx hb dX1_passTo_72 rfl (lv_at hl 4 rfl) ?_
              refine lv_iload hx hb dX1_passTo_73 (lv_at hl 1 rfl) ?_
              refine lv_iload_n hx hb dX1_passTo_75 rfl (lv_at hl 6 rfl) ?_
              refine x_roVi (As := [.int (nI j_109), .int p1]) S hK hP hDW hZ hAB hBA hS hA hl mwX1_lean lkX1_87 (ctX1_lean_c l D k z (fun i => ([0, 0, 0, (o 3), (o 4), (o 6), 0, 0, 0, 0, 0, 0, 0, 0, 0, 0, 0, 0, 0, 0, 0, 0, 0, 0, 0, 0, (o 26), (o 27), (o 28), (o 29), (o 30), (o 31), (o 32), (o 33), (o 34), (o 35), 0, 0, 0, 0, 0, 0, 0, 0, 0, 0, 0, 0, 0, 0, 0, 0, 0, 0, 0, 0, 0, 0, 0, 0, 0, 0, 0, 0, 0, 0, 0, 0, 0, (o 69), (o 70), (o 71), (o 73)] : List Nat).getD i 0) tlawNow tharder ttold treply twet f73 f69 f70 f71 glines ghours glaw godds grows gheads gsayings gslugs gacts f26 f30 f31 j_109 p1 (by omega) (by omega) (by omega) (by omega) (by omega) (by omega) (by omega)) [0, 1, 2, 3, 4, 5, 6, 7, 8, 9] rfl (by decide) rfl rfl rfl rfl rfl ⟨Nat.le_of_ble_eq_true rfl, Nat.le_of_ble_eq_true rfl, Nat.le_of_ble_eq_true rfl⟩ dX1_passTo_76 ⟨Nat.le_of_ble_eq_true rfl, Nat.le_of_ble_eq_true rfl⟩ (fun r_121 H locs hr_121 hP hS => ?_)
              refine lv_istore (lv' := [(7, .int r_121), (6, .int v_113), (5, .int (nI j_109)), (4, .int x_110), (3, .int v_81), (0, .ref (o 6)), (1, .int p0), (2, .int p1)]) hx hb dX1_passTo_79 hl (by decide) rfl (fun ls hl => ?_)
              refine lv_aload_n hx hb dX1_passTo_81 rfl (lv_at hl 5 rfl) ?_
              refine x_get S hK hP 0 rfl cfX1 0 lkX1_15 (by decide) rfl dX1_passTo_82 ?_
              refine x_get S hK hP 6 rfl cfX2 9 lkX1_90 (by decide) rfl dX1_passTo_85 ?_
              refine lv_iload hx hb dX1_passTo_88 (lv_at hl 2 rfl) ?_
              refine x_iald S hK hP 7 rfl (vp_in_nI (by omega) (by decide)) dX1_passTo_90 ?_
              refine lv_topi (fun v_123 ev_123 => ?_)
              refine lv_aload_n hx hb dX1_passTo_91 rfl (lv_at hl 5 rfl) ?_
              refine x_get S hK hP 0 rfl cfX1 3 lkX1_32 (by decide) rfl dX1_passTo_92 ?_
              refine lv_iload hx hb dX1_passTo_95 (lv_at hl 2 rfl) ?_
              refine lv_iushr hx hb dX1_passTo_97 rfl ?_
              refine lv_topi (fun v_124 ev_124 => ?_)
              refine lv_iconst (v := 1) hx hb dX1_passTo_98 (by decide) ?_
              refine lv_iand hx hb dX1_passTo_99 ?_
              refine lv_topi (fun v_125 ev_125 => ?_)
              refine lv_iadd hx hb dX1_passTo_100 ?_
              refine lv_topi (fun v_126 ev_126 => ?_)
              refine lv_istore (lv' := [(8, .int v_126), (7, .int r_121), (6, .int v_113), (5, .int (nI j_109)), (4, .int x_110), (3, .int v_81), (0, .ref (o 6)), (1, .int p0), (2, .int p1)]) hx hb dX1_passTo_101 hl (by decide) rfl (fun ls hl => ?_)
              refine lv_iload hx hb dX1_passTo_103 (lv_at hl 1 rfl) ?_
              refine x_mabs S hl lkX1_93 (Nat.le_of_ble_eq_true rfl) (Nat.le_of_ble_eq_true rfl) ⟨Nat.le_of_ble_eq_true rfl, Nat.le_of_ble_eq_true rfl⟩ dX1_passTo_105 (fun v_127 ev_127 => ?_)
              refine lv_iload hx hb dX1_passTo_108 (lv_at hl 0 rfl) ?_
              refine lv_icmp_lt (tgt := 135) hx hb dX1_passTo_110 (by decide) (fun c_128 => ?_) (fun c_128 => ?_)
              · skip
                refine lv_iinc (v := (nI (j_109 + 1))) (lv' := [(5, .int (nI (j_109 + 1))), (8, .int v_126), (7, .int r_121), (6, .int v_113), (4, .int x_110), (3, .int v_81), (0, .ref (o 6)), (1, .int p0), (2, .int p1)]) hx hb dX1_passTo_135 hl (k := 3) rfl (ni_inc _) (by decide) rfl (fun ls hl => ?_)
                refine lv_goto (tgt := 29) hx hb dX1_passTo_138 (by decide) ?_
                exact ihj_109 (j_109 + 1) x_110 _ _ _ (by omega) (by omega) hP hS (lv_sub hl [0, 4, 5, 6, 7, 8] rfl)
              · skip
                refine lv_iload hx hb dX1_passTo_113 (lv_at hl 4 rfl) ?_
                refine lv_iload hx hb dX1_passTo_115 (lv_at hl 1 rfl) ?_
                refine lv_if_le (tgt := 125) hx hb dX1_passTo_117 (by decide) (fun c_129 => ?_) (fun c_129 => ?_)
                · skip
                  refine lv_iload hx hb dX1_passTo_125 (lv_at hl 2 rfl) ?_
                  refine lv_bipush (v := 16) hx hb dX1_passTo_127 (by decide) ?_
                  refine lv_ishl hx hb dX1_passTo_129 ?_
                  refine lv_topi (fun v_130 ev_130 => ?_)
                  refine x_roSNi (As := [.int x_110, .int v_130]) S hK hP hDW hZ hAB hBA hS hA hl mwX10_heard lkX1_56 (ctX10_heard l D k z x_110 v_130 ) [] rfl (by decide) rfl rfl ⟨Nat.le_of_ble_eq_true rfl, Nat.le_of_ble_eq_true rfl, Nat.le_of_ble_eq_true rfl⟩ dX1_passTo_130 ⟨Nat.le_of_ble_eq_true rfl, Nat.le_of_ble_eq_true rfl⟩ (fun r_131 H locs hr_131 hP hS => ?_)
                  refine lv_istore (lv' := [(4, .int r_131), (8, .int v_126), (7, .int r_121), (6, .int v_113), (5, .int (nI j_109)), (3, .int v_81), (0, .ref (o 6)), (1, .int p0), (2, .int p1)]) hx hb dX1_passTo_133 hl (by decide) rfl (fun ls hl => ?_)
                  refine lv_iinc (v := (nI (j_109 + 1))) (lv' := [(5, .int (nI (j_109 + 1))), (4, .int r_131), (8, .int v_126), (7, .int r_121), (6, .int v_113), (3, .int v_81), (0, .ref (o 6)), (1, .int p0), (2, .int p1)]) hx hb dX1_passTo_135 hl (k := 4) rfl (ni_inc _) (by decide) rfl (fun ls hl => ?_)
                  refine lv_goto (tgt := 29) hx hb dX1_passTo_138 (by decide) ?_
                  exact ihj_109 (j_109 + 1) r_131 _ _ _ (by omega) (by omega) hP hS (lv_sub hl [0, 1, 5, 6, 7, 8] rfl)
                · skip
                  refine lv_iload hx hb dX1_passTo_120 (lv_at hl 2 rfl) ?_
                  refine lv_goto (tgt := 130) hx hb dX1_passTo_122 (by decide) ?_
                  refine x_roSNi (As := [.int x_110, .int v_113]) S hK hP hDW hZ hAB hBA hS hA hl mwX10_heard lkX1_56 (ctX10_heard l D k z x_110 v_113 ) [] rfl (by decide) rfl rfl ⟨Nat.le_of_ble_eq_true rfl, Nat.le_of_ble_eq_true rfl, Nat.le_of_ble_eq_true rfl⟩ dX1_passTo_130 ⟨Nat.le_of_ble_eq_true rfl, Nat.le_of_ble_eq_true rfl⟩ (fun r_133 H locs hr_133 hP hS => ?_)
                  refine lv_istore (lv' := [(4, .int r_133), (8, .int v_126), (7, .int r_121), (6, .int v_113), (5, .int (nI j_109)), (3, .int v_81), (0, .ref (o 6)), (1, .int p0), (2, .int p1)]) hx hb dX1_passTo_133 hl (by decide) rfl (fun ls hl => ?_)
                  refine lv_iinc (v := (nI (j_109 + 1))) (lv' := [(5, .int (nI (j_109 + 1))), (4, .int r_133), (8, .int v_126), (7, .int r_121), (6, .int v_113), (3, .int v_81), (0, .ref (o 6)), (1, .int p0), (2, .int p1)]) hx hb dX1_passTo_135 hl (k := 4) rfl (ni_inc _) (by decide) rfl (fun ls hl => ?_)
                  refine lv_goto (tgt := 29) hx hb dX1_passTo_138 (by decide) ?_
                  exact ihj_109 (j_109 + 1) r_133 _ _ _ (by omega) (by omega) hP hS (lv_sub hl [0, 1, 5, 6, 7, 8] rfl)
    exact lp_111 (gheads + 1) 0 p1 _ _ _ (by omega) (by omega) hP hS (lv_sub hl [0, 1, 2, 3, 4, 5] rfl)

set_option maxHeartbeats 4000000 in
set_option maxRecDepth 100000 in
theorem ctX1_viewAt_t (l : Launch) (D : va_G) (k : Nat → ClassId) (z : Nat → Nat) (o : Nat → Nat) (tlawNow : Int32) (tharder : Int32) (ttold : Int32) (treply : Int32) (twet : Int32) (f73 : Nat → Int32) (f69 : Nat → Int32) (f70 : Nat → Int32) (f71 : Nat → Int32) (glines : Int32) (ghours : Nat) (glaw : Int32) (godds : Int32) (grows : Nat) (gheads : Nat) (gsayings : Nat) (gslugs : Nat) (gacts : Nat) (f26 : Nat → Int32) (f30 : Nat → Int32) (f31 : Nat → Int32) (p0 : Int32) (p1 : Nat) (hghours : ghours ≤ 16) (hgrows : grows ≤ 4) (hgheads : gheads ≤ 12) (hgsayings : gsayings ≤ 8) (hgslugs : gslugs ≤ 4) (hgacts : gacts ≤ 30) (hp1 : p1 ≤ 16) : RO l yX1_viewAt cX1_viewAt 3 (some .int) 1 D k z [.ref (o 6), .int p0, .int (nI p1)] [((o 6), .inr (1, [.ref (o 3), .ref (o 4), .int tlawNow, .int tharder, .int ttold, .int treply, .int twet, .ref (o 73)])), ((o 73), .inl (k 0, 17, .inl f73)), ((o 4), .inr (3, [.ref (o 69), .ref (o 70), .ref (o 71)])), ((o 69), .inl (k 0, 17, .inl f69)), ((o 70), .inl (k 0, 17, .inl f70)), ((o 71), .inl (k 0, 17, .inl f71)), ((o 3), .inr (2, [.int glines, .int (nI ghours), .int glaw, .int godds, .int (nI grows), .int (nI gheads), .int (nI gsayings), .int (nI gslugs), .int (nI gacts), .ref (o 26), .ref (o 27), .ref (o 28), .ref (o 29), .ref (o 30), .ref (o 31), .ref (o 32), .ref (o 33), .ref (o 34), .ref (o 35)])), ((o 26), .inl (k 0, 12, .inl f26)), ((o 30), .inl (k 0, 12, .inl f30)), ((o 31), .inl (k 0, 12, .inl f31))] (Qi (fun r : Int32 => True)) := by
  refine RO.of (by decide) (Nat.le_of_ble_eq_true rfl) ?_
  intro p e s m below meth c ls A B args Q S hr hlk hQ hK hP hDW hZ hAB hBA hA hS hl
  have hx := S.1
  have hb := S.2.1
  have hl : lv_has ls 3 [(0, .ref (o 6)), (1, .int p0), (2, .int (nI p1))] := hl
  refine lv_aload_n hx hb dX1_viewAt_0 rfl (lv_at hl 0 rfl) ?_
  refine x_get S hK hP 0 rfl cfX1 7 lkX1_9 (by decide) rfl dX1_viewAt_1 ?_
  refine lv_iload_n hx hb dX1_viewAt_4 rfl (lv_at hl 2 rfl) ?_
  refine x_iald S hK hP 1 rfl (vp_in_nI (by omega) (by decide)) dX1_viewAt_5 ?_
  refine lv_topi (fun v_1 ev_1 => ?_)
  refine lv_iload_n hx hb dX1_viewAt_6 rfl (lv_at hl 1 rfl) ?_
  refine x_roSNi (As := [.int v_1, .int p0]) S hK hP hDW hZ hAB hBA hS hA hl mwX10_viewIn lkX1_106 (ctX10_viewIn l D k z v_1 p0 ) [] rfl (by decide) rfl rfl ⟨Nat.le_of_ble_eq_true rfl, Nat.le_of_ble_eq_true rfl, Nat.le_of_ble_eq_true rfl⟩ dX1_viewAt_7 ⟨Nat.le_of_ble_eq_true rfl, Nat.le_of_ble_eq_true rfl⟩ (fun r_2 H locs hr_2 hP hS => ?_)
  exact x_reti S hr hlk hQ hS () trivial x_T dX1_viewAt_10

set_option maxHeartbeats 4000000 in
set_option maxRecDepth 100000 in
theorem ctX1_lastState_t (l : Launch) (D : va_G) (k : Nat → ClassId) (z : Nat → Nat) (o : Nat → Nat) (tlawNow : Int32) (tharder : Int32) (ttold : Int32) (treply : Int32) (twet : Int32) (f73 : Nat → Int32) (f69 : Nat → Int32) (f70 : Nat → Int32) (f71 : Nat → Int32) (glines : Int32) (ghours : Nat) (glaw : Int32) (godds : Int32) (grows : Nat) (gheads : Nat) (gsayings : Nat) (gslugs : Nat) (gacts : Nat) (f26 : Nat → Int32) (f30 : Nat → Int32) (f31 : Nat → Int32) (hghours : ghours ≤ 16) (hgrows : grows ≤ 4) (hgheads : gheads ≤ 12) (hgsayings : gsayings ≤ 8) (hgslugs : gslugs ≤ 4) (hgacts : gacts ≤ 30) : RO l yX1_lastState cX1_lastState 1 (some .int) 0 D k z [.ref (o 6)] [((o 6), .inr (1, [.ref (o 3), .ref (o 4), .int tlawNow, .int tharder, .int ttold, .int treply, .int twet, .ref (o 73)])), ((o 73), .inl (k 0, 17, .inl f73)), ((o 4), .inr (3, [.ref (o 69), .ref (o 70), .ref (o 71)])), ((o 69), .inl (k 0, 17, .inl f69)), ((o 70), .inl (k 0, 17, .inl f70)), ((o 71), .inl (k 0, 17, .inl f71)), ((o 3), .inr (2, [.int glines, .int (nI ghours), .int glaw, .int godds, .int (nI grows), .int (nI gheads), .int (nI gsayings), .int (nI gslugs), .int (nI gacts), .ref (o 26), .ref (o 27), .ref (o 28), .ref (o 29), .ref (o 30), .ref (o 31), .ref (o 32), .ref (o 33), .ref (o 34), .ref (o 35)])), ((o 26), .inl (k 0, 12, .inl f26)), ((o 30), .inl (k 0, 12, .inl f30)), ((o 31), .inl (k 0, 12, .inl f31))] (Qi (fun r : Int32 => True)) := by
  refine RO.of (by decide) (Nat.le_of_ble_eq_true rfl) ?_
  intro p e s m below meth c ls A B args Q S hr hlk hQ hK hP hDW hZ hAB hBA hA hS hl
  have hx := S.1
  have hb := S.2.1
  have hl : lv_has ls 1 [(0, .ref (o 6))] := hl
  refine lv_aload_n hx hb dX1_lastState_0 rfl (lv_at hl 0 rfl) ?_
  refine x_get S hK hP 0 rfl cfX1 7 lkX1_9 (by decide) rfl dX1_lastState_1 ?_
  refine lv_aload_n hx hb dX1_lastState_4 rfl (lv_at hl 0 rfl) ?_
  refine x_get S hK hP 0 rfl cfX1 0 lkX1_15 (by decide) rfl dX1_lastState_5 ?_
  refine x_get S hK hP 6 rfl cfX2 1 lkX1_66 (by decide) rfl dX1_lastState_8 ?_
  refine x_iald S hK hP 1 rfl (vp_in_nI (by omega) (by decide)) dX1_lastState_11 ?_
  refine lv_topi (fun v_1 ev_1 => ?_)
  exact x_reti S hr hlk hQ hS () trivial x_T dX1_lastState_12

set_option maxHeartbeats 4000000 in
set_option maxRecDepth 100000 in
theorem ctX1_run_t (l : Launch) (D : va_G) (k : Nat → ClassId) (z : Nat → Nat) (o : Nat → Nat) (tlawNow : Int32) (tharder : Int32) (ttold : Int32) (treply : Int32) (twet : Int32) (f73 : Nat → Int32) (f69 : Nat → Int32) (f70 : Nat → Int32) (f71 : Nat → Int32) (glines : Int32) (ghours : Nat) (glaw : Int32) (godds : Int32) (grows : Nat) (gheads : Nat) (gsayings : Nat) (gslugs : Nat) (gacts : Nat) (f26 : Nat → Int32) (f30 : Nat → Int32) (f31 : Nat → Int32) (hghours : ghours ≤ 16) (hgrows : grows ≤ 4) (hgheads : gheads ≤ 12) (hgsayings : gsayings ≤ 8) (hgslugs : gslugs ≤ 4) (hgacts : gacts ≤ 30) : MU l yX1_run cX1_run 7 none 3 D k z [.ref (o 6)] [((o 6), .inr (1, [.ref (o 3), .ref (o 4), .int tlawNow, .int tharder, .int ttold, .int treply, .int twet, .ref (o 73)])), ((o 73), .inl (k 0, 17, .inl f73)), ((o 4), .inr (3, [.ref (o 69), .ref (o 70), .ref (o 71)])), ((o 69), .inl (k 0, 17, .inl f69)), ((o 70), .inl (k 0, 17, .inl f70)), ((o 71), .inl (k 0, 17, .inl f71)), ((o 3), .inr (2, [.int glines, .int (nI ghours), .int glaw, .int godds, .int (nI grows), .int (nI gheads), .int (nI gsayings), .int (nI gslugs), .int (nI gacts), .ref (o 26), .ref (o 27), .ref (o 28), .ref (o 29), .ref (o 30), .ref (o 31), .ref (o 32), .ref (o 33), .ref (o 34), .ref (o 35)])), ((o 26), .inl (k 0, 12, .inl f26)), ((o 30), .inl (k 0, 12, .inl f30)), ((o 31), .inl (k 0, 12, .inl f31))] 0 0 (Uv D (fun _ : (Nat → Int32) × (Nat → Nat) × (Nat → Nat → Int32) × (Nat → Nat → Int64) × (Nat → Int64) => True) (fun u : (Nat → Int32) × (Nat → Nat) × (Nat → Nat → Int32) × (Nat → Nat → Int64) × (Nat → Int64) => [((o 6), .inr (1, [.ref (o 3), .ref (o 4), .int tlawNow, .int tharder, .int ttold, .int treply, .int twet, .ref (o 73)])), ((o 73), .inl (k 0, 17, .inl (u.2.2.1 0))), ((o 4), .inr (3, [.ref (o 69), .ref (o 70), .ref (o 71)])), ((o 69), .inl (k 0, 17, .inl f69)), ((o 70), .inl (k 0, 17, .inl f70)), ((o 71), .inl (k 0, 17, .inl f71)), ((o 3), .inr (2, [.int glines, .int (nI ghours), .int glaw, .int godds, .int (nI grows), .int (nI gheads), .int (nI gsayings), .int (nI gslugs), .int (nI gacts), .ref (o 26), .ref (o 27), .ref (o 28), .ref (o 29), .ref (o 30), .ref (o 31), .ref (o 32), .ref (o 33), .ref (o 34), .ref (o 35)])), ((o 26), .inl (k 0, 12, .inl f26)), ((o 30), .inl (k 0, 12, .inl f30)), ((o 31), .inl (k 0, 12, .inl f31))])) := by
  refine MU.of (by decide) (Nat.le_of_ble_eq_true rfl) ?_
  intro p e s m below meth c ls A args Q S hr hlk hnm hQ hK hP hD hZ hA hS hl
  have hx := S.1
  have hb := S.2.1
  have hl : lv_has ls 7 [(0, .ref (o 6))] := hl
  refine lv_aload_n hx hb dX1_run_0 rfl (lv_at hl 0 rfl) ?_
  refine x_get S hK hP 0 rfl cfX1 1 lkX1_19 (by decide) rfl dX1_run_1 ?_
  refine x_get S hK hP 2 rfl cfX3 0 lkX1_51 (by decide) rfl dX1_run_4 ?_
  refine lv_iconst (v := 0) hx hb dX1_run_7 (by decide) ?_
  refine x_iald S hK hP 3 rfl (vp_lit (by decide)) dX1_run_8 ?_
  refine lv_topi (fun v_1 ev_1 => ?_)
  refine lv_aload_n hx hb dX1_run_9 rfl (lv_at hl 0 rfl) ?_
  refine x_get S hK hP 0 rfl cfX1 4 lkX1_35 (by decide) rfl dX1_run_10 ?_
  refine x_roSNi (As := [.int v_1, .int ttold]) S hK hP hD hZ (fun _ h => h) hA hS hA hl mwX10_heard lkX1_56 (ctX10_heard l D k z v_1 ttold ) [] rfl (by decide) rfl rfl ⟨Nat.le_of_ble_eq_true rfl, Nat.le_of_ble_eq_true rfl, Nat.le_of_ble_eq_true rfl⟩ dX1_run_13 ⟨Nat.le_of_ble_eq_true rfl, Nat.le_of_ble_eq_true rfl⟩ (fun r_2 H locs hr_2 hP hS => ?_)
  refine lv_aload_n hx hb dX1_run_16 rfl (lv_at hl 0 rfl) ?_
  refine x_get S hK hP 0 rfl cfX1 5 lkX1_38 (by decide) rfl dX1_run_17 ?_
  refine x_roSNi (As := [.int r_2, .int treply]) S hK hP hD hZ (fun _ h => h) hA hS hA hl mwX10_heard lkX1_56 (ctX10_heard l D k z r_2 treply ) [] rfl (by decide) rfl rfl ⟨Nat.le_of_ble_eq_true rfl, Nat.le_of_ble_eq_true rfl, Nat.le_of_ble_eq_true rfl⟩ dX1_run_20 ⟨Nat.le_of_ble_eq_true rfl, Nat.le_of_ble_eq_true rfl⟩ (fun r_4 H locs hr_4 hP hS => ?_)
  refine lv_aload_n hx hb dX1_run_23 rfl (lv_at hl 0 rfl) ?_
  refine x_get S hK hP 0 rfl cfX1 1 lkX1_19 (by decide) rfl dX1_run_24 ?_
  refine x_get S hK hP 2 rfl cfX3 1 lkX1_59 (by decide) rfl dX1_run_27 ?_
  refine lv_iconst (v := 0) hx hb dX1_run_30 (by decide) ?_
  refine x_iald S hK hP 4 rfl (vp_lit (by decide)) dX1_run_31 ?_
  refine lv_topi (fun v_6 ev_6 => ?_)
  refine x_roSNi (As := [.int v_6]) S hK hP hD hZ (fun _ h => h) hA hS hA hl mwX10_inBoth lkX1_62 (ctX10_inBoth l D k z v_6 ) [] rfl (by decide) rfl rfl ⟨Nat.le_of_ble_eq_true rfl, Nat.le_of_ble_eq_true rfl, Nat.le_of_ble_eq_true rfl⟩ dX1_run_32 ⟨Nat.le_of_ble_eq_true rfl, Nat.le_of_ble_eq_true rfl⟩ (fun r_7 H locs hr_7 hP hS => ?_)
  refine lv_iconst (v := (-1)) hx hb dX1_run_35 (by decide) ?_
  refine lv_ixor hx hb dX1_run_36 ?_
  refine lv_topi (fun v_9 ev_9 => ?_)
  refine lv_iand hx hb dX1_run_37 ?_
  refine lv_topi (fun v_10 ev_10 => ?_)
  refine lv_istore_n (lv' := [(1, .int v_10), (0, .ref (o 6))]) hx hb dX1_run_38 rfl hl (by decide) rfl (fun ls hl => ?_)
  refine lv_aload_n hx hb dX1_run_39 rfl (lv_at hl 1 rfl) ?_
  refine x_get S hK hP 0 rfl cfX1 7 lkX1_9 (by decide) rfl dX1_run_40 ?_
  refine lv_iconst (v := 0) hx hb dX1_run_43 (by decide) ?_
  refine lv_iload_n hx hb dX1_run_44 rfl (lv_at hl 0 rfl) ?_
  refine x_iast (ws' := fun f_11 => [((o 6), .inr (1, [.ref (o 3), .ref (o 4), .int tlawNow, .int tharder, .int ttold, .int treply, .int twet, .ref (o 73)])), ((o 73), .inl (k 0, 17, .inl f_11)), ((o 4), .inr (3, [.ref (o 69), .ref (o 70), .ref (o 71)])), ((o 69), .inl (k 0, 17, .inl f69)), ((o 70), .inl (k 0, 17, .inl f70)), ((o 71), .inl (k 0, 17, .inl f71)), ((o 3), .inr (2, [.int glines, .int (nI ghours), .int glaw, .int godds, .int (nI grows), .int (nI gheads), .int (nI gsayings), .int (nI gslugs), .int (nI gacts), .ref (o 26), .ref (o 27), .ref (o 28), .ref (o 29), .ref (o 30), .ref (o 31), .ref (o 32), .ref (o 33), .ref (o 34), .ref (o 35)])), ((o 26), .inl (k 0, 12, .inl f26)), ((o 30), .inl (k 0, 12, .inl f30)), ((o 31), .inl (k 0, 12, .inl f31))]) S hK hP hD hS 1 rfl (vp_lit (by decide)) (fun _ => rfl) dX1_run_45 (fun f_11 H locs ef_11 hP hD hS => ?_)
  refine lv_iload_n hx hb dX1_run_46 rfl (lv_at hl 0 rfl) ?_
  refine lv_istore_n (lv' := [(2, .int v_10), (1, .int v_10), (0, .ref (o 6))]) hx hb dX1_run_47 rfl hl (by decide) rfl (fun ls hl => ?_)
  refine lv_iconst (v := (-1)) hx hb dX1_run_48 (by decide) ?_
  refine lv_istore_n (lv' := [(3, .int (-1)), (2, .int v_10), (1, .int v_10), (0, .ref (o 6))]) hx hb dX1_run_49 rfl hl (by decide) rfl (fun ls hl => ?_)
  refine lv_iconst (v := 0) hx hb dX1_run_50 (by decide) ?_
  refine lv_istore (lv' := [(4, .int 0), (3, .int (-1)), (2, .int v_10), (1, .int v_10), (0, .ref (o 6))]) hx hb dX1_run_51 hl (by decide) rfl (fun ls hl => ?_)
  have lp_154 : ∀ (nn j_149 : Nat) (x_150 : Int32) (g_151 : Nat → Int32) (x_152 : Int32) (x_153 : Int32) (H : Heap) (locs : List Loc) (ls : Array Slot), j_149 ≤ ghours → ghours - j_149 < nn → va_P D vwCl [((o 6), .inr (1, [.ref (o 3), .ref (o 4), .int tlawNow, .int tharder, .int ttold, .int treply, .int twet, .ref (o 73)])), ((o 73), .inl (k 0, 17, .inl g_151)), ((o 4), .inr (3, [.ref (o 69), .ref (o 70), .ref (o 71)])), ((o 69), .inl (k 0, 17, .inl f69)), ((o 70), .inl (k 0, 17, .inl f70)), ((o 71), .inl (k 0, 17, .inl f71)), ((o 3), .inr (2, [.int glines, .int (nI ghours), .int glaw, .int godds, .int (nI grows), .int (nI gheads), .int (nI gsayings), .int (nI gslugs), .int (nI gacts), .ref (o 26), .ref (o 27), .ref (o 28), .ref (o 29), .ref (o 30), .ref (o 31), .ref (o 32), .ref (o 33), .ref (o 34), .ref (o 35)])), ((o 26), .inl (k 0, 12, .inl f26)), ((o 30), .inl (k 0, 12, .inl f30)), ((o 31), .inl (k 0, 12, .inl f31))] H → va_D A [((o 6), .inr (1, [.ref (o 3), .ref (o 4), .int tlawNow, .int tharder, .int ttold, .int treply, .int twet, .ref (o 73)])), ((o 73), .inl (k 0, 17, .inl g_151)), ((o 4), .inr (3, [.ref (o 69), .ref (o 70), .ref (o 71)])), ((o 69), .inl (k 0, 17, .inl f69)), ((o 70), .inl (k 0, 17, .inl f70)), ((o 71), .inl (k 0, 17, .inl f71)), ((o 3), .inr (2, [.int glines, .int (nI ghours), .int glaw, .int godds, .int (nI grows), .int (nI gheads), .int (nI gsayings), .int (nI gslugs), .int (nI gacts), .ref (o 26), .ref (o 27), .ref (o 28), .ref (o 29), .ref (o 30), .ref (o 31), .ref (o 32), .ref (o 33), .ref (o 34), .ref (o 35)])), ((o 26), .inl (k 0, 12, .inl f26)), ((o 30), .inl (k 0, 12, .inl f30)), ((o 31), .inl (k 0, 12, .inl f31))] → va_S A s.heap H locs → lv_has ls 7 [(4, .int (nI j_149)), (3, .int x_152), (2, .int x_153), (1, .int x_150), (0, .ref (o 6))] → W p l e (Rm 3 0 0) s m args below meth c H locs 0 0 Q (F0 m 53 ls []) := by
    intro nn
    induction nn with
    | zero => intro j_149 x_150 g_151 x_152 x_153 H locs ls hjj_149 hnj_149; exact absurd hnj_149 (by omega)
    | succ nn ihj_149 =>
      intro j_149 x_150 g_151 x_152 x_153 H locs ls hjj_149 hnj_149 hP hD hS hl
      refine lv_iload hx hb dX1_run_53 (lv_at hl 0 rfl) ?_
      refine lv_aload_n hx hb dX1_run_55 rfl (lv_at hl 4 rfl) ?_
      refine x_get S hK hP 0 rfl cfX1 0 lkX1_15 (by decide) rfl dX1_run_56 ?_
      refine x_get S hK hP 6 rfl cfX2 1 lkX1_66 (by decide) rfl dX1_run_59 ?_
      refine lv_icmp_ge (tgt := 163) hx hb dX1_run_62 (by decide) (fun c_155 => ?_) (fun c_155 => ?_)
      · skip
        have c_155 : ghours ≤ j_149 := (ni_le rfl rfl (by omega) (by omega)).mp c_155
        exact x_retv S hr hlk hQ hS ((fun i => ([] : List (Int32)).getD i 0), (fun i => ([] : List (Nat)).getD i 0), (fun i => ([g_151] : List (Nat → Int32)).getD i (fun _ => 0)), (fun i => ([] : List (Nat → Int64)).getD i (fun _ => 0)), (fun i => ([] : List (Int64)).getD i 0)) trivial (x_B hP hD) dX1_run_163
      · skip
        have c_155 : ¬ ghours ≤ j_149 := fun q => c_155 ((ni_le rfl rfl (by omega) (by omega)).mpr q)
        refine lv_iload hx hb dX1_run_65 (lv_at hl 0 rfl) ?_
        refine lv_bipush (v := 16) hx hb dX1_run_67 (by decide) ?_
        refine lv_icmp_ge (tgt := 163) hx hb dX1_run_69 (by decide) (fun c_156 => ?_) (fun c_156 => ?_)
        · skip
          have c_156 : 16 ≤ j_149 := (ni_le (by decide) rfl (by omega) (by omega)).mp c_156
          exact x_retv S hr hlk hQ hS ((fun i => ([] : List (Int32)).getD i 0), (fun i => ([] : List (Nat)).getD i 0), (fun i => ([g_151] : List (Nat → Int32)).getD i (fun _ => 0)), (fun i => ([] : List (Nat → Int64)).getD i (fun _ => 0)), (fun i => ([] : List (Int64)).getD i 0)) trivial (x_B hP hD) dX1_run_163
        · skip
          have c_156 : ¬ 16 ≤ j_149 := fun q => c_156 ((ni_le (by decide) rfl (by omega) (by omega)).mpr q)
          refine lv_aload_n hx hb dX1_run_72 rfl (lv_at hl 4 rfl) ?_
          refine lv_iload hx hb dX1_run_73 (lv_at hl 0 rfl) ?_
          refine x_roVi (As := [.int (nI j_149)]) S hK hP hD hZ (fun _ h => h) hA hS hA hl mwX1_takersAt lkX1_69 (ctX1_takersAt_c l D k z (fun i => ([0, 0, 0, (o 3), (o 4), (o 6), 0, 0, 0, 0, 0, 0, 0, 0, 0, 0, 0, 0, 0, 0, 0, 0, 0, 0, 0, 0, (o 26), (o 27), (o 28), (o 29), (o 30), (o 31), (o 32), (o 33), (o 34), (o 35), 0, 0, 0, 0, 0, 0, 0, 0, 0, 0, 0, 0, 0, 0, 0, 0, 0, 0, 0, 0, 0, 0, 0, 0, 0, 0, 0, 0, 0, 0, 0, 0, 0, (o 69), (o 70), (o 71), (o 73)] : List Nat).getD i 0) tlawNow tharder ttold treply twet g_151 f69 f70 f71 glines ghours glaw godds grows gheads gsayings gslugs gacts f26 f30 f31 j_149 (by omega) (by omega) (by omega) (by omega) (by omega) (by omega) (by omega)) [0, 1, 2, 3, 4, 5, 6, 7, 8, 9] rfl (by decide) rfl rfl rfl rfl rfl ⟨Nat.le_of_ble_eq_true rfl, Nat.le_of_ble_eq_true rfl, Nat.le_of_ble_eq_true rfl⟩ dX1_run_75 ⟨Nat.le_of_ble_eq_true rfl, Nat.le_of_ble_eq_true rfl⟩ (fun r_157 H locs hr_157 hP hS => ?_)
          refine lv_istore (lv' := [(5, .int r_157), (4, .int (nI j_149)), (3, .int x_152), (2, .int x_153), (1, .int x_150), (0, .ref (o 6))]) hx hb dX1_run_78 hl (by decide) rfl (fun ls hl => ?_)
          refine lv_iload_n hx hb dX1_run_80 rfl (lv_at hl 4 rfl) ?_
          refine lv_iload_n hx hb dX1_run_81 rfl (lv_at hl 3 rfl) ?_
          refine lv_icmp_ne (tgt := 95) hx hb dX1_run_82 (by decide) (fun c_159 => ?_) (fun c_159 => ?_)
          · skip
            refine lv_iconst (v := 0) hx hb dX1_run_95 (by decide) ?_
            refine lv_istore (lv' := [(6, .int 0), (5, .int r_157), (4, .int (nI j_149)), (3, .int x_152), (2, .int x_153), (1, .int x_150), (0, .ref (o 6))]) hx hb dX1_run_96 hl (by decide) rfl (fun ls hl => ?_)
            refine lv_iload hx hb dX1_run_98 (lv_at hl 0 rfl) ?_
            refine lv_if_ne (tgt := 137) hx hb dX1_run_100 (by decide) (fun c_160 => absurd (by decide) c_160) (fun c_160 => ?_)
            refine lv_aload_n hx hb dX1_run_103 rfl (lv_at hl 6 rfl) ?_
            refine x_get S hK hP 0 rfl cfX1 6 lkX1_41 (by decide) rfl dX1_run_104 ?_
            refine lv_iload hx hb dX1_run_107 (lv_at hl 2 rfl) ?_
            refine lv_iushr hx hb dX1_run_109 rfl ?_
            refine lv_topi (fun v_161 ev_161 => ?_)
            refine lv_iconst (v := 1) hx hb dX1_run_110 (by decide) ?_
            refine lv_iand hx hb dX1_run_111 ?_
            refine lv_topi (fun v_162 ev_162 => ?_)
            refine lv_if_ne (tgt := 137) hx hb dX1_run_112 (by decide) (fun c_163 => ?_) (fun c_163 => ?_)
            · skip
              refine lv_aload_n hx hb dX1_run_137 rfl (lv_at hl 6 rfl) ?_
              refine lv_iload hx hb dX1_run_138 (lv_at hl 2 rfl) ?_
              refine lv_iconst (v := 1) hx hb dX1_run_140 (by decide) ?_
              refine lv_iadd hx hb dX1_run_141 ?_
              refine x_is (nI (j_149 + 1)) (ni_add rfl (by decide)) ?_
              refine lv_iload_n hx hb dX1_run_142 rfl (lv_at hl 5 rfl) ?_
              refine x_roVi (As := [.int (nI (j_149 + 1)), .int x_150]) S hK hP hD hZ (fun _ h => h) hA hS hA hl mwX1_arrive lkX1_75 (ctX1_arrive_c l D k z (fun i => ([0, 0, 0, (o 3), (o 4), (o 6), 0, 0, 0, 0, 0, 0, 0, 0, 0, 0, 0, 0, 0, 0, 0, 0, 0, 0, 0, 0, (o 26), (o 27), (o 28), (o 29), (o 30), (o 31), (o 32), (o 33), (o 34), (o 35), 0, 0, 0, 0, 0, 0, 0, 0, 0, 0, 0, 0, 0, 0, 0, 0, 0, 0, 0, 0, 0, 0, 0, 0, 0, 0, 0, 0, 0, 0, 0, 0, 0, (o 69), (o 70), (o 71), (o 73)] : List Nat).getD i 0) tlawNow tharder ttold treply twet g_151 f69 f70 f71 glines ghours glaw godds grows gheads gsayings gslugs gacts f26 f30 f31 (j_149 + 1) x_150 (by omega) (by omega) (by omega) (by omega) (by omega) (by omega) (by omega)) [0, 1, 2, 3, 4, 5, 6, 7, 8, 9] rfl (by decide) rfl rfl rfl rfl rfl ⟨Nat.le_of_ble_eq_true rfl, Nat.le_of_ble_eq_true rfl, Nat.le_of_ble_eq_true rfl⟩ dX1_run_143 ⟨Nat.le_of_ble_eq_true rfl, Nat.le_of_ble_eq_true rfl⟩ (fun r_164 H locs hr_164 hP hS => ?_)
              refine lv_istore_n (lv' := [(1, .int r_164), (6, .int 0), (5, .int r_157), (4, .int (nI j_149)), (3, .int x_152), (2, .int x_153), (0, .ref (o 6))]) hx hb dX1_run_146 rfl hl (by decide) rfl (fun ls hl => ?_)
              refine lv_aload_n hx hb dX1_run_147 rfl (lv_at hl 6 rfl) ?_
              refine x_get S hK hP 0 rfl cfX1 7 lkX1_9 (by decide) rfl dX1_run_148 ?_
              refine lv_iload hx hb dX1_run_151 (lv_at hl 3 rfl) ?_
              refine lv_iconst (v := 1) hx hb dX1_run_153 (by decide) ?_
              refine lv_iadd hx hb dX1_run_154 ?_
              refine x_is (nI (j_149 + 1)) (ni_add rfl (by decide)) ?_
              refine lv_iload_n hx hb dX1_run_155 rfl (lv_at hl 0 rfl) ?_
              refine x_iast (ws' := fun f_166 => [((o 6), .inr (1, [.ref (o 3), .ref (o 4), .int tlawNow, .int tharder, .int ttold, .int treply, .int twet, .ref (o 73)])), ((o 73), .inl (k 0, 17, .inl f_166)), ((o 4), .inr (3, [.ref (o 69), .ref (o 70), .ref (o 71)])), ((o 69), .inl (k 0, 17, .inl f69)), ((o 70), .inl (k 0, 17, .inl f70)), ((o 71), .inl (k 0, 17, .inl f71)), ((o 3), .inr (2, [.int glines, .int (nI ghours), .int glaw, .int godds, .int (nI grows), .int (nI gheads), .int (nI gsayings), .int (nI gslugs), .int (nI gacts), .ref (o 26), .ref (o 27), .ref (o 28), .ref (o 29), .ref (o 30), .ref (o 31), .ref (o 32), .ref (o 33), .ref (o 34), .ref (o 35)])), ((o 26), .inl (k 0, 12, .inl f26)), ((o 30), .inl (k 0, 12, .inl f30)), ((o 31), .inl (k 0, 12, .inl f31))]) S hK hP hD hS 1 rfl (vp_in_nI (by omega) (by decide)) (fun _ => rfl) dX1_run_156 (fun f_166 H locs ef_166 hP hD hS => ?_)
              refine lv_iinc (v := (nI (j_149 + 1))) (lv' := [(4, .int (nI (j_149 + 1))), (1, .int r_164), (6, .int 0), (5, .int r_157), (3, .int x_152), (2, .int x_153), (0, .ref (o 6))]) hx hb dX1_run_157 hl (k := 3) rfl (ni_inc _) (by decide) rfl (fun ls hl => ?_)
              refine lv_goto (tgt := 53) hx hb dX1_run_160 (by decide) ?_
              exact ihj_149 (j_149 + 1) r_164 f_166 x_152 x_153 _ _ _ (by omega) (by omega) hP hD hS (lv_sub hl [0, 4, 5, 1, 6] rfl)
            · skip
              refine lv_iload_n hx hb dX1_run_115 rfl (lv_at hl 5 rfl) ?_
              refine lv_istore_n (lv' := [(2, .int x_150), (6, .int 0), (5, .int r_157), (4, .int (nI j_149)), (3, .int x_152), (1, .int x_150), (0, .ref (o 6))]) hx hb dX1_run_116 rfl hl (by decide) rfl (fun ls hl => ?_)
              refine lv_aload_n hx hb dX1_run_117 rfl (lv_at hl 6 rfl) ?_
              refine lv_iload hx hb dX1_run_118 (lv_at hl 2 rfl) ?_
              refine lv_iload_n hx hb dX1_run_120 rfl (lv_at hl 5 rfl) ?_
              refine x_roVi (As := [.int r_157, .int x_150]) S hK hP hD hZ (fun _ h => h) hA hS hA hl mwX1_passTo lkX1_72 (ctX1_passTo_c l D k z (fun i => ([0, 0, 0, (o 3), (o 4), (o 6), 0, 0, 0, 0, 0, 0, 0, 0, 0, 0, 0, 0, 0, 0, 0, 0, 0, 0, 0, 0, (o 26), (o 27), (o 28), (o 29), (o 30), (o 31), (o 32), (o 33), (o 34), (o 35), 0, 0, 0, 0, 0, 0, 0, 0, 0, 0, 0, 0, 0, 0, 0, 0, 0, 0, 0, 0, 0, 0, 0, 0, 0, 0, 0, 0, 0, 0, 0, 0, 0, (o 69), (o 70), (o 71), (o 73)] : List Nat).getD i 0) tlawNow tharder ttold treply twet g_151 f69 f70 f71 glines ghours glaw godds grows gheads gsayings gslugs gacts f26 f30 f31 r_157 x_150 (by omega) (by omega) (by omega) (by omega) (by omega) (by omega)) [0, 1, 2, 3, 4, 5, 6, 7, 8, 9] rfl (by decide) rfl rfl rfl rfl rfl ⟨Nat.le_of_ble_eq_true rfl, Nat.le_of_ble_eq_true rfl, Nat.le_of_ble_eq_true rfl⟩ dX1_run_121 ⟨Nat.le_of_ble_eq_true rfl, Nat.le_of_ble_eq_true rfl⟩ (fun r_167 H locs hr_167 hP hS => ?_)
              refine lv_istore_n (lv' := [(1, .int r_167), (2, .int x_150), (6, .int 0), (5, .int r_157), (4, .int (nI j_149)), (3, .int x_152), (0, .ref (o 6))]) hx hb dX1_run_124 rfl hl (by decide) rfl (fun ls hl => ?_)
              refine lv_iload_n hx hb dX1_run_125 rfl (lv_at hl 0 rfl) ?_
              refine lv_iload_n hx hb dX1_run_126 rfl (lv_at hl 1 rfl) ?_
              refine lv_icmp_ne (tgt := 135) hx hb dX1_run_127 (by decide) (fun c_169 => ?_) (fun c_169 => ?_)
              · skip
                refine lv_iconst (v := (-1)) hx hb dX1_run_135 (by decide) ?_
                refine lv_istore_n (lv' := [(3, .int (-1)), (1, .int r_167), (2, .int x_150), (6, .int 0), (5, .int r_157), (4, .int (nI j_149)), (0, .ref (o 6))]) hx hb dX1_run_136 rfl hl (by decide) rfl (fun ls hl => ?_)
                refine lv_aload_n hx hb dX1_run_137 rfl (lv_at hl 6 rfl) ?_
                refine lv_iload hx hb dX1_run_138 (lv_at hl 5 rfl) ?_
                refine lv_iconst (v := 1) hx hb dX1_run_140 (by decide) ?_
                refine lv_iadd hx hb dX1_run_141 ?_
                refine x_is (nI (j_149 + 1)) (ni_add rfl (by decide)) ?_
                refine lv_iload_n hx hb dX1_run_142 rfl (lv_at hl 1 rfl) ?_
                refine x_roVi (As := [.int (nI (j_149 + 1)), .int r_167]) S hK hP hD hZ (fun _ h => h) hA hS hA hl mwX1_arrive lkX1_75 (ctX1_arrive_c l D k z (fun i => ([0, 0, 0, (o 3), (o 4), (o 6), 0, 0, 0, 0, 0, 0, 0, 0, 0, 0, 0, 0, 0, 0, 0, 0, 0, 0, 0, 0, (o 26), (o 27), (o 28), (o 29), (o 30), (o 31), (o 32), (o 33), (o 34), (o 35), 0, 0, 0, 0, 0, 0, 0, 0, 0, 0, 0, 0, 0, 0, 0, 0, 0, 0, 0, 0, 0, 0, 0, 0, 0, 0, 0, 0, 0, 0, 0, 0, 0, (o 69), (o 70), (o 71), (o 73)] : List Nat).getD i 0) tlawNow tharder ttold treply twet g_151 f69 f70 f71 glines ghours glaw godds grows gheads gsayings gslugs gacts f26 f30 f31 (j_149 + 1) r_167 (by omega) (by omega) (by omega) (by omega) (by omega) (by omega) (by omega)) [0, 1, 2, 3, 4, 5, 6, 7, 8, 9] rfl (by decide) rfl rfl rfl rfl rfl ⟨Nat.le_of_ble_eq_true rfl, Nat.le_of_ble_eq_true rfl, Nat.le_of_ble_eq_true rfl⟩ dX1_run_143 ⟨Nat.le_of_ble_eq_true rfl, Nat.le_of_ble_eq_true rfl⟩ (fun r_170 H locs hr_170 hP hS => ?_)
                refine lv_istore_n (lv' := [(1, .int r_170), (3, .int (-1)), (2, .int x_150), (6, .int 0), (5, .int r_157), (4, .int (nI j_149)), (0, .ref (o 6))]) hx hb dX1_run_146 rfl hl (by decide) rfl (fun ls hl => ?_)
                refine lv_aload_n hx hb dX1_run_147 rfl (lv_at hl 6 rfl) ?_
                refine x_get S hK hP 0 rfl cfX1 7 lkX1_9 (by decide) rfl dX1_run_148 ?_
                refine lv_iload hx hb dX1_run_151 (lv_at hl 5 rfl) ?_
                refine lv_iconst (v := 1) hx hb dX1_run_153 (by decide) ?_
                refine lv_iadd hx hb dX1_run_154 ?_
                refine x_is (nI (j_149 + 1)) (ni_add rfl (by decide)) ?_
                refine lv_iload_n hx hb dX1_run_155 rfl (lv_at hl 0 rfl) ?_
                refine x_iast (ws' := fun f_172 => [((o 6), .inr (1, [.ref (o 3), .ref (o 4), .int tlawNow, .int tharder, .int ttold, .int treply, .int twet, .ref (o 73)])), ((o 73), .inl (k 0, 17, .inl f_172)), ((o 4), .inr (3, [.ref (o 69), .ref (o 70), .ref (o 71)])), ((o 69), .inl (k 0, 17, .inl f69)), ((o 70), .inl (k 0, 17, .inl f70)), ((o 71), .inl (k 0, 17, .inl f71)), ((o 3), .inr (2, [.int glines, .int (nI ghours), .int glaw, .int godds, .int (nI grows), .int (nI gheads), .int (nI gsayings), .int (nI gslugs), .int (nI gacts), .ref (o 26), .ref (o 27), .ref (o 28), .ref (o 29), .ref (o 30), .ref (o 31), .ref (o 32), .ref (o 33), .ref (o 34), .ref (o 35)])), ((o 26), .inl (k 0, 12, .inl f26)), ((o 30), .inl (k 0, 12, .inl f30)), ((o 31), .inl (k 0, 12, .inl f31))]) S hK hP hD hS 1 rfl (vp_in_nI (by omega) (by decide)) (fun _ => rfl) dX1_run_156 (fun f_172 H locs ef_172 hP hD hS => ?_)
                refine lv_iinc (v := (nI (j_149 + 1))) (lv' := [(4, .int (nI (j_149 + 1))), (1, .int r_170), (3, .int (-1)), (2, .int x_150), (6, .int 0), (5, .int r_157), (0, .ref (o 6))]) hx hb dX1_run_157 hl (k := 5) rfl (ni_inc _) (by decide) rfl (fun ls hl => ?_)
                refine lv_goto (tgt := 53) hx hb dX1_run_160 (by decide) ?_
                exact ihj_149 (j_149 + 1) r_170 f_172 (-1) x_150 _ _ _ (by omega) (by omega) hP hD hS (lv_sub hl [0, 2, 3, 1, 6] rfl)
              · skip
                refine lv_iload hx hb dX1_run_130 (lv_at hl 3 rfl) ?_
                refine lv_goto (tgt := 136) hx hb dX1_run_132 (by decide) ?_
                refine lv_istore_n (lv' := [(3, .int r_157), (1, .int r_167), (2, .int x_150), (6, .int 0), (5, .int r_157), (4, .int (nI j_149)), (0, .ref (o 6))]) hx hb dX1_run_136 rfl hl (by decide) rfl (fun ls hl => ?_)
                refine lv_aload_n hx hb dX1_run_137 rfl (lv_at hl 6 rfl) ?_
                refine lv_iload hx hb dX1_run_138 (lv_at hl 5 rfl) ?_
                refine lv_iconst (v := 1) hx hb dX1_run_140 (by decide) ?_
                refine lv_iadd hx hb dX1_run_141 ?_
                refine x_is (nI (j_149 + 1)) (ni_add rfl (by decide)) ?_
                refine lv_iload_n hx hb dX1_run_142 rfl (lv_at hl 1 rfl) ?_
                refine x_roVi (As := [.int (nI (j_149 + 1)), .int r_167]) S hK hP hD hZ (fun _ h => h) hA hS hA hl mwX1_arrive lkX1_75 (ctX1_arrive_c l D k z (fun i => ([0, 0, 0, (o 3), (o 4), (o 6), 0, 0, 0, 0, 0, 0, 0, 0, 0, 0, 0, 0, 0, 0, 0, 0, 0, 0, 0, 0, (o 26), (o 27), (o 28), (o 29), (o 30), (o 31), (o 32), (o 33), (o 34), (o 35), 0, 0, 0, 0, 0, 0, 0, 0, 0, 0, 0, 0, 0, 0, 0, 0, 0, 0, 0, 0, 0, 0, 0, 0, 0, 0, 0, 0, 0, 0, 0, 0, 0, (o 69), (o 70), (o 71), (o 73)] : List Nat).getD i 0) tlawNow tharder ttold treply twet g_151 f69 f70 f71 glines ghours glaw godds grows gheads gsayings gslugs gacts f26 f30 f31 (j_149 + 1) r_167 (by omega) (by omega) (by omega) (by omega) (by omega) (by omega) (by omega)) [0, 1, 2, 3, 4, 5, 6, 7, 8, 9] rfl (by decide) rfl rfl rfl rfl rfl ⟨Nat.le_of_ble_eq_true rfl, Nat.le_of_ble_eq_true rfl, Nat.le_of_ble_eq_true rfl⟩ dX1_run_143 ⟨Nat.le_of_ble_eq_true rfl, Nat.le_of_ble_eq_true rfl⟩ (fun r_173 H locs hr_173 hP hS => ?_)
                refine lv_istore_n (lv' := [(1, .int r_173), (3, .int r_157), (2, .int x_150), (6, .int 0), (5, .int r_157), (4, .int (nI j_149)), (0, .ref (o 6))]) hx hb dX1_run_146 rfl hl (by decide) rfl (fun ls hl => ?_)
                refine lv_aload_n hx hb dX1_run_147 rfl (lv_at hl 6 rfl) ?_
                refine x_get S hK hP 0 rfl cfX1 7 lkX1_9 (by decide) rfl dX1_run_148 ?_
                refine lv_iload hx hb dX1_run_151 (lv_at hl 5 rfl) ?_
                refine lv_iconst (v := 1) hx hb dX1_run_153 (by decide) ?_
                refine lv_iadd hx hb dX1_run_154 ?_
                refine x_is (nI (j_149 + 1)) (ni_add rfl (by decide)) ?_
                refine lv_iload_n hx hb dX1_run_155 rfl (lv_at hl 0 rfl) ?_
                refine x_iast (ws' := fun f_175 => [((o 6), .inr (1, [.ref (o 3), .ref (o 4), .int tlawNow, .int tharder, .int ttold, .int treply, .int twet, .ref (o 73)])), ((o 73), .inl (k 0, 17, .inl f_175)), ((o 4), .inr (3, [.ref (o 69), .ref (o 70), .ref (o 71)])), ((o 69), .inl (k 0, 17, .inl f69)), ((o 70), .inl (k 0, 17, .inl f70)), ((o 71), .inl (k 0, 17, .inl f71)), ((o 3), .inr (2, [.int glines, .int (nI ghours), .int glaw, .int godds, .int (nI grows), .int (nI gheads), .int (nI gsayings), .int (nI gslugs), .int (nI gacts), .ref (o 26), .ref (o 27), .ref (o 28), .ref (o 29), .ref (o 30), .ref (o 31), .ref (o 32), .ref (o 33), .ref (o 34), .ref (o 35)])), ((o 26), .inl (k 0, 12, .inl f26)), ((o 30), .inl (k 0, 12, .inl f30)), ((o 31), .inl (k 0, 12, .inl f31))]) S hK hP hD hS 1 rfl (vp_in_nI (by omega) (by decide)) (fun _ => rfl) dX1_run_156 (fun f_175 H locs ef_175 hP hD hS => ?_)
                refine lv_iinc (v := (nI (j_149 + 1))) (lv' := [(4, .int (nI (j_149 + 1))), (1, .int r_173), (3, .int r_157), (2, .int x_150), (6, .int 0), (5, .int r_157), (0, .ref (o 6))]) hx hb dX1_run_157 hl (k := 5) rfl (ni_inc _) (by decide) rfl (fun ls hl => ?_)
                refine lv_goto (tgt := 53) hx hb dX1_run_160 (by decide) ?_
                exact ihj_149 (j_149 + 1) r_173 f_175 r_157 x_150 _ _ _ (by omega) (by omega) hP hD hS (lv_sub hl [0, 2, 3, 1, 6] rfl)
          · skip
            refine lv_iload hx hb dX1_run_85 (lv_at hl 0 rfl) ?_
            refine lv_iload_n hx hb dX1_run_87 rfl (lv_at hl 2 rfl) ?_
            refine lv_icmp_ne (tgt := 95) hx hb dX1_run_88 (by decide) (fun c_176 => ?_) (fun c_176 => ?_)
            · skip
              refine lv_iconst (v := 0) hx hb dX1_run_95 (by decide) ?_
              refine lv_istore (lv' := [(6, .int 0), (5, .int r_157), (4, .int (nI j_149)), (3, .int x_152), (2, .int x_153), (1, .int x_150), (0, .ref (o 6))]) hx hb dX1_run_96 hl (by decide) rfl (fun ls hl => ?_)
              refine lv_iload hx hb dX1_run_98 (lv_at hl 0 rfl) ?_
              refine lv_if_ne (tgt := 137) hx hb dX1_run_100 (by decide) (fun c_177 => absurd (by decide) c_177) (fun c_177 => ?_)
              refine lv_aload_n hx hb dX1_run_103 rfl (lv_at hl 6 rfl) ?_
              refine x_get S hK hP 0 rfl cfX1 6 lkX1_41 (by decide) rfl dX1_run_104 ?_
              refine lv_iload hx hb dX1_run_107 (lv_at hl 2 rfl) ?_
              refine lv_iushr hx hb dX1_run_109 rfl ?_
              refine lv_topi (fun v_178 ev_178 => ?_)
              refine lv_iconst (v := 1) hx hb dX1_run_110 (by decide) ?_
              refine lv_iand hx hb dX1_run_111 ?_
              refine lv_topi (fun v_179 ev_179 => ?_)
              refine lv_if_ne (tgt := 137) hx hb dX1_run_112 (by decide) (fun c_180 => ?_) (fun c_180 => ?_)
              · skip
                refine lv_aload_n hx hb dX1_run_137 rfl (lv_at hl 6 rfl) ?_
                refine lv_iload hx hb dX1_run_138 (lv_at hl 2 rfl) ?_
                refine lv_iconst (v := 1) hx hb dX1_run_140 (by decide) ?_
                refine lv_iadd hx hb dX1_run_141 ?_
                refine x_is (nI (j_149 + 1)) (ni_add rfl (by decide)) ?_
                refine lv_iload_n hx hb dX1_run_142 rfl (lv_at hl 5 rfl) ?_
                refine x_roVi (As := [.int (nI (j_149 + 1)), .int x_150]) S hK hP hD hZ (fun _ h => h) hA hS hA hl mwX1_arrive lkX1_75 (ctX1_arrive_c l D k z (fun i => ([0, 0, 0, (o 3), (o 4), (o 6), 0, 0, 0, 0, 0, 0, 0, 0, 0, 0, 0, 0, 0, 0, 0, 0, 0, 0, 0, 0, (o 26), (o 27), (o 28), (o 29), (o 30), (o 31), (o 32), (o 33), (o 34), (o 35), 0, 0, 0, 0, 0, 0, 0, 0, 0, 0, 0, 0, 0, 0, 0, 0, 0, 0, 0, 0, 0, 0, 0, 0, 0, 0, 0, 0, 0, 0, 0, 0, 0, (o 69), (o 70), (o 71), (o 73)] : List Nat).getD i 0) tlawNow tharder ttold treply twet g_151 f69 f70 f71 glines ghours glaw godds grows gheads gsayings gslugs gacts f26 f30 f31 (j_149 + 1) x_150 (by omega) (by omega) (by omega) (by omega) (by omega) (by omega) (by omega)) [0, 1, 2, 3, 4, 5, 6, 7, 8, 9] rfl (by decide) rfl rfl rfl rfl rfl ⟨Nat.le_of_ble_eq_true rfl, Nat.le_of_ble_eq_true rfl, Nat.le_of_ble_eq_true rfl⟩ dX1_run_143 ⟨Nat.le_of_ble_eq_true rfl, Nat.le_of_ble_eq_true rfl⟩ (fun r_181 H locs hr_181 hP hS => ?_)
                refine lv_istore_n (lv' := [(1, .int r_181), (6, .int 0), (5, .int r_157), (4, .int (nI j_149)), (3, .int x_152), (2, .int x_153), (0, .ref (o 6))]) hx hb dX1_run_146 rfl hl (by decide) rfl (fun ls hl => ?_)
                refine lv_aload_n hx hb dX1_run_147 rfl (lv_at hl 6 rfl) ?_
                refine x_get S hK hP 0 rfl cfX1 7 lkX1_9 (by decide) rfl dX1_run_148 ?_
                refine lv_iload hx hb dX1_run_151 (lv_at hl 3 rfl) ?_
                refine lv_iconst (v := 1) hx hb dX1_run_153 (by decide) ?_
                refine lv_iadd hx hb dX1_run_154 ?_
                refine x_is (nI (j_149 + 1)) (ni_add rfl (by decide)) ?_
                refine lv_iload_n hx hb dX1_run_155 rfl (lv_at hl 0 rfl) ?_
                refine x_iast (ws' := fun f_183 => [((o 6), .inr (1, [.ref (o 3), .ref (o 4), .int tlawNow, .int tharder, .int ttold, .int treply, .int twet, .ref (o 73)])), ((o 73), .inl (k 0, 17, .inl f_183)), ((o 4), .inr (3, [.ref (o 69), .ref (o 70), .ref (o 71)])), ((o 69), .inl (k 0, 17, .inl f69)), ((o 70), .inl (k 0, 17, .inl f70)), ((o 71), .inl (k 0, 17, .inl f71)), ((o 3), .inr (2, [.int glines, .int (nI ghours), .int glaw, .int godds, .int (nI grows), .int (nI gheads), .int (nI gsayings), .int (nI gslugs), .int (nI gacts), .ref (o 26), .ref (o 27), .ref (o 28), .ref (o 29), .ref (o 30), .ref (o 31), .ref (o 32), .ref (o 33), .ref (o 34), .ref (o 35)])), ((o 26), .inl (k 0, 12, .inl f26)), ((o 30), .inl (k 0, 12, .inl f30)), ((o 31), .inl (k 0, 12, .inl f31))]) S hK hP hD hS 1 rfl (vp_in_nI (by omega) (by decide)) (fun _ => rfl) dX1_run_156 (fun f_183 H locs ef_183 hP hD hS => ?_)
                refine lv_iinc (v := (nI (j_149 + 1))) (lv' := [(4, .int (nI (j_149 + 1))), (1, .int r_181), (6, .int 0), (5, .int r_157), (3, .int x_152), (2, .int x_153), (0, .ref (o 6))]) hx hb dX1_run_157 hl (k := 3) rfl (ni_inc _) (by decide) rfl (fun ls hl => ?_)
                refine lv_goto (tgt := 53) hx hb dX1_run_160 (by decide) ?_
                exact ihj_149 (j_149 + 1) r_181 f_183 x_152 x_153 _ _ _ (by omega) (by omega) hP hD hS (lv_sub hl [0, 4, 5, 1, 6] rfl)
              · skip
                refine lv_iload_n hx hb dX1_run_115 rfl (lv_at hl 5 rfl) ?_
                refine lv_istore_n (lv' := [(2, .int x_150), (6, .int 0), (5, .int r_157), (4, .int (nI j_149)), (3, .int x_152), (1, .int x_150), (0, .ref (o 6))]) hx hb dX1_run_116 rfl hl (by decide) rfl (fun ls hl => ?_)
                refine lv_aload_n hx hb dX1_run_117 rfl (lv_at hl 6 rfl) ?_
                refine lv_iload hx hb dX1_run_118 (lv_at hl 2 rfl) ?_
                refine lv_iload_n hx hb dX1_run_120 rfl (lv_at hl 5 rfl) ?_
                refine x_roVi (As := [.int r_157, .int x_150]) S hK hP hD hZ (fun _ h => h) hA hS hA hl mwX1_passTo lkX1_72 (ctX1_passTo_c l D k z (fun i => ([0, 0, 0, (o 3), (o 4), (o 6), 0, 0, 0, 0, 0, 0, 0, 0, 0, 0, 0, 0, 0, 0, 0, 0, 0, 0, 0, 0, (o 26), (o 27), (o 28), (o 29), (o 30), (o 31), (o 32), (o 33), (o 34), (o 35), 0, 0, 0, 0, 0, 0, 0, 0, 0, 0, 0, 0, 0, 0, 0, 0, 0, 0, 0, 0, 0, 0, 0, 0, 0, 0, 0, 0, 0, 0, 0, 0, 0, (o 69), (o 70), (o 71), (o 73)] : List Nat).getD i 0) tlawNow tharder ttold treply twet g_151 f69 f70 f71 glines ghours glaw godds grows gheads gsayings gslugs gacts f26 f30 f31 r_157 x_150 (by omega) (by omega) (by omega) (by omega) (by omega) (by omega)) [0, 1, 2, 3, 4, 5, 6, 7, 8, 9] rfl (by decide) rfl rfl rfl rfl rfl ⟨Nat.le_of_ble_eq_true rfl, Nat.le_of_ble_eq_true rfl, Nat.le_of_ble_eq_true rfl⟩ dX1_run_121 ⟨Nat.le_of_ble_eq_true rfl, Nat.le_of_ble_eq_true rfl⟩ (fun r_184 H locs hr_184 hP hS => ?_)
                refine lv_istore_n (lv' := [(1, .int r_184), (2, .int x_150), (6, .int 0), (5, .int r_157), (4, .int (nI j_149)), (3, .int x_152), (0, .ref (o 6))]) hx hb dX1_run_124 rfl hl (by decide) rfl (fun ls hl => ?_)
                refine lv_iload_n hx hb dX1_run_125 rfl (lv_at hl 0 rfl) ?_
                refine lv_iload_n hx hb dX1_run_126 rfl (lv_at hl 1 rfl) ?_
                refine lv_icmp_ne (tgt := 135) hx hb dX1_run_127 (by decide) (fun c_186 => ?_) (fun c_186 => ?_)
                · skip
                  refine lv_iconst (v := (-1)) hx hb dX1_run_135 (by decide) ?_
                  refine lv_istore_n (lv' := [(3, .int (-1)), (1, .int r_184), (2, .int x_150), (6, .int 0), (5, .int r_157), (4, .int (nI j_149)), (0, .ref (o 6))]) hx hb dX1_run_136 rfl hl (by decide) rfl (fun ls hl => ?_)
                  refine lv_aload_n hx hb dX1_run_137 rfl (lv_at hl 6 rfl) ?_
                  refine lv_iload hx hb dX1_run_138 (lv_at hl 5 rfl) ?_
                  refine lv_iconst (v := 1) hx hb dX1_run_140 (by decide) ?_
                  refine lv_iadd hx hb dX1_run_141 ?_
                  refine x_is (nI (j_149 + 1)) (ni_add rfl (by decide)) ?_
                  refine lv_iload_n hx hb dX1_run_142 rfl (lv_at hl 1 rfl) ?_
                  refine x_roVi (As := [.int (nI (j_149 + 1)), .int r_184]) S hK hP hD hZ (fun _ h => h) hA hS hA hl mwX1_arrive lkX1_75 (ctX1_arrive_c l D k z (fun i => ([0, 0, 0, (o 3), (o 4), (o 6), 0, 0, 0, 0, 0, 0, 0, 0, 0, 0, 0, 0, 0, 0, 0, 0, 0, 0, 0, 0, (o 26), (o 27), (o 28), (o 29), (o 30), (o 31), (o 32), (o 33), (o 34), (o 35), 0, 0, 0, 0, 0, 0, 0, 0, 0, 0, 0, 0, 0, 0, 0, 0, 0, 0, 0, 0, 0, 0, 0, 0, 0, 0, 0, 0, 0, 0, 0, 0, 0, (o 69), (o 70), (o 71), (o 73)] : List Nat).getD i 0) tlawNow tharder ttold treply twet g_151 f69 f70 f71 glines ghours glaw godds grows gheads gsayings gslugs gacts f26 f30 f31 (j_149 + 1) r_184 (by omega) (by omega) (by omega) (by omega) (by omega) (by omega) (by omega)) [0, 1, 2, 3, 4, 5, 6, 7, 8, 9] rfl (by decide) rfl rfl rfl rfl rfl ⟨Nat.le_of_ble_eq_true rfl, Nat.le_of_ble_eq_true rfl, Nat.le_of_ble_eq_true rfl⟩ dX1_run_143 ⟨Nat.le_of_ble_eq_true rfl, Nat.le_of_ble_eq_true rfl⟩ (fun r_187 H locs hr_187 hP hS => ?_)
                  refine lv_istore_n (lv' := [(1, .int r_187), (3, .int (-1)), (2, .int x_150), (6, .int 0), (5, .int r_157), (4, .int (nI j_149)), (0, .ref (o 6))]) hx hb dX1_run_146 rfl hl (by decide) rfl (fun ls hl => ?_)
                  refine lv_aload_n hx hb dX1_run_147 rfl (lv_at hl 6 rfl) ?_
                  refine x_get S hK hP 0 rfl cfX1 7 lkX1_9 (by decide) rfl dX1_run_148 ?_
                  refine lv_iload hx hb dX1_run_151 (lv_at hl 5 rfl) ?_
                  refine lv_iconst (v := 1) hx hb dX1_run_153 (by decide) ?_
                  refine lv_iadd hx hb dX1_run_154 ?_
                  refine x_is (nI (j_149 + 1)) (ni_add rfl (by decide)) ?_
                  refine lv_iload_n hx hb dX1_run_155 rfl (lv_at hl 0 rfl) ?_
                  refine x_iast (ws' := fun f_189 => [((o 6), .inr (1, [.ref (o 3), .ref (o 4), .int tlawNow, .int tharder, .int ttold, .int treply, .int twet, .ref (o 73)])), ((o 73), .inl (k 0, 17, .inl f_189)), ((o 4), .inr (3, [.ref (o 69), .ref (o 70), .ref (o 71)])), ((o 69), .inl (k 0, 17, .inl f69)), ((o 70), .inl (k 0, 17, .inl f70)), ((o 71), .inl (k 0, 17, .inl f71)), ((o 3), .inr (2, [.int glines, .int (nI ghours), .int glaw, .int godds, .int (nI grows), .int (nI gheads), .int (nI gsayings), .int (nI gslugs), .int (nI gacts), .ref (o 26), .ref (o 27), .ref (o 28), .ref (o 29), .ref (o 30), .ref (o 31), .ref (o 32), .ref (o 33), .ref (o 34), .ref (o 35)])), ((o 26), .inl (k 0, 12, .inl f26)), ((o 30), .inl (k 0, 12, .inl f30)), ((o 31), .inl (k 0, 12, .inl f31))]) S hK hP hD hS 1 rfl (vp_in_nI (by omega) (by decide)) (fun _ => rfl) dX1_run_156 (fun f_189 H locs ef_189 hP hD hS => ?_)
                  refine lv_iinc (v := (nI (j_149 + 1))) (lv' := [(4, .int (nI (j_149 + 1))), (1, .int r_187), (3, .int (-1)), (2, .int x_150), (6, .int 0), (5, .int r_157), (0, .ref (o 6))]) hx hb dX1_run_157 hl (k := 5) rfl (ni_inc _) (by decide) rfl (fun ls hl => ?_)
                  refine lv_goto (tgt := 53) hx hb dX1_run_160 (by decide) ?_
                  exact ihj_149 (j_149 + 1) r_187 f_189 (-1) x_150 _ _ _ (by omega) (by omega) hP hD hS (lv_sub hl [0, 2, 3, 1, 6] rfl)
                · skip
                  refine lv_iload hx hb dX1_run_130 (lv_at hl 3 rfl) ?_
                  refine lv_goto (tgt := 136) hx hb dX1_run_132 (by decide) ?_
                  refine lv_istore_n (lv' := [(3, .int r_157), (1, .int r_184), (2, .int x_150), (6, .int 0), (5, .int r_157), (4, .int (nI j_149)), (0, .ref (o 6))]) hx hb dX1_run_136 rfl hl (by decide) rfl (fun ls hl => ?_)
                  refine lv_aload_n hx hb dX1_run_137 rfl (lv_at hl 6 rfl) ?_
                  refine lv_iload hx hb dX1_run_138 (lv_at hl 5 rfl) ?_
                  refine lv_iconst (v := 1) hx hb dX1_run_140 (by decide) ?_
                  refine lv_iadd hx hb dX1_run_141 ?_
                  refine x_is (nI (j_149 + 1)) (ni_add rfl (by decide)) ?_
                  refine lv_iload_n hx hb dX1_run_142 rfl (lv_at hl 1 rfl) ?_
                  refine x_roVi (As := [.int (nI (j_149 + 1)), .int r_184]) S hK hP hD hZ (fun _ h => h) hA hS hA hl mwX1_arrive lkX1_75 (ctX1_arrive_c l D k z (fun i => ([0, 0, 0, (o 3), (o 4), (o 6), 0, 0, 0, 0, 0, 0, 0, 0, 0, 0, 0, 0, 0, 0, 0, 0, 0, 0, 0, 0, (o 26), (o 27), (o 28), (o 29), (o 30), (o 31), (o 32), (o 33), (o 34), (o 35), 0, 0, 0, 0, 0, 0, 0, 0, 0, 0, 0, 0, 0, 0, 0, 0, 0, 0, 0, 0, 0, 0, 0, 0, 0, 0, 0, 0, 0, 0, 0, 0, 0, (o 69), (o 70), (o 71), (o 73)] : List Nat).getD i 0) tlawNow tharder ttold treply twet g_151 f69 f70 f71 glines ghours glaw godds grows gheads gsayings gslugs gacts f26 f30 f31 (j_149 + 1) r_184 (by omega) (by omega) (by omega) (by omega) (by omega) (by omega) (by omega)) [0, 1, 2, 3, 4, 5, 6, 7, 8, 9] rfl (by decide) rfl rfl rfl rfl rfl ⟨Nat.le_of_ble_eq_true rfl, Nat.le_of_ble_eq_true rfl, Nat.le_of_ble_eq_true rfl⟩ dX1_run_143 ⟨Nat.le_of_ble_eq_true rfl, Nat.le_of_ble_eq_true rfl⟩ (fun r_190 H locs hr_190 hP hS => ?_)
                  refine lv_istore_n (lv' := [(1, .int r_190), (3, .int r_157), (2, .int x_150), (6, .int 0), (5, .int r_157), (4, .int (nI j_149)), (0, .ref (o 6))]) hx hb dX1_run_146 rfl hl (by decide) rfl (fun ls hl => ?_)
                  refine lv_aload_n hx hb dX1_run_147 rfl (lv_at hl 6 rfl) ?_
                  refine x_get S hK hP 0 rfl cfX1 7 lkX1_9 (by decide) rfl dX1_run_148 ?_
                  refine lv_iload hx hb dX1_run_151 (lv_at hl 5 rfl) ?_
                  refine lv_iconst (v := 1) hx hb dX1_run_153 (by decide) ?_
                  refine lv_iadd hx hb dX1_run_154 ?_
                  refine x_is (nI (j_149 + 1)) (ni_add rfl (by decide)) ?_
                  refine lv_iload_n hx hb dX1_run_155 rfl (lv_at hl 0 rfl) ?_
                  refine x_iast (ws' := fun f_192 => [((o 6), .inr (1, [.ref (o 3), .ref (o 4), .int tlawNow, .int tharder, .int ttold, .int treply, .int twet, .ref (o 73)])), ((o 73), .inl (k 0, 17, .inl f_192)), ((o 4), .inr (3, [.ref (o 69), .ref (o 70), .ref (o 71)])), ((o 69), .inl (k 0, 17, .inl f69)), ((o 70), .inl (k 0, 17, .inl f70)), ((o 71), .inl (k 0, 17, .inl f71)), ((o 3), .inr (2, [.int glines, .int (nI ghours), .int glaw, .int godds, .int (nI grows), .int (nI gheads), .int (nI gsayings), .int (nI gslugs), .int (nI gacts), .ref (o 26), .ref (o 27), .ref (o 28), .ref (o 29), .ref (o 30), .ref (o 31), .ref (o 32), .ref (o 33), .ref (o 34), .ref (o 35)])), ((o 26), .inl (k 0, 12, .inl f26)), ((o 30), .inl (k 0, 12, .inl f30)), ((o 31), .inl (k 0, 12, .inl f31))]) S hK hP hD hS 1 rfl (vp_in_nI (by omega) (by decide)) (fun _ => rfl) dX1_run_156 (fun f_192 H locs ef_192 hP hD hS => ?_)
                  refine lv_iinc (v := (nI (j_149 + 1))) (lv' := [(4, .int (nI (j_149 + 1))), (1, .int r_190), (3, .int r_157), (2, .int x_150), (6, .int 0), (5, .int r_157), (0, .ref (o 6))]) hx hb dX1_run_157 hl (k := 5) rfl (ni_inc _) (by decide) rfl (fun ls hl => ?_)
                  refine lv_goto (tgt := 53) hx hb dX1_run_160 (by decide) ?_
                  exact ihj_149 (j_149 + 1) r_190 f_192 r_157 x_150 _ _ _ (by omega) (by omega) hP hD hS (lv_sub hl [0, 2, 3, 1, 6] rfl)
            · skip
              refine lv_iconst (v := 1) hx hb dX1_run_91 (by decide) ?_
              refine lv_goto (tgt := 96) hx hb dX1_run_92 (by decide) ?_
              refine lv_istore (lv' := [(6, .int 1), (5, .int r_157), (4, .int (nI j_149)), (3, .int x_152), (2, .int x_153), (1, .int x_150), (0, .ref (o 6))]) hx hb dX1_run_96 hl (by decide) rfl (fun ls hl => ?_)
              refine lv_iload hx hb dX1_run_98 (lv_at hl 0 rfl) ?_
              refine lv_if_ne (tgt := 137) hx hb dX1_run_100 (by decide) (fun c_193 => ?_) (fun c_193 => absurd c_193 (by decide))
              refine lv_aload_n hx hb dX1_run_137 rfl (lv_at hl 6 rfl) ?_
              refine lv_iload hx hb dX1_run_138 (lv_at hl 2 rfl) ?_
              refine lv_iconst (v := 1) hx hb dX1_run_140 (by decide) ?_
              refine lv_iadd hx hb dX1_run_141 ?_
              refine x_is (nI (j_149 + 1)) (ni_add rfl (by decide)) ?_
              refine lv_iload_n hx hb dX1_run_142 rfl (lv_at hl 5 rfl) ?_
              refine x_roVi (As := [.int (nI (j_149 + 1)), .int x_150]) S hK hP hD hZ (fun _ h => h) hA hS hA hl mwX1_arrive lkX1_75 (ctX1_arrive_c l D k z (fun i => ([0, 0, 0, (o 3), (o 4), (o 6), 0, 0, 0, 0, 0, 0, 0, 0, 0, 0, 0, 0, 0, 0, 0, 0, 0, 0, 0, 0, (o 26), (o 27), (o 28), (o 29), (o 30), (o 31), (o 32), (o 33), (o 34), (o 35), 0, 0, 0, 0, 0, 0, 0, 0, 0, 0, 0, 0, 0, 0, 0, 0, 0, 0, 0, 0, 0, 0, 0, 0, 0, 0, 0, 0, 0, 0, 0, 0, 0, (o 69), (o 70), (o 71), (o 73)] : List Nat).getD i 0) tlawNow tharder ttold treply twet g_151 f69 f70 f71 glines ghours glaw godds grows gheads gsayings gslugs gacts f26 f30 f31 (j_149 + 1) x_150 (by omega) (by omega) (by omega) (by omega) (by omega) (by omega) (by omega)) [0, 1, 2, 3, 4, 5, 6, 7, 8, 9] rfl (by decide) rfl rfl rfl rfl rfl ⟨Nat.le_of_ble_eq_true rfl, Nat.le_of_ble_eq_true rfl, Nat.le_of_ble_eq_true rfl⟩ dX1_run_143 ⟨Nat.le_of_ble_eq_true rfl, Nat.le_of_ble_eq_true rfl⟩ (fun r_194 H locs hr_194 hP hS => ?_)
              refine lv_istore_n (lv' := [(1, .int r_194), (6, .int 1), (5, .int r_157), (4, .int (nI j_149)), (3, .int x_152), (2, .int x_153), (0, .ref (o 6))]) hx hb dX1_run_146 rfl hl (by decide) rfl (fun ls hl => ?_)
              refine lv_aload_n hx hb dX1_run_147 rfl (lv_at hl 6 rfl) ?_
              refine x_get S hK hP 0 rfl cfX1 7 lkX1_9 (by decide) rfl dX1_run_148 ?_
              refine lv_iload hx hb dX1_run_151 (lv_at hl 3 rfl) ?_
              refine lv_iconst (v := 1) hx hb dX1_run_153 (by decide) ?_
              refine lv_iadd hx hb dX1_run_154 ?_
              refine x_is (nI (j_149 + 1)) (ni_add rfl (by decide)) ?_
              refine lv_iload_n hx hb dX1_run_155 rfl (lv_at hl 0 rfl) ?_
              refine x_iast (ws' := fun f_196 => [((o 6), .inr (1, [.ref (o 3), .ref (o 4), .int tlawNow, .int tharder, .int ttold, .int treply, .int twet, .ref (o 73)])), ((o 73), .inl (k 0, 17, .inl f_196)), ((o 4), .inr (3, [.ref (o 69), .ref (o 70), .ref (o 71)])), ((o 69), .inl (k 0, 17, .inl f69)), ((o 70), .inl (k 0, 17, .inl f70)), ((o 71), .inl (k 0, 17, .inl f71)), ((o 3), .inr (2, [.int glines, .int (nI ghours), .int glaw, .int godds, .int (nI grows), .int (nI gheads), .int (nI gsayings), .int (nI gslugs), .int (nI gacts), .ref (o 26), .ref (o 27), .ref (o 28), .ref (o 29), .ref (o 30), .ref (o 31), .ref (o 32), .ref (o 33), .ref (o 34), .ref (o 35)])), ((o 26), .inl (k 0, 12, .inl f26)), ((o 30), .inl (k 0, 12, .inl f30)), ((o 31), .inl (k 0, 12, .inl f31))]) S hK hP hD hS 1 rfl (vp_in_nI (by omega) (by decide)) (fun _ => rfl) dX1_run_156 (fun f_196 H locs ef_196 hP hD hS => ?_)
              refine lv_iinc (v := (nI (j_149 + 1))) (lv' := [(4, .int (nI (j_149 + 1))), (1, .int r_194), (6, .int 1), (5, .int r_157), (3, .int x_152), (2, .int x_153), (0, .ref (o 6))]) hx hb dX1_run_157 hl (k := 3) rfl (ni_inc _) (by decide) rfl (fun ls hl => ?_)
              refine lv_goto (tgt := 53) hx hb dX1_run_160 (by decide) ?_
              exact ihj_149 (j_149 + 1) r_194 f_196 x_152 x_153 _ _ _ (by omega) (by omega) hP hD hS (lv_sub hl [0, 4, 5, 1, 6] rfl)
  exact lp_154 (ghours + 1) 0 v_10 f_11 (-1) v_10 _ _ _ (by omega) (by omega) hP hD hS (lv_sub hl [0, 1, 2, 3, 4] rfl)

