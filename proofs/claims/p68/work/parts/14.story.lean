theorem dX7_aliveAt_0 : decode cX7_aliveAt 0 = .ok (.aload_n 0, 1) := by decide +kernel
theorem dX7_aliveAt_1 : decode cX7_aliveAt 1 = .ok (.getfield 9, 3) := by decide +kernel
theorem dX7_aliveAt_4 : decode cX7_aliveAt 4 = .ok (.invokevirtual 23, 3) := by decide +kernel
theorem dX7_aliveAt_7 : decode cX7_aliveAt 7 = .ok (.aload_n 0, 1) := by decide +kernel
theorem dX7_aliveAt_8 : decode cX7_aliveAt 8 = .ok (.getfield 15, 3) := by decide +kernel
theorem dX7_aliveAt_11 : decode cX7_aliveAt 11 = .ok (.getfield 29, 3) := by decide +kernel
theorem dX7_aliveAt_14 : decode cX7_aliveAt 14 = .ok (.iload_n 1, 1) := by decide +kernel
theorem dX7_aliveAt_15 : decode cX7_aliveAt 15 = .ok (.iaload, 1) := by decide +kernel
theorem dX7_aliveAt_16 : decode cX7_aliveAt 16 = .ok (.iconst (-1), 1) := by decide +kernel
theorem dX7_aliveAt_17 : decode cX7_aliveAt 17 = .ok (.ixor, 1) := by decide +kernel
theorem dX7_aliveAt_18 : decode cX7_aliveAt 18 = .ok (.iand, 1) := by decide +kernel
theorem dX7_aliveAt_19 : decode cX7_aliveAt 19 = .ok (.ireturn, 1) := by decide +kernel
theorem dX7_living_0 : decode cX7_living 0 = .ok (.aload_n 0, 1) := by decide +kernel
theorem dX7_living_1 : decode cX7_living 1 = .ok (.iload_n 1, 1) := by decide +kernel
theorem dX7_living_2 : decode cX7_living 2 = .ok (.invokevirtual 35, 3) := by decide +kernel
theorem dX7_living_5 : decode cX7_living 5 = .ok (.invokestatic 39, 3) := by decide +kernel
theorem dX7_living_8 : decode cX7_living 8 = .ok (.ireturn, 1) := by decide +kernel
theorem dX7_holdersAt_0 : decode cX7_holdersAt 0 = .ok (.aload_n 0, 1) := by decide +kernel
theorem dX7_holdersAt_1 : decode cX7_holdersAt 1 = .ok (.getfield 19, 3) := by decide +kernel
theorem dX7_holdersAt_4 : decode cX7_holdersAt 4 = .ok (.getfield 44, 3) := by decide +kernel
theorem dX7_holdersAt_7 : decode cX7_holdersAt 7 = .ok (.iload_n 2, 1) := by decide +kernel
theorem dX7_holdersAt_8 : decode cX7_holdersAt 8 = .ok (.iaload, 1) := by decide +kernel
theorem dX7_holdersAt_9 : decode cX7_holdersAt 9 = .ok (.istore_n 3, 1) := by decide +kernel
theorem dX7_holdersAt_10 : decode cX7_holdersAt 10 = .ok (.iload_n 1, 1) := by decide +kernel
theorem dX7_holdersAt_11 : decode cX7_holdersAt 11 = .ok (.ifCond .ne 18, 3) := by decide +kernel
theorem dX7_holdersAt_14 : decode cX7_holdersAt 14 = .ok (.aload_n 0, 1) := by decide +kernel
theorem dX7_holdersAt_15 : decode cX7_holdersAt 15 = .ok (.iload_n 2, 1) := by decide +kernel
theorem dX7_holdersAt_16 : decode cX7_holdersAt 16 = .ok (.invokevirtual 35, 3) := by decide +kernel
theorem dX7_holdersAt_19 : decode cX7_holdersAt 19 = .ok (.iload_n 3, 1) := by decide +kernel
theorem dX7_holdersAt_20 : decode cX7_holdersAt 20 = .ok (.iload_n 3, 1) := by decide +kernel
theorem dX7_holdersAt_21 : decode cX7_holdersAt 21 = .ok (.bipush 16, 2) := by decide +kernel
theorem dX7_holdersAt_23 : decode cX7_holdersAt 23 = .ok (.iushr, 1) := by decide +kernel
theorem dX7_holdersAt_24 : decode cX7_holdersAt 24 = .ok (.ior, 1) := by decide +kernel
theorem dX7_holdersAt_25 : decode cX7_holdersAt 25 = .ok (.iconst (-1), 1) := by decide +kernel
theorem dX7_holdersAt_26 : decode cX7_holdersAt 26 = .ok (.ixor, 1) := by decide +kernel
theorem dX7_holdersAt_27 : decode cX7_holdersAt 27 = .ok (.iand, 1) := by decide +kernel
theorem dX7_holdersAt_28 : decode cX7_holdersAt 28 = .ok (.ireturn, 1) := by decide +kernel
theorem dX7_holdersAt_29 : decode cX7_holdersAt 29 = .ok (.iload_n 3, 1) := by decide +kernel
theorem dX7_holdersAt_30 : decode cX7_holdersAt 30 = .ok (.iload_n 1, 1) := by decide +kernel
theorem dX7_holdersAt_31 : decode cX7_holdersAt 31 = .ok (.invokestatic 49, 3) := by decide +kernel
theorem dX7_holdersAt_34 : decode cX7_holdersAt 34 = .ok (.ireturn, 1) := by decide +kernel
theorem dX7_turnedAt_0 : decode cX7_turnedAt 0 = .ok (.iload_n 1, 1) := by decide +kernel
theorem dX7_turnedAt_1 : decode cX7_turnedAt 1 = .ok (.ifCond .ne 7, 3) := by decide +kernel
theorem dX7_turnedAt_4 : decode cX7_turnedAt 4 = .ok (.iconst 0, 1) := by decide +kernel
theorem dX7_turnedAt_5 : decode cX7_turnedAt 5 = .ok (.goto 14, 3) := by decide +kernel
theorem dX7_turnedAt_8 : decode cX7_turnedAt 8 = .ok (.aload_n 0, 1) := by decide +kernel
theorem dX7_turnedAt_9 : decode cX7_turnedAt 9 = .ok (.getfield 19, 3) := by decide +kernel
theorem dX7_turnedAt_12 : decode cX7_turnedAt 12 = .ok (.getfield 44, 3) := by decide +kernel
theorem dX7_turnedAt_15 : decode cX7_turnedAt 15 = .ok (.iload_n 1, 1) := by decide +kernel
theorem dX7_turnedAt_16 : decode cX7_turnedAt 16 = .ok (.iconst 1, 1) := by decide +kernel
theorem dX7_turnedAt_17 : decode cX7_turnedAt 17 = .ok (.isub, 1) := by decide +kernel
theorem dX7_turnedAt_18 : decode cX7_turnedAt 18 = .ok (.iaload, 1) := by decide +kernel
theorem dX7_turnedAt_19 : decode cX7_turnedAt 19 = .ok (.istore_n 2, 1) := by decide +kernel
theorem dX7_turnedAt_20 : decode cX7_turnedAt 20 = .ok (.aload_n 0, 1) := by decide +kernel
theorem dX7_turnedAt_21 : decode cX7_turnedAt 21 = .ok (.getfield 19, 3) := by decide +kernel
theorem dX7_turnedAt_24 : decode cX7_turnedAt 24 = .ok (.getfield 44, 3) := by decide +kernel
theorem dX7_turnedAt_27 : decode cX7_turnedAt 27 = .ok (.iload_n 1, 1) := by decide +kernel
theorem dX7_turnedAt_28 : decode cX7_turnedAt 28 = .ok (.iaload, 1) := by decide +kernel
theorem dX7_turnedAt_29 : decode cX7_turnedAt 29 = .ok (.iload_n 2, 1) := by decide +kernel
theorem dX7_turnedAt_30 : decode cX7_turnedAt 30 = .ok (.ixor, 1) := by decide +kernel
theorem dX7_turnedAt_31 : decode cX7_turnedAt 31 = .ok (.istore_n 3, 1) := by decide +kernel
theorem dX7_turnedAt_32 : decode cX7_turnedAt 32 = .ok (.iload_n 3, 1) := by decide +kernel
theorem dX7_turnedAt_33 : decode cX7_turnedAt 33 = .ok (.iload_n 3, 1) := by decide +kernel
theorem dX7_turnedAt_34 : decode cX7_turnedAt 34 = .ok (.bipush 16, 2) := by decide +kernel
theorem dX7_turnedAt_36 : decode cX7_turnedAt 36 = .ok (.iushr, 1) := by decide +kernel
theorem dX7_turnedAt_37 : decode cX7_turnedAt 37 = .ok (.ior, 1) := by decide +kernel
theorem dX7_turnedAt_38 : decode cX7_turnedAt 38 = .ok (.ldc 53, 2) := by decide +kernel
theorem dX7_turnedAt_40 : decode cX7_turnedAt 40 = .ok (.iand, 1) := by decide +kernel
theorem dX7_turnedAt_41 : decode cX7_turnedAt 41 = .ok (.ireturn, 1) := by decide +kernel
theorem dX7_changesOf_0 : decode cX7_changesOf 0 = .ok (.iconst 0, 1) := by decide +kernel
theorem dX7_changesOf_1 : decode cX7_changesOf 1 = .ok (.istore_n 2, 1) := by decide +kernel
theorem dX7_changesOf_2 : decode cX7_changesOf 2 = .ok (.iconst 1, 1) := by decide +kernel
theorem dX7_changesOf_3 : decode cX7_changesOf 3 = .ok (.istore_n 3, 1) := by decide +kernel
theorem dX7_changesOf_4 : decode cX7_changesOf 4 = .ok (.iload_n 3, 1) := by decide +kernel
theorem dX7_changesOf_5 : decode cX7_changesOf 5 = .ok (.aload_n 0, 1) := by decide +kernel
theorem dX7_changesOf_6 : decode cX7_changesOf 6 = .ok (.getfield 9, 3) := by decide +kernel
theorem dX7_changesOf_9 : decode cX7_changesOf 9 = .ok (.getfield 54, 3) := by decide +kernel
theorem dX7_changesOf_12 : decode cX7_changesOf 12 = .ok (.if_icmp .gt 21, 3) := by decide +kernel
theorem dX7_changesOf_15 : decode cX7_changesOf 15 = .ok (.iload_n 2, 1) := by decide +kernel
theorem dX7_changesOf_16 : decode cX7_changesOf 16 = .ok (.aload_n 0, 1) := by decide +kernel
theorem dX7_changesOf_17 : decode cX7_changesOf 17 = .ok (.iload_n 3, 1) := by decide +kernel
theorem dX7_changesOf_18 : decode cX7_changesOf 18 = .ok (.invokevirtual 58, 3) := by decide +kernel
theorem dX7_changesOf_21 : decode cX7_changesOf 21 = .ok (.iload_n 1, 1) := by decide +kernel
theorem dX7_changesOf_22 : decode cX7_changesOf 22 = .ok (.iushr, 1) := by decide +kernel
theorem dX7_changesOf_23 : decode cX7_changesOf 23 = .ok (.iconst 1, 1) := by decide +kernel
theorem dX7_changesOf_24 : decode cX7_changesOf 24 = .ok (.iand, 1) := by decide +kernel
theorem dX7_changesOf_25 : decode cX7_changesOf 25 = .ok (.iadd, 1) := by decide +kernel
theorem dX7_changesOf_26 : decode cX7_changesOf 26 = .ok (.istore_n 2, 1) := by decide +kernel
theorem dX7_changesOf_27 : decode cX7_changesOf 27 = .ok (.iinc 3 1, 3) := by decide +kernel
theorem dX7_changesOf_30 : decode cX7_changesOf 30 = .ok (.goto (-26), 3) := by decide +kernel
theorem dX7_changesOf_33 : decode cX7_changesOf 33 = .ok (.iload_n 2, 1) := by decide +kernel
theorem dX7_changesOf_34 : decode cX7_changesOf 34 = .ok (.ireturn, 1) := by decide +kernel
theorem dX7_firstHour_0 : decode cX7_firstHour 0 = .ok (.iconst 0, 1) := by decide +kernel
theorem dX7_firstHour_1 : decode cX7_firstHour 1 = .ok (.istore_n 3, 1) := by decide +kernel
theorem dX7_firstHour_2 : decode cX7_firstHour 2 = .ok (.iload_n 3, 1) := by decide +kernel
theorem dX7_firstHour_3 : decode cX7_firstHour 3 = .ok (.aload_n 0, 1) := by decide +kernel
theorem dX7_firstHour_4 : decode cX7_firstHour 4 = .ok (.getfield 9, 3) := by decide +kernel
theorem dX7_firstHour_7 : decode cX7_firstHour 7 = .ok (.getfield 54, 3) := by decide +kernel
theorem dX7_firstHour_10 : decode cX7_firstHour 10 = .ok (.if_icmp .gt 22, 3) := by decide +kernel
theorem dX7_firstHour_13 : decode cX7_firstHour 13 = .ok (.aload_n 0, 1) := by decide +kernel
theorem dX7_firstHour_14 : decode cX7_firstHour 14 = .ok (.iload_n 2, 1) := by decide +kernel
theorem dX7_firstHour_15 : decode cX7_firstHour 15 = .ok (.iload_n 3, 1) := by decide +kernel
theorem dX7_firstHour_16 : decode cX7_firstHour 16 = .ok (.invokevirtual 61, 3) := by decide +kernel
theorem dX7_firstHour_19 : decode cX7_firstHour 19 = .ok (.iload_n 1, 1) := by decide +kernel
theorem dX7_firstHour_20 : decode cX7_firstHour 20 = .ok (.iand, 1) := by decide +kernel
theorem dX7_firstHour_21 : decode cX7_firstHour 21 = .ok (.ifCond .eq 5, 3) := by decide +kernel
theorem dX7_firstHour_24 : decode cX7_firstHour 24 = .ok (.iload_n 3, 1) := by decide +kernel
theorem dX7_firstHour_25 : decode cX7_firstHour 25 = .ok (.ireturn, 1) := by decide +kernel
theorem dX7_firstHour_26 : decode cX7_firstHour 26 = .ok (.iinc 3 1, 3) := by decide +kernel
theorem dX7_firstHour_29 : decode cX7_firstHour 29 = .ok (.goto (-27), 3) := by decide +kernel
theorem dX7_firstHour_32 : decode cX7_firstHour 32 = .ok (.iconst (-1), 1) := by decide +kernel
theorem dX7_firstHour_33 : decode cX7_firstHour 33 = .ok (.ireturn, 1) := by decide +kernel
theorem dX7_hoursOf_0 : decode cX7_hoursOf 0 = .ok (.iconst 0, 1) := by decide +kernel
theorem dX7_hoursOf_1 : decode cX7_hoursOf 1 = .ok (.istore_n 3, 1) := by decide +kernel
theorem dX7_hoursOf_2 : decode cX7_hoursOf 2 = .ok (.iconst 0, 1) := by decide +kernel
theorem dX7_hoursOf_3 : decode cX7_hoursOf 3 = .ok (.istore 4, 2) := by decide +kernel
theorem dX7_hoursOf_5 : decode cX7_hoursOf 5 = .ok (.iload 4, 2) := by decide +kernel
theorem dX7_hoursOf_7 : decode cX7_hoursOf 7 = .ok (.aload_n 0, 1) := by decide +kernel
theorem dX7_hoursOf_8 : decode cX7_hoursOf 8 = .ok (.getfield 9, 3) := by decide +kernel
theorem dX7_hoursOf_11 : decode cX7_hoursOf 11 = .ok (.getfield 54, 3) := by decide +kernel
theorem dX7_hoursOf_14 : decode cX7_hoursOf 14 = .ok (.if_icmp .gt 23, 3) := by decide +kernel
theorem dX7_hoursOf_17 : decode cX7_hoursOf 17 = .ok (.iload_n 3, 1) := by decide +kernel
theorem dX7_hoursOf_18 : decode cX7_hoursOf 18 = .ok (.aload_n 0, 1) := by decide +kernel
theorem dX7_hoursOf_19 : decode cX7_hoursOf 19 = .ok (.iload_n 2, 1) := by decide +kernel
theorem dX7_hoursOf_20 : decode cX7_hoursOf 20 = .ok (.iload 4, 2) := by decide +kernel
theorem dX7_hoursOf_22 : decode cX7_hoursOf 22 = .ok (.invokevirtual 61, 3) := by decide +kernel
theorem dX7_hoursOf_25 : decode cX7_hoursOf 25 = .ok (.iload_n 1, 1) := by decide +kernel
theorem dX7_hoursOf_26 : decode cX7_hoursOf 26 = .ok (.iushr, 1) := by decide +kernel
theorem dX7_hoursOf_27 : decode cX7_hoursOf 27 = .ok (.iconst 1, 1) := by decide +kernel
theorem dX7_hoursOf_28 : decode cX7_hoursOf 28 = .ok (.iand, 1) := by decide +kernel
theorem dX7_hoursOf_29 : decode cX7_hoursOf 29 = .ok (.iadd, 1) := by decide +kernel
theorem dX7_hoursOf_30 : decode cX7_hoursOf 30 = .ok (.istore_n 3, 1) := by decide +kernel
theorem dX7_hoursOf_31 : decode cX7_hoursOf 31 = .ok (.iinc 4 1, 3) := by decide +kernel
theorem dX7_hoursOf_34 : decode cX7_hoursOf 34 = .ok (.goto (-29), 3) := by decide +kernel
theorem dX7_hoursOf_37 : decode cX7_hoursOf 37 = .ok (.iload_n 3, 1) := by decide +kernel
theorem dX7_hoursOf_38 : decode cX7_hoursOf 38 = .ok (.ireturn, 1) := by decide +kernel
theorem dX7_firstView_0 : decode cX7_firstView 0 = .ok (.iconst 0, 1) := by decide +kernel
theorem dX7_firstView_1 : decode cX7_firstView 1 = .ok (.istore_n 2, 1) := by decide +kernel
theorem dX7_firstView_2 : decode cX7_firstView 2 = .ok (.iload_n 2, 1) := by decide +kernel
theorem dX7_firstView_3 : decode cX7_firstView 3 = .ok (.aload_n 0, 1) := by decide +kernel
theorem dX7_firstView_4 : decode cX7_firstView 4 = .ok (.getfield 9, 3) := by decide +kernel
theorem dX7_firstView_7 : decode cX7_firstView 7 = .ok (.getfield 54, 3) := by decide +kernel
theorem dX7_firstView_10 : decode cX7_firstView 10 = .ok (.if_icmp .gt 31, 3) := by decide +kernel
theorem dX7_firstView_13 : decode cX7_firstView 13 = .ok (.aload_n 0, 1) := by decide +kernel
theorem dX7_firstView_14 : decode cX7_firstView 14 = .ok (.getfield 19, 3) := by decide +kernel
theorem dX7_firstView_17 : decode cX7_firstView 17 = .ok (.iload_n 1, 1) := by decide +kernel
theorem dX7_firstView_18 : decode cX7_firstView 18 = .ok (.iload_n 2, 1) := by decide +kernel
theorem dX7_firstView_19 : decode cX7_firstView 19 = .ok (.invokevirtual 64, 3) := by decide +kernel
theorem dX7_firstView_22 : decode cX7_firstView 22 = .ok (.ifCond .eq 13, 3) := by decide +kernel
theorem dX7_firstView_25 : decode cX7_firstView 25 = .ok (.aload_n 0, 1) := by decide +kernel
theorem dX7_firstView_26 : decode cX7_firstView 26 = .ok (.getfield 19, 3) := by decide +kernel
theorem dX7_firstView_29 : decode cX7_firstView 29 = .ok (.iload_n 1, 1) := by decide +kernel
theorem dX7_firstView_30 : decode cX7_firstView 30 = .ok (.iload_n 2, 1) := by decide +kernel
theorem dX7_firstView_31 : decode cX7_firstView 31 = .ok (.invokevirtual 64, 3) := by decide +kernel
theorem dX7_firstView_34 : decode cX7_firstView 34 = .ok (.ireturn, 1) := by decide +kernel
theorem dX7_firstView_35 : decode cX7_firstView 35 = .ok (.iinc 2 1, 3) := by decide +kernel
theorem dX7_firstView_38 : decode cX7_firstView 38 = .ok (.goto (-36), 3) := by decide +kernel
theorem dX7_firstView_41 : decode cX7_firstView 41 = .ok (.iconst 0, 1) := by decide +kernel
theorem dX7_firstView_42 : decode cX7_firstView 42 = .ok (.ireturn, 1) := by decide +kernel
theorem dX7_mostFickle_0 : decode cX7_mostFickle 0 = .ok (.iconst (-1), 1) := by decide +kernel
theorem dX7_mostFickle_1 : decode cX7_mostFickle 1 = .ok (.istore_n 1, 1) := by decide +kernel
theorem dX7_mostFickle_2 : decode cX7_mostFickle 2 = .ok (.iconst 0, 1) := by decide +kernel
theorem dX7_mostFickle_3 : decode cX7_mostFickle 3 = .ok (.istore_n 2, 1) := by decide +kernel
theorem dX7_mostFickle_4 : decode cX7_mostFickle 4 = .ok (.iconst 0, 1) := by decide +kernel
theorem dX7_mostFickle_5 : decode cX7_mostFickle 5 = .ok (.istore_n 3, 1) := by decide +kernel
theorem dX7_mostFickle_6 : decode cX7_mostFickle 6 = .ok (.iload_n 3, 1) := by decide +kernel
theorem dX7_mostFickle_7 : decode cX7_mostFickle 7 = .ok (.aload_n 0, 1) := by decide +kernel
theorem dX7_mostFickle_8 : decode cX7_mostFickle 8 = .ok (.getfield 9, 3) := by decide +kernel
theorem dX7_mostFickle_11 : decode cX7_mostFickle 11 = .ok (.getfield 67, 3) := by decide +kernel
theorem dX7_mostFickle_14 : decode cX7_mostFickle 14 = .ok (.if_icmp .ge 27, 3) := by decide +kernel
theorem dX7_mostFickle_17 : decode cX7_mostFickle 17 = .ok (.aload_n 0, 1) := by decide +kernel
theorem dX7_mostFickle_18 : decode cX7_mostFickle 18 = .ok (.iload_n 3, 1) := by decide +kernel
theorem dX7_mostFickle_19 : decode cX7_mostFickle 19 = .ok (.invokevirtual 70, 3) := by decide +kernel
theorem dX7_mostFickle_22 : decode cX7_mostFickle 22 = .ok (.istore 4, 2) := by decide +kernel
theorem dX7_mostFickle_24 : decode cX7_mostFickle 24 = .ok (.iload 4, 2) := by decide +kernel
theorem dX7_mostFickle_26 : decode cX7_mostFickle 26 = .ok (.iload_n 2, 1) := by decide +kernel
theorem dX7_mostFickle_27 : decode cX7_mostFickle 27 = .ok (.if_icmp .le 8, 3) := by decide +kernel
theorem dX7_mostFickle_30 : decode cX7_mostFickle 30 = .ok (.iload 4, 2) := by decide +kernel
theorem dX7_mostFickle_32 : decode cX7_mostFickle 32 = .ok (.istore_n 2, 1) := by decide +kernel
theorem dX7_mostFickle_33 : decode cX7_mostFickle 33 = .ok (.iload_n 3, 1) := by decide +kernel
theorem dX7_mostFickle_34 : decode cX7_mostFickle 34 = .ok (.istore_n 1, 1) := by decide +kernel
theorem dX7_mostFickle_35 : decode cX7_mostFickle 35 = .ok (.iinc 3 1, 3) := by decide +kernel
theorem dX7_mostFickle_38 : decode cX7_mostFickle 38 = .ok (.goto (-32), 3) := by decide +kernel
theorem dX7_mostFickle_41 : decode cX7_mostFickle 41 = .ok (.iload_n 1, 1) := by decide +kernel
theorem dX7_mostFickle_42 : decode cX7_mostFickle 42 = .ok (.ireturn, 1) := by decide +kernel
theorem dX7_isOfOneMind_0 : decode cX7_isOfOneMind 0 = .ok (.iload_n 1, 1) := by decide +kernel
theorem dX7_isOfOneMind_1 : decode cX7_isOfOneMind 1 = .ok (.aload_n 0, 1) := by decide +kernel
theorem dX7_isOfOneMind_2 : decode cX7_isOfOneMind 2 = .ok (.iload_n 2, 1) := by decide +kernel
theorem dX7_isOfOneMind_3 : decode cX7_isOfOneMind 3 = .ok (.invokevirtual 35, 3) := by decide +kernel
theorem dX7_isOfOneMind_6 : decode cX7_isOfOneMind 6 = .ok (.iand, 1) := by decide +kernel
theorem dX7_isOfOneMind_7 : decode cX7_isOfOneMind 7 = .ok (.istore_n 3, 1) := by decide +kernel
theorem dX7_isOfOneMind_8 : decode cX7_isOfOneMind 8 = .ok (.aload_n 0, 1) := by decide +kernel
theorem dX7_isOfOneMind_9 : decode cX7_isOfOneMind 9 = .ok (.getfield 19, 3) := by decide +kernel
theorem dX7_isOfOneMind_12 : decode cX7_isOfOneMind 12 = .ok (.getfield 44, 3) := by decide +kernel
theorem dX7_isOfOneMind_15 : decode cX7_isOfOneMind 15 = .ok (.iload_n 2, 1) := by decide +kernel
theorem dX7_isOfOneMind_16 : decode cX7_isOfOneMind 16 = .ok (.iaload, 1) := by decide +kernel
theorem dX7_isOfOneMind_17 : decode cX7_isOfOneMind 17 = .ok (.istore 4, 2) := by decide +kernel
theorem dX7_isOfOneMind_19 : decode cX7_isOfOneMind 19 = .ok (.iload_n 3, 1) := by decide +kernel
theorem dX7_isOfOneMind_20 : decode cX7_isOfOneMind 20 = .ok (.iload 4, 2) := by decide +kernel
theorem dX7_isOfOneMind_22 : decode cX7_isOfOneMind 22 = .ok (.iconst 1, 1) := by decide +kernel
theorem dX7_isOfOneMind_23 : decode cX7_isOfOneMind 23 = .ok (.invokestatic 49, 3) := by decide +kernel
theorem dX7_isOfOneMind_26 : decode cX7_isOfOneMind 26 = .ok (.iconst (-1), 1) := by decide +kernel
theorem dX7_isOfOneMind_27 : decode cX7_isOfOneMind 27 = .ok (.ixor, 1) := by decide +kernel
theorem dX7_isOfOneMind_28 : decode cX7_isOfOneMind 28 = .ok (.iand, 1) := by decide +kernel
theorem dX7_isOfOneMind_29 : decode cX7_isOfOneMind 29 = .ok (.ifCond .ne 7, 3) := by decide +kernel
theorem dX7_isOfOneMind_32 : decode cX7_isOfOneMind 32 = .ok (.iconst 1, 1) := by decide +kernel
theorem dX7_isOfOneMind_33 : decode cX7_isOfOneMind 33 = .ok (.goto 4, 3) := by decide +kernel
theorem dX7_isOfOneMind_36 : decode cX7_isOfOneMind 36 = .ok (.iconst 0, 1) := by decide +kernel
theorem dX7_isOfOneMind_37 : decode cX7_isOfOneMind 37 = .ok (.istore 5, 2) := by decide +kernel
theorem dX7_isOfOneMind_39 : decode cX7_isOfOneMind 39 = .ok (.iload_n 3, 1) := by decide +kernel
theorem dX7_isOfOneMind_40 : decode cX7_isOfOneMind 40 = .ok (.iload 4, 2) := by decide +kernel
theorem dX7_isOfOneMind_42 : decode cX7_isOfOneMind 42 = .ok (.iconst 2, 1) := by decide +kernel
theorem dX7_isOfOneMind_43 : decode cX7_isOfOneMind 43 = .ok (.invokestatic 49, 3) := by decide +kernel
theorem dX7_isOfOneMind_46 : decode cX7_isOfOneMind 46 = .ok (.iconst (-1), 1) := by decide +kernel
theorem dX7_isOfOneMind_47 : decode cX7_isOfOneMind 47 = .ok (.ixor, 1) := by decide +kernel
theorem dX7_isOfOneMind_48 : decode cX7_isOfOneMind 48 = .ok (.iand, 1) := by decide +kernel
theorem dX7_isOfOneMind_49 : decode cX7_isOfOneMind 49 = .ok (.ifCond .ne 7, 3) := by decide +kernel
theorem dX7_isOfOneMind_52 : decode cX7_isOfOneMind 52 = .ok (.iconst 1, 1) := by decide +kernel
theorem dX7_isOfOneMind_53 : decode cX7_isOfOneMind 53 = .ok (.goto 4, 3) := by decide +kernel
theorem dX7_isOfOneMind_56 : decode cX7_isOfOneMind 56 = .ok (.iconst 0, 1) := by decide +kernel
theorem dX7_isOfOneMind_57 : decode cX7_isOfOneMind 57 = .ok (.istore 6, 2) := by decide +kernel
theorem dX7_isOfOneMind_59 : decode cX7_isOfOneMind 59 = .ok (.iload_n 3, 1) := by decide +kernel
theorem dX7_isOfOneMind_60 : decode cX7_isOfOneMind 60 = .ok (.ifCond .eq 17, 3) := by decide +kernel
theorem dX7_isOfOneMind_63 : decode cX7_isOfOneMind 63 = .ok (.iload 5, 2) := by decide +kernel
theorem dX7_isOfOneMind_65 : decode cX7_isOfOneMind 65 = .ok (.ifCond .ne 8, 3) := by decide +kernel
theorem dX7_isOfOneMind_68 : decode cX7_isOfOneMind 68 = .ok (.iload 6, 2) := by decide +kernel
theorem dX7_isOfOneMind_70 : decode cX7_isOfOneMind 70 = .ok (.ifCond .eq 7, 3) := by decide +kernel
theorem dX7_isOfOneMind_73 : decode cX7_isOfOneMind 73 = .ok (.iconst 1, 1) := by decide +kernel
theorem dX7_isOfOneMind_74 : decode cX7_isOfOneMind 74 = .ok (.goto 4, 3) := by decide +kernel
theorem dX7_isOfOneMind_77 : decode cX7_isOfOneMind 77 = .ok (.iconst 0, 1) := by decide +kernel
theorem dX7_isOfOneMind_78 : decode cX7_isOfOneMind 78 = .ok (.ireturn, 1) := by decide +kernel
theorem dX7_firstAccord_0 : decode cX7_firstAccord 0 = .ok (.iconst 0, 1) := by decide +kernel
theorem dX7_firstAccord_1 : decode cX7_firstAccord 1 = .ok (.istore_n 1, 1) := by decide +kernel
theorem dX7_firstAccord_2 : decode cX7_firstAccord 2 = .ok (.iload_n 1, 1) := by decide +kernel
theorem dX7_firstAccord_3 : decode cX7_firstAccord 3 = .ok (.aload_n 0, 1) := by decide +kernel
theorem dX7_firstAccord_4 : decode cX7_firstAccord 4 = .ok (.getfield 9, 3) := by decide +kernel
theorem dX7_firstAccord_7 : decode cX7_firstAccord 7 = .ok (.getfield 54, 3) := by decide +kernel
theorem dX7_firstAccord_10 : decode cX7_firstAccord 10 = .ok (.if_icmp .gt 26, 3) := by decide +kernel
theorem dX7_firstAccord_13 : decode cX7_firstAccord 13 = .ok (.aload_n 0, 1) := by decide +kernel
theorem dX7_firstAccord_14 : decode cX7_firstAccord 14 = .ok (.aload_n 0, 1) := by decide +kernel
theorem dX7_firstAccord_15 : decode cX7_firstAccord 15 = .ok (.getfield 9, 3) := by decide +kernel
theorem dX7_firstAccord_18 : decode cX7_firstAccord 18 = .ok (.invokevirtual 23, 3) := by decide +kernel
theorem dX7_firstAccord_21 : decode cX7_firstAccord 21 = .ok (.iload_n 1, 1) := by decide +kernel
theorem dX7_firstAccord_22 : decode cX7_firstAccord 22 = .ok (.invokevirtual 73, 3) := by decide +kernel
theorem dX7_firstAccord_25 : decode cX7_firstAccord 25 = .ok (.ifCond .eq 5, 3) := by decide +kernel
theorem dX7_firstAccord_28 : decode cX7_firstAccord 28 = .ok (.iload_n 1, 1) := by decide +kernel
theorem dX7_firstAccord_29 : decode cX7_firstAccord 29 = .ok (.ireturn, 1) := by decide +kernel
theorem dX7_firstAccord_30 : decode cX7_firstAccord 30 = .ok (.iinc 1 1, 3) := by decide +kernel
theorem dX7_firstAccord_33 : decode cX7_firstAccord 33 = .ok (.goto (-31), 3) := by decide +kernel
theorem dX7_firstAccord_36 : decode cX7_firstAccord 36 = .ok (.iconst (-1), 1) := by decide +kernel
theorem dX7_firstAccord_37 : decode cX7_firstAccord 37 = .ok (.ireturn, 1) := by decide +kernel
theorem dX7_stillFrom_0 : decode cX7_stillFrom 0 = .ok (.aload_n 0, 1) := by decide +kernel
theorem dX7_stillFrom_1 : decode cX7_stillFrom 1 = .ok (.getfield 9, 3) := by decide +kernel
theorem dX7_stillFrom_4 : decode cX7_stillFrom 4 = .ok (.getfield 54, 3) := by decide +kernel
theorem dX7_stillFrom_7 : decode cX7_stillFrom 7 = .ok (.istore_n 1, 1) := by decide +kernel
theorem dX7_stillFrom_8 : decode cX7_stillFrom 8 = .ok (.iload_n 1, 1) := by decide +kernel
theorem dX7_stillFrom_9 : decode cX7_stillFrom 9 = .ok (.ifCond .le 17, 3) := by decide +kernel
theorem dX7_stillFrom_12 : decode cX7_stillFrom 12 = .ok (.aload_n 0, 1) := by decide +kernel
theorem dX7_stillFrom_13 : decode cX7_stillFrom 13 = .ok (.iload_n 1, 1) := by decide +kernel
theorem dX7_stillFrom_14 : decode cX7_stillFrom 14 = .ok (.invokevirtual 58, 3) := by decide +kernel
theorem dX7_stillFrom_17 : decode cX7_stillFrom 17 = .ok (.ifCond .ne 9, 3) := by decide +kernel
theorem dX7_stillFrom_20 : decode cX7_stillFrom 20 = .ok (.iinc 1 (-1), 3) := by decide +kernel
theorem dX7_stillFrom_23 : decode cX7_stillFrom 23 = .ok (.goto (-15), 3) := by decide +kernel
theorem dX7_stillFrom_26 : decode cX7_stillFrom 26 = .ok (.iload_n 1, 1) := by decide +kernel
theorem dX7_stillFrom_27 : decode cX7_stillFrom 27 = .ok (.ireturn, 1) := by decide +kernel
theorem dX7_longestQuiet_0 : decode cX7_longestQuiet 0 = .ok (.iconst 0, 1) := by decide +kernel
theorem dX7_longestQuiet_1 : decode cX7_longestQuiet 1 = .ok (.istore_n 1, 1) := by decide +kernel
theorem dX7_longestQuiet_2 : decode cX7_longestQuiet 2 = .ok (.iconst 0, 1) := by decide +kernel
theorem dX7_longestQuiet_3 : decode cX7_longestQuiet 3 = .ok (.istore_n 2, 1) := by decide +kernel
theorem dX7_longestQuiet_4 : decode cX7_longestQuiet 4 = .ok (.iconst 1, 1) := by decide +kernel
theorem dX7_longestQuiet_5 : decode cX7_longestQuiet 5 = .ok (.istore_n 3, 1) := by decide +kernel
theorem dX7_longestQuiet_6 : decode cX7_longestQuiet 6 = .ok (.iload_n 3, 1) := by decide +kernel
theorem dX7_longestQuiet_7 : decode cX7_longestQuiet 7 = .ok (.aload_n 0, 1) := by decide +kernel
theorem dX7_longestQuiet_8 : decode cX7_longestQuiet 8 = .ok (.getfield 9, 3) := by decide +kernel
theorem dX7_longestQuiet_11 : decode cX7_longestQuiet 11 = .ok (.getfield 54, 3) := by decide +kernel
theorem dX7_longestQuiet_14 : decode cX7_longestQuiet 14 = .ok (.if_icmp .gt 31, 3) := by decide +kernel
theorem dX7_longestQuiet_17 : decode cX7_longestQuiet 17 = .ok (.aload_n 0, 1) := by decide +kernel
theorem dX7_longestQuiet_18 : decode cX7_longestQuiet 18 = .ok (.iload_n 3, 1) := by decide +kernel
theorem dX7_longestQuiet_19 : decode cX7_longestQuiet 19 = .ok (.invokevirtual 58, 3) := by decide +kernel
theorem dX7_longestQuiet_22 : decode cX7_longestQuiet 22 = .ok (.ifCond .ne 9, 3) := by decide +kernel
theorem dX7_longestQuiet_25 : decode cX7_longestQuiet 25 = .ok (.iload_n 2, 1) := by decide +kernel
theorem dX7_longestQuiet_26 : decode cX7_longestQuiet 26 = .ok (.iconst 1, 1) := by decide +kernel
theorem dX7_longestQuiet_27 : decode cX7_longestQuiet 27 = .ok (.iadd, 1) := by decide +kernel
theorem dX7_longestQuiet_28 : decode cX7_longestQuiet 28 = .ok (.goto 4, 3) := by decide +kernel
theorem dX7_longestQuiet_31 : decode cX7_longestQuiet 31 = .ok (.iconst 0, 1) := by decide +kernel
theorem dX7_longestQuiet_32 : decode cX7_longestQuiet 32 = .ok (.istore_n 2, 1) := by decide +kernel
theorem dX7_longestQuiet_33 : decode cX7_longestQuiet 33 = .ok (.iload_n 1, 1) := by decide +kernel
theorem dX7_longestQuiet_34 : decode cX7_longestQuiet 34 = .ok (.iload_n 2, 1) := by decide +kernel
theorem dX7_longestQuiet_35 : decode cX7_longestQuiet 35 = .ok (.invokestatic 77, 3) := by decide +kernel
theorem dX7_longestQuiet_38 : decode cX7_longestQuiet 38 = .ok (.istore_n 1, 1) := by decide +kernel
theorem dX7_longestQuiet_39 : decode cX7_longestQuiet 39 = .ok (.iinc 3 1, 3) := by decide +kernel
theorem dX7_longestQuiet_42 : decode cX7_longestQuiet 42 = .ok (.goto (-36), 3) := by decide +kernel
theorem dX7_longestQuiet_45 : decode cX7_longestQuiet 45 = .ok (.iload_n 1, 1) := by decide +kernel
theorem dX7_longestQuiet_46 : decode cX7_longestQuiet 46 = .ok (.ireturn, 1) := by decide +kernel
theorem dX7_passAfter_0 : decode cX7_passAfter 0 = .ok (.aload_n 0, 1) := by decide +kernel
theorem dX7_passAfter_1 : decode cX7_passAfter 1 = .ok (.getfield 19, 3) := by decide +kernel
theorem dX7_passAfter_4 : decode cX7_passAfter 4 = .ok (.aload_n 0, 1) := by decide +kernel
theorem dX7_passAfter_5 : decode cX7_passAfter 5 = .ok (.aload_n 0, 1) := by decide +kernel
theorem dX7_passAfter_6 : decode cX7_passAfter 6 = .ok (.getfield 9, 3) := by decide +kernel
theorem dX7_passAfter_9 : decode cX7_passAfter 9 = .ok (.getfield 54, 3) := by decide +kernel
theorem dX7_passAfter_12 : decode cX7_passAfter 12 = .ok (.invokevirtual 35, 3) := by decide +kernel
theorem dX7_passAfter_15 : decode cX7_passAfter 15 = .ok (.iload_n 1, 1) := by decide +kernel
theorem dX7_passAfter_16 : decode cX7_passAfter 16 = .ok (.invokevirtual 82, 3) := by decide +kernel
theorem dX7_passAfter_19 : decode cX7_passAfter 19 = .ok (.ireturn, 1) := by decide +kernel
theorem dX7_circleLength_0 : decode cX7_circleLength 0 = .ok (.aload_n 0, 1) := by decide +kernel
theorem dX7_circleLength_1 : decode cX7_circleLength 1 = .ok (.getfield 19, 3) := by decide +kernel
theorem dX7_circleLength_4 : decode cX7_circleLength 4 = .ok (.invokevirtual 85, 3) := by decide +kernel
theorem dX7_circleLength_7 : decode cX7_circleLength 7 = .ok (.istore_n 1, 1) := by decide +kernel
theorem dX7_circleLength_8 : decode cX7_circleLength 8 = .ok (.aload_n 0, 1) := by decide +kernel
theorem dX7_circleLength_9 : decode cX7_circleLength 9 = .ok (.iload_n 1, 1) := by decide +kernel
theorem dX7_circleLength_10 : decode cX7_circleLength 10 = .ok (.invokevirtual 88, 3) := by decide +kernel
theorem dX7_circleLength_13 : decode cX7_circleLength 13 = .ok (.istore_n 2, 1) := by decide +kernel
theorem dX7_circleLength_14 : decode cX7_circleLength 14 = .ok (.iconst 1, 1) := by decide +kernel
theorem dX7_circleLength_15 : decode cX7_circleLength 15 = .ok (.istore_n 3, 1) := by decide +kernel
theorem dX7_circleLength_16 : decode cX7_circleLength 16 = .ok (.iconst 1, 1) := by decide +kernel
theorem dX7_circleLength_17 : decode cX7_circleLength 17 = .ok (.istore 4, 2) := by decide +kernel
theorem dX7_circleLength_19 : decode cX7_circleLength 19 = .ok (.iconst 0, 1) := by decide +kernel
theorem dX7_circleLength_20 : decode cX7_circleLength 20 = .ok (.istore 5, 2) := by decide +kernel
theorem dX7_circleLength_22 : decode cX7_circleLength 22 = .ok (.iload 5, 2) := by decide +kernel
theorem dX7_circleLength_24 : decode cX7_circleLength 24 = .ok (.ldc 91, 2) := by decide +kernel
theorem dX7_circleLength_26 : decode cX7_circleLength 26 = .ok (.if_icmp .ge 39, 3) := by decide +kernel
theorem dX7_circleLength_29 : decode cX7_circleLength 29 = .ok (.iload_n 2, 1) := by decide +kernel
theorem dX7_circleLength_30 : decode cX7_circleLength 30 = .ok (.iload_n 1, 1) := by decide +kernel
theorem dX7_circleLength_31 : decode cX7_circleLength 31 = .ok (.if_icmp .eq 34, 3) := by decide +kernel
theorem dX7_circleLength_34 : decode cX7_circleLength 34 = .ok (.iload_n 3, 1) := by decide +kernel
theorem dX7_circleLength_35 : decode cX7_circleLength 35 = .ok (.iload 4, 2) := by decide +kernel
theorem dX7_circleLength_37 : decode cX7_circleLength 37 = .ok (.if_icmp .ne 13, 3) := by decide +kernel
theorem dX7_circleLength_40 : decode cX7_circleLength 40 = .ok (.iload_n 2, 1) := by decide +kernel
theorem dX7_circleLength_41 : decode cX7_circleLength 41 = .ok (.istore_n 1, 1) := by decide +kernel
theorem dX7_circleLength_42 : decode cX7_circleLength 42 = .ok (.iload 4, 2) := by decide +kernel
theorem dX7_circleLength_44 : decode cX7_circleLength 44 = .ok (.iconst 2, 1) := by decide +kernel
theorem dX7_circleLength_45 : decode cX7_circleLength 45 = .ok (.imul, 1) := by decide +kernel
theorem dX7_circleLength_46 : decode cX7_circleLength 46 = .ok (.istore 4, 2) := by decide +kernel
theorem dX7_circleLength_48 : decode cX7_circleLength 48 = .ok (.iconst 0, 1) := by decide +kernel
theorem dX7_circleLength_49 : decode cX7_circleLength 49 = .ok (.istore_n 3, 1) := by decide +kernel
theorem dX7_circleLength_50 : decode cX7_circleLength 50 = .ok (.aload_n 0, 1) := by decide +kernel
theorem dX7_circleLength_51 : decode cX7_circleLength 51 = .ok (.iload_n 2, 1) := by decide +kernel
theorem dX7_circleLength_52 : decode cX7_circleLength 52 = .ok (.invokevirtual 88, 3) := by decide +kernel
theorem dX7_circleLength_55 : decode cX7_circleLength 55 = .ok (.istore_n 2, 1) := by decide +kernel
theorem dX7_circleLength_56 : decode cX7_circleLength 56 = .ok (.iinc 3 1, 3) := by decide +kernel
theorem dX7_circleLength_59 : decode cX7_circleLength 59 = .ok (.iinc 5 1, 3) := by decide +kernel
theorem dX7_circleLength_62 : decode cX7_circleLength 62 = .ok (.goto (-40), 3) := by decide +kernel
theorem dX7_circleLength_65 : decode cX7_circleLength 65 = .ok (.iload_n 3, 1) := by decide +kernel
theorem dX7_circleLength_66 : decode cX7_circleLength 66 = .ok (.ireturn, 1) := by decide +kernel
theorem dX7_circleEntry_0 : decode cX7_circleEntry 0 = .ok (.aload_n 0, 1) := by decide +kernel
theorem dX7_circleEntry_1 : decode cX7_circleEntry 1 = .ok (.getfield 19, 3) := by decide +kernel
theorem dX7_circleEntry_4 : decode cX7_circleEntry 4 = .ok (.invokevirtual 85, 3) := by decide +kernel
theorem dX7_circleEntry_7 : decode cX7_circleEntry 7 = .ok (.istore_n 2, 1) := by decide +kernel
theorem dX7_circleEntry_8 : decode cX7_circleEntry 8 = .ok (.iload_n 2, 1) := by decide +kernel
theorem dX7_circleEntry_9 : decode cX7_circleEntry 9 = .ok (.istore_n 3, 1) := by decide +kernel
theorem dX7_circleEntry_10 : decode cX7_circleEntry 10 = .ok (.iconst 0, 1) := by decide +kernel
theorem dX7_circleEntry_11 : decode cX7_circleEntry 11 = .ok (.istore 4, 2) := by decide +kernel
theorem dX7_circleEntry_13 : decode cX7_circleEntry 13 = .ok (.iload 4, 2) := by decide +kernel
theorem dX7_circleEntry_15 : decode cX7_circleEntry 15 = .ok (.iload_n 1, 1) := by decide +kernel
theorem dX7_circleEntry_16 : decode cX7_circleEntry 16 = .ok (.if_icmp .ge 15, 3) := by decide +kernel
theorem dX7_circleEntry_19 : decode cX7_circleEntry 19 = .ok (.aload_n 0, 1) := by decide +kernel
theorem dX7_circleEntry_20 : decode cX7_circleEntry 20 = .ok (.iload_n 3, 1) := by decide +kernel
theorem dX7_circleEntry_21 : decode cX7_circleEntry 21 = .ok (.invokevirtual 88, 3) := by decide +kernel
theorem dX7_circleEntry_24 : decode cX7_circleEntry 24 = .ok (.istore_n 3, 1) := by decide +kernel
theorem dX7_circleEntry_25 : decode cX7_circleEntry 25 = .ok (.iinc 4 1, 3) := by decide +kernel
theorem dX7_circleEntry_28 : decode cX7_circleEntry 28 = .ok (.goto (-15), 3) := by decide +kernel
theorem dX7_circleEntry_31 : decode cX7_circleEntry 31 = .ok (.iconst 0, 1) := by decide +kernel
theorem dX7_circleEntry_32 : decode cX7_circleEntry 32 = .ok (.istore 4, 2) := by decide +kernel
theorem dX7_circleEntry_34 : decode cX7_circleEntry 34 = .ok (.iconst 0, 1) := by decide +kernel
theorem dX7_circleEntry_35 : decode cX7_circleEntry 35 = .ok (.istore 5, 2) := by decide +kernel
theorem dX7_circleEntry_37 : decode cX7_circleEntry 37 = .ok (.iload 5, 2) := by decide +kernel
theorem dX7_circleEntry_39 : decode cX7_circleEntry 39 = .ok (.ldc 91, 2) := by decide +kernel
theorem dX7_circleEntry_41 : decode cX7_circleEntry 41 = .ok (.if_icmp .ge 29, 3) := by decide +kernel
theorem dX7_circleEntry_44 : decode cX7_circleEntry 44 = .ok (.iload_n 2, 1) := by decide +kernel
theorem dX7_circleEntry_45 : decode cX7_circleEntry 45 = .ok (.iload_n 3, 1) := by decide +kernel
theorem dX7_circleEntry_46 : decode cX7_circleEntry 46 = .ok (.if_icmp .eq 24, 3) := by decide +kernel
theorem dX7_circleEntry_49 : decode cX7_circleEntry 49 = .ok (.aload_n 0, 1) := by decide +kernel
theorem dX7_circleEntry_50 : decode cX7_circleEntry 50 = .ok (.iload_n 2, 1) := by decide +kernel
theorem dX7_circleEntry_51 : decode cX7_circleEntry 51 = .ok (.invokevirtual 88, 3) := by decide +kernel
theorem dX7_circleEntry_54 : decode cX7_circleEntry 54 = .ok (.istore_n 2, 1) := by decide +kernel
theorem dX7_circleEntry_55 : decode cX7_circleEntry 55 = .ok (.aload_n 0, 1) := by decide +kernel
theorem dX7_circleEntry_56 : decode cX7_circleEntry 56 = .ok (.iload_n 3, 1) := by decide +kernel
theorem dX7_circleEntry_57 : decode cX7_circleEntry 57 = .ok (.invokevirtual 88, 3) := by decide +kernel
theorem dX7_circleEntry_60 : decode cX7_circleEntry 60 = .ok (.istore_n 3, 1) := by decide +kernel
theorem dX7_circleEntry_61 : decode cX7_circleEntry 61 = .ok (.iinc 4 1, 3) := by decide +kernel
theorem dX7_circleEntry_64 : decode cX7_circleEntry 64 = .ok (.iinc 5 1, 3) := by decide +kernel
theorem dX7_circleEntry_67 : decode cX7_circleEntry 67 = .ok (.goto (-30), 3) := by decide +kernel
theorem dX7_circleEntry_70 : decode cX7_circleEntry 70 = .ok (.iload 4, 2) := by decide +kernel
theorem dX7_circleEntry_72 : decode cX7_circleEntry 72 = .ok (.ireturn, 1) := by decide +kernel
theorem dX7_leadOfOne_0 : decode cX7_leadOfOne 0 = .ok (.aload_n 0, 1) := by decide +kernel
theorem dX7_leadOfOne_1 : decode cX7_leadOfOne 1 = .ok (.getfield 19, 3) := by decide +kernel
theorem dX7_leadOfOne_4 : decode cX7_leadOfOne 4 = .ok (.getfield 44, 3) := by decide +kernel
theorem dX7_leadOfOne_7 : decode cX7_leadOfOne 7 = .ok (.iload_n 2, 1) := by decide +kernel
theorem dX7_leadOfOne_8 : decode cX7_leadOfOne 8 = .ok (.iaload, 1) := by decide +kernel
theorem dX7_leadOfOne_9 : decode cX7_leadOfOne 9 = .ok (.iload_n 1, 1) := by decide +kernel
theorem dX7_leadOfOne_10 : decode cX7_leadOfOne 10 = .ok (.invokestatic 92, 3) := by decide +kernel
theorem dX7_leadOfOne_13 : decode cX7_leadOfOne 13 = .ok (.ireturn, 1) := by decide +kernel
theorem dX7_mindOf_0 : decode cX7_mindOf 0 = .ok (.aload_n 0, 1) := by decide +kernel
theorem dX7_mindOf_1 : decode cX7_mindOf 1 = .ok (.aload_n 0, 1) := by decide +kernel
theorem dX7_mindOf_2 : decode cX7_mindOf 2 = .ok (.getfield 9, 3) := by decide +kernel
theorem dX7_mindOf_5 : decode cX7_mindOf 5 = .ok (.getfield 95, 3) := by decide +kernel
theorem dX7_mindOf_8 : decode cX7_mindOf 8 = .ok (.iload_n 1, 1) := by decide +kernel
theorem dX7_mindOf_9 : decode cX7_mindOf 9 = .ok (.iaload, 1) := by decide +kernel
theorem dX7_mindOf_10 : decode cX7_mindOf 10 = .ok (.iload_n 2, 1) := by decide +kernel
theorem dX7_mindOf_11 : decode cX7_mindOf 11 = .ok (.invokevirtual 98, 3) := by decide +kernel
theorem dX7_mindOf_14 : decode cX7_mindOf 14 = .ok (.invokestatic 101, 3) := by decide +kernel
theorem dX7_mindOf_17 : decode cX7_mindOf 17 = .ok (.ireturn, 1) := by decide +kernel
theorem dX7_rowsOfMind_0 : decode cX7_rowsOfMind 0 = .ok (.iconst 0, 1) := by decide +kernel
theorem dX7_rowsOfMind_1 : decode cX7_rowsOfMind 1 = .ok (.istore_n 3, 1) := by decide +kernel
theorem dX7_rowsOfMind_2 : decode cX7_rowsOfMind 2 = .ok (.iconst 0, 1) := by decide +kernel
theorem dX7_rowsOfMind_3 : decode cX7_rowsOfMind 3 = .ok (.istore 4, 2) := by decide +kernel
theorem dX7_rowsOfMind_5 : decode cX7_rowsOfMind 5 = .ok (.iload 4, 2) := by decide +kernel
theorem dX7_rowsOfMind_7 : decode cX7_rowsOfMind 7 = .ok (.aload_n 0, 1) := by decide +kernel
theorem dX7_rowsOfMind_8 : decode cX7_rowsOfMind 8 = .ok (.getfield 9, 3) := by decide +kernel
theorem dX7_rowsOfMind_11 : decode cX7_rowsOfMind 11 = .ok (.getfield 104, 3) := by decide +kernel
theorem dX7_rowsOfMind_14 : decode cX7_rowsOfMind 14 = .ok (.if_icmp .ge 27, 3) := by decide +kernel
theorem dX7_rowsOfMind_17 : decode cX7_rowsOfMind 17 = .ok (.aload_n 0, 1) := by decide +kernel
theorem dX7_rowsOfMind_18 : decode cX7_rowsOfMind 18 = .ok (.iload 4, 2) := by decide +kernel
theorem dX7_rowsOfMind_20 : decode cX7_rowsOfMind 20 = .ok (.iload_n 2, 1) := by decide +kernel
theorem dX7_rowsOfMind_21 : decode cX7_rowsOfMind 21 = .ok (.invokevirtual 107, 3) := by decide +kernel
theorem dX7_rowsOfMind_24 : decode cX7_rowsOfMind 24 = .ok (.iload_n 1, 1) := by decide +kernel
theorem dX7_rowsOfMind_25 : decode cX7_rowsOfMind 25 = .ok (.if_icmp .ne 10, 3) := by decide +kernel
theorem dX7_rowsOfMind_28 : decode cX7_rowsOfMind 28 = .ok (.iload_n 3, 1) := by decide +kernel
theorem dX7_rowsOfMind_29 : decode cX7_rowsOfMind 29 = .ok (.iconst 1, 1) := by decide +kernel
theorem dX7_rowsOfMind_30 : decode cX7_rowsOfMind 30 = .ok (.iload 4, 2) := by decide +kernel
theorem dX7_rowsOfMind_32 : decode cX7_rowsOfMind 32 = .ok (.ishl, 1) := by decide +kernel
theorem dX7_rowsOfMind_33 : decode cX7_rowsOfMind 33 = .ok (.ior, 1) := by decide +kernel
theorem dX7_rowsOfMind_34 : decode cX7_rowsOfMind 34 = .ok (.istore_n 3, 1) := by decide +kernel
theorem dX7_rowsOfMind_35 : decode cX7_rowsOfMind 35 = .ok (.iinc 4 1, 3) := by decide +kernel
theorem dX7_rowsOfMind_38 : decode cX7_rowsOfMind 38 = .ok (.goto (-33), 3) := by decide +kernel
theorem dX7_rowsOfMind_41 : decode cX7_rowsOfMind 41 = .ok (.iload_n 3, 1) := by decide +kernel
theorem dX7_rowsOfMind_42 : decode cX7_rowsOfMind 42 = .ok (.ireturn, 1) := by decide +kernel
theorem dX7_solidRows_0 : decode cX7_solidRows 0 = .ok (.iconst 0, 1) := by decide +kernel
theorem dX7_solidRows_1 : decode cX7_solidRows 1 = .ok (.istore_n 2, 1) := by decide +kernel
theorem dX7_solidRows_2 : decode cX7_solidRows 2 = .ok (.iconst 0, 1) := by decide +kernel
theorem dX7_solidRows_3 : decode cX7_solidRows 3 = .ok (.istore_n 3, 1) := by decide +kernel
theorem dX7_solidRows_4 : decode cX7_solidRows 4 = .ok (.iload_n 3, 1) := by decide +kernel
theorem dX7_solidRows_5 : decode cX7_solidRows 5 = .ok (.aload_n 0, 1) := by decide +kernel
theorem dX7_solidRows_6 : decode cX7_solidRows 6 = .ok (.getfield 9, 3) := by decide +kernel
theorem dX7_solidRows_9 : decode cX7_solidRows 9 = .ok (.getfield 104, 3) := by decide +kernel
theorem dX7_solidRows_12 : decode cX7_solidRows 12 = .ok (.if_icmp .ge 32, 3) := by decide +kernel
theorem dX7_solidRows_15 : decode cX7_solidRows 15 = .ok (.aload_n 0, 1) := by decide +kernel
theorem dX7_solidRows_16 : decode cX7_solidRows 16 = .ok (.aload_n 0, 1) := by decide +kernel
theorem dX7_solidRows_17 : decode cX7_solidRows 17 = .ok (.getfield 9, 3) := by decide +kernel
theorem dX7_solidRows_20 : decode cX7_solidRows 20 = .ok (.getfield 95, 3) := by decide +kernel
theorem dX7_solidRows_23 : decode cX7_solidRows 23 = .ok (.iload_n 3, 1) := by decide +kernel
theorem dX7_solidRows_24 : decode cX7_solidRows 24 = .ok (.iaload, 1) := by decide +kernel
theorem dX7_solidRows_25 : decode cX7_solidRows 25 = .ok (.iload_n 1, 1) := by decide +kernel
theorem dX7_solidRows_26 : decode cX7_solidRows 26 = .ok (.invokevirtual 73, 3) := by decide +kernel
theorem dX7_solidRows_29 : decode cX7_solidRows 29 = .ok (.ifCond .eq 9, 3) := by decide +kernel
theorem dX7_solidRows_32 : decode cX7_solidRows 32 = .ok (.iload_n 2, 1) := by decide +kernel
theorem dX7_solidRows_33 : decode cX7_solidRows 33 = .ok (.iconst 1, 1) := by decide +kernel
theorem dX7_solidRows_34 : decode cX7_solidRows 34 = .ok (.iload_n 3, 1) := by decide +kernel
theorem dX7_solidRows_35 : decode cX7_solidRows 35 = .ok (.ishl, 1) := by decide +kernel
theorem dX7_solidRows_36 : decode cX7_solidRows 36 = .ok (.ior, 1) := by decide +kernel
theorem dX7_solidRows_37 : decode cX7_solidRows 37 = .ok (.istore_n 2, 1) := by decide +kernel
theorem dX7_solidRows_38 : decode cX7_solidRows 38 = .ok (.iinc 3 1, 3) := by decide +kernel
theorem dX7_solidRows_41 : decode cX7_solidRows 41 = .ok (.goto (-37), 3) := by decide +kernel
theorem dX7_solidRows_44 : decode cX7_solidRows 44 = .ok (.iload_n 2, 1) := by decide +kernel
theorem dX7_solidRows_45 : decode cX7_solidRows 45 = .ok (.ireturn, 1) := by decide +kernel
theorem dX7_longestRun_0 : decode cX7_longestRun 0 = .ok (.aload_n 0, 1) := by decide +kernel
theorem dX7_longestRun_1 : decode cX7_longestRun 1 = .ok (.iload_n 1, 1) := by decide +kernel
theorem dX7_longestRun_2 : decode cX7_longestRun 2 = .ok (.iload_n 2, 1) := by decide +kernel
theorem dX7_longestRun_3 : decode cX7_longestRun 3 = .ok (.invokevirtual 61, 3) := by decide +kernel
theorem dX7_longestRun_6 : decode cX7_longestRun 6 = .ok (.istore_n 3, 1) := by decide +kernel
theorem dX7_longestRun_7 : decode cX7_longestRun 7 = .ok (.iconst 0, 1) := by decide +kernel
theorem dX7_longestRun_8 : decode cX7_longestRun 8 = .ok (.istore 4, 2) := by decide +kernel
theorem dX7_longestRun_10 : decode cX7_longestRun 10 = .ok (.iconst 0, 1) := by decide +kernel
theorem dX7_longestRun_11 : decode cX7_longestRun 11 = .ok (.istore 5, 2) := by decide +kernel
theorem dX7_longestRun_13 : decode cX7_longestRun 13 = .ok (.iconst 0, 1) := by decide +kernel
theorem dX7_longestRun_14 : decode cX7_longestRun 14 = .ok (.istore 6, 2) := by decide +kernel
theorem dX7_longestRun_16 : decode cX7_longestRun 16 = .ok (.iload 6, 2) := by decide +kernel
theorem dX7_longestRun_18 : decode cX7_longestRun 18 = .ok (.aload_n 0, 1) := by decide +kernel
theorem dX7_longestRun_19 : decode cX7_longestRun 19 = .ok (.getfield 9, 3) := by decide +kernel
theorem dX7_longestRun_22 : decode cX7_longestRun 22 = .ok (.getfield 67, 3) := by decide +kernel
theorem dX7_longestRun_25 : decode cX7_longestRun 25 = .ok (.if_icmp .ge 53, 3) := by decide +kernel
theorem dX7_longestRun_28 : decode cX7_longestRun 28 = .ok (.aload_n 0, 1) := by decide +kernel
theorem dX7_longestRun_29 : decode cX7_longestRun 29 = .ok (.getfield 9, 3) := by decide +kernel
theorem dX7_longestRun_32 : decode cX7_longestRun 32 = .ok (.getfield 110, 3) := by decide +kernel
theorem dX7_longestRun_35 : decode cX7_longestRun 35 = .ok (.iload 6, 2) := by decide +kernel
theorem dX7_longestRun_37 : decode cX7_longestRun 37 = .ok (.iaload, 1) := by decide +kernel
theorem dX7_longestRun_38 : decode cX7_longestRun 38 = .ok (.ifCond .ne 6, 3) := by decide +kernel
theorem dX7_longestRun_41 : decode cX7_longestRun 41 = .ok (.iconst 0, 1) := by decide +kernel
theorem dX7_longestRun_42 : decode cX7_longestRun 42 = .ok (.istore 5, 2) := by decide +kernel
theorem dX7_longestRun_44 : decode cX7_longestRun 44 = .ok (.iload_n 3, 1) := by decide +kernel
theorem dX7_longestRun_45 : decode cX7_longestRun 45 = .ok (.iload 6, 2) := by decide +kernel
theorem dX7_longestRun_47 : decode cX7_longestRun 47 = .ok (.iushr, 1) := by decide +kernel
theorem dX7_longestRun_48 : decode cX7_longestRun 48 = .ok (.iconst 1, 1) := by decide +kernel
theorem dX7_longestRun_49 : decode cX7_longestRun 49 = .ok (.iand, 1) := by decide +kernel
theorem dX7_longestRun_50 : decode cX7_longestRun 50 = .ok (.ifCond .eq 10, 3) := by decide +kernel
theorem dX7_longestRun_53 : decode cX7_longestRun 53 = .ok (.iload 5, 2) := by decide +kernel
theorem dX7_longestRun_55 : decode cX7_longestRun 55 = .ok (.iconst 1, 1) := by decide +kernel
theorem dX7_longestRun_56 : decode cX7_longestRun 56 = .ok (.iadd, 1) := by decide +kernel
theorem dX7_longestRun_57 : decode cX7_longestRun 57 = .ok (.goto 4, 3) := by decide +kernel
theorem dX7_longestRun_60 : decode cX7_longestRun 60 = .ok (.iconst 0, 1) := by decide +kernel
theorem dX7_longestRun_61 : decode cX7_longestRun 61 = .ok (.istore 5, 2) := by decide +kernel
theorem dX7_longestRun_63 : decode cX7_longestRun 63 = .ok (.iload 4, 2) := by decide +kernel
theorem dX7_longestRun_65 : decode cX7_longestRun 65 = .ok (.iload 5, 2) := by decide +kernel
theorem dX7_longestRun_67 : decode cX7_longestRun 67 = .ok (.invokestatic 77, 3) := by decide +kernel
theorem dX7_longestRun_70 : decode cX7_longestRun 70 = .ok (.istore 4, 2) := by decide +kernel
theorem dX7_longestRun_72 : decode cX7_longestRun 72 = .ok (.iinc 6 1, 3) := by decide +kernel
theorem dX7_longestRun_75 : decode cX7_longestRun 75 = .ok (.goto (-59), 3) := by decide +kernel
theorem dX7_longestRun_78 : decode cX7_longestRun 78 = .ok (.iload 4, 2) := by decide +kernel
theorem dX7_longestRun_80 : decode cX7_longestRun 80 = .ok (.ireturn, 1) := by decide +kernel
theorem dX7_tiedAt_0 : decode cX7_tiedAt 0 = .ok (.aload_n 0, 1) := by decide +kernel
theorem dX7_tiedAt_1 : decode cX7_tiedAt 1 = .ok (.iload_n 1, 1) := by decide +kernel
theorem dX7_tiedAt_2 : decode cX7_tiedAt 2 = .ok (.invokevirtual 35, 3) := by decide +kernel
theorem dX7_tiedAt_5 : decode cX7_tiedAt 5 = .ok (.istore_n 2, 1) := by decide +kernel
theorem dX7_tiedAt_6 : decode cX7_tiedAt 6 = .ok (.iconst 0, 1) := by decide +kernel
theorem dX7_tiedAt_7 : decode cX7_tiedAt 7 = .ok (.istore_n 3, 1) := by decide +kernel
theorem dX7_tiedAt_8 : decode cX7_tiedAt 8 = .ok (.iconst 0, 1) := by decide +kernel
theorem dX7_tiedAt_9 : decode cX7_tiedAt 9 = .ok (.istore 4, 2) := by decide +kernel
theorem dX7_tiedAt_11 : decode cX7_tiedAt 11 = .ok (.iload 4, 2) := by decide +kernel
theorem dX7_tiedAt_13 : decode cX7_tiedAt 13 = .ok (.aload_n 0, 1) := by decide +kernel
theorem dX7_tiedAt_14 : decode cX7_tiedAt 14 = .ok (.getfield 9, 3) := by decide +kernel
theorem dX7_tiedAt_17 : decode cX7_tiedAt 17 = .ok (.getfield 67, 3) := by decide +kernel
theorem dX7_tiedAt_20 : decode cX7_tiedAt 20 = .ok (.if_icmp .ge 46, 3) := by decide +kernel
theorem dX7_tiedAt_23 : decode cX7_tiedAt 23 = .ok (.iload_n 2, 1) := by decide +kernel
theorem dX7_tiedAt_24 : decode cX7_tiedAt 24 = .ok (.iload 4, 2) := by decide +kernel
theorem dX7_tiedAt_26 : decode cX7_tiedAt 26 = .ok (.iushr, 1) := by decide +kernel
theorem dX7_tiedAt_27 : decode cX7_tiedAt 27 = .ok (.iconst 1, 1) := by decide +kernel
theorem dX7_tiedAt_28 : decode cX7_tiedAt 28 = .ok (.iand, 1) := by decide +kernel
theorem dX7_tiedAt_29 : decode cX7_tiedAt 29 = .ok (.ifCond .eq 31, 3) := by decide +kernel
theorem dX7_tiedAt_32 : decode cX7_tiedAt 32 = .ok (.aload_n 0, 1) := by decide +kernel
theorem dX7_tiedAt_33 : decode cX7_tiedAt 33 = .ok (.getfield 19, 3) := by decide +kernel
theorem dX7_tiedAt_36 : decode cX7_tiedAt 36 = .ok (.iload 4, 2) := by decide +kernel
theorem dX7_tiedAt_38 : decode cX7_tiedAt 38 = .ok (.aload_n 0, 1) := by decide +kernel
theorem dX7_tiedAt_39 : decode cX7_tiedAt 39 = .ok (.getfield 19, 3) := by decide +kernel
theorem dX7_tiedAt_42 : decode cX7_tiedAt 42 = .ok (.getfield 44, 3) := by decide +kernel
theorem dX7_tiedAt_45 : decode cX7_tiedAt 45 = .ok (.iload_n 1, 1) := by decide +kernel
theorem dX7_tiedAt_46 : decode cX7_tiedAt 46 = .ok (.iaload, 1) := by decide +kernel
theorem dX7_tiedAt_47 : decode cX7_tiedAt 47 = .ok (.invokevirtual 113, 3) := by decide +kernel
theorem dX7_tiedAt_50 : decode cX7_tiedAt 50 = .ok (.ifCond .ne 10, 3) := by decide +kernel
theorem dX7_tiedAt_53 : decode cX7_tiedAt 53 = .ok (.iload_n 3, 1) := by decide +kernel
theorem dX7_tiedAt_54 : decode cX7_tiedAt 54 = .ok (.iconst 1, 1) := by decide +kernel
theorem dX7_tiedAt_55 : decode cX7_tiedAt 55 = .ok (.iload 4, 2) := by decide +kernel
theorem dX7_tiedAt_57 : decode cX7_tiedAt 57 = .ok (.ishl, 1) := by decide +kernel
theorem dX7_tiedAt_58 : decode cX7_tiedAt 58 = .ok (.ior, 1) := by decide +kernel
theorem dX7_tiedAt_59 : decode cX7_tiedAt 59 = .ok (.istore_n 3, 1) := by decide +kernel
theorem dX7_tiedAt_60 : decode cX7_tiedAt 60 = .ok (.iinc 4 1, 3) := by decide +kernel
theorem dX7_tiedAt_63 : decode cX7_tiedAt 63 = .ok (.goto (-52), 3) := by decide +kernel
theorem dX7_tiedAt_66 : decode cX7_tiedAt 66 = .ok (.iload_n 3, 1) := by decide +kernel
theorem dX7_tiedAt_67 : decode cX7_tiedAt 67 = .ok (.ireturn, 1) := by decide +kernel
theorem dX7_steadySince_0 : decode cX7_steadySince 0 = .ok (.aload_n 0, 1) := by decide +kernel
theorem dX7_steadySince_1 : decode cX7_steadySince 1 = .ok (.getfield 9, 3) := by decide +kernel
theorem dX7_steadySince_4 : decode cX7_steadySince 4 = .ok (.getfield 54, 3) := by decide +kernel
theorem dX7_steadySince_7 : decode cX7_steadySince 7 = .ok (.istore_n 2, 1) := by decide +kernel
theorem dX7_steadySince_8 : decode cX7_steadySince 8 = .ok (.iload_n 2, 1) := by decide +kernel
theorem dX7_steadySince_9 : decode cX7_steadySince 9 = .ok (.ifCond .le 21, 3) := by decide +kernel
theorem dX7_steadySince_12 : decode cX7_steadySince 12 = .ok (.aload_n 0, 1) := by decide +kernel
theorem dX7_steadySince_13 : decode cX7_steadySince 13 = .ok (.iload_n 2, 1) := by decide +kernel
theorem dX7_steadySince_14 : decode cX7_steadySince 14 = .ok (.invokevirtual 58, 3) := by decide +kernel
theorem dX7_steadySince_17 : decode cX7_steadySince 17 = .ok (.iload_n 1, 1) := by decide +kernel
theorem dX7_steadySince_18 : decode cX7_steadySince 18 = .ok (.iushr, 1) := by decide +kernel
theorem dX7_steadySince_19 : decode cX7_steadySince 19 = .ok (.iconst 1, 1) := by decide +kernel
theorem dX7_steadySince_20 : decode cX7_steadySince 20 = .ok (.iand, 1) := by decide +kernel
theorem dX7_steadySince_21 : decode cX7_steadySince 21 = .ok (.ifCond .ne 9, 3) := by decide +kernel
theorem dX7_steadySince_24 : decode cX7_steadySince 24 = .ok (.iinc 2 (-1), 3) := by decide +kernel
theorem dX7_steadySince_27 : decode cX7_steadySince 27 = .ok (.goto (-19), 3) := by decide +kernel
theorem dX7_steadySince_30 : decode cX7_steadySince 30 = .ok (.iload_n 2, 1) := by decide +kernel
theorem dX7_steadySince_31 : decode cX7_steadySince 31 = .ok (.ireturn, 1) := by decide +kernel
theorem dX7_longestHeld_0 : decode cX7_longestHeld 0 = .ok (.iconst 0, 1) := by decide +kernel
theorem dX7_longestHeld_1 : decode cX7_longestHeld 1 = .ok (.istore_n 2, 1) := by decide +kernel
theorem dX7_longestHeld_2 : decode cX7_longestHeld 2 = .ok (.iconst 0, 1) := by decide +kernel
theorem dX7_longestHeld_3 : decode cX7_longestHeld 3 = .ok (.istore_n 3, 1) := by decide +kernel
theorem dX7_longestHeld_4 : decode cX7_longestHeld 4 = .ok (.iconst 0, 1) := by decide +kernel
theorem dX7_longestHeld_5 : decode cX7_longestHeld 5 = .ok (.istore 4, 2) := by decide +kernel
theorem dX7_longestHeld_7 : decode cX7_longestHeld 7 = .ok (.iload 4, 2) := by decide +kernel
theorem dX7_longestHeld_9 : decode cX7_longestHeld 9 = .ok (.aload_n 0, 1) := by decide +kernel
theorem dX7_longestHeld_10 : decode cX7_longestHeld 10 = .ok (.getfield 9, 3) := by decide +kernel
theorem dX7_longestHeld_13 : decode cX7_longestHeld 13 = .ok (.getfield 54, 3) := by decide +kernel
theorem dX7_longestHeld_16 : decode cX7_longestHeld 16 = .ok (.if_icmp .gt 77, 3) := by decide +kernel
theorem dX7_longestHeld_19 : decode cX7_longestHeld 19 = .ok (.aload_n 0, 1) := by decide +kernel
theorem dX7_longestHeld_20 : decode cX7_longestHeld 20 = .ok (.iload 4, 2) := by decide +kernel
theorem dX7_longestHeld_22 : decode cX7_longestHeld 22 = .ok (.invokevirtual 58, 3) := by decide +kernel
theorem dX7_longestHeld_25 : decode cX7_longestHeld 25 = .ok (.iload_n 1, 1) := by decide +kernel
theorem dX7_longestHeld_26 : decode cX7_longestHeld 26 = .ok (.iushr, 1) := by decide +kernel
theorem dX7_longestHeld_27 : decode cX7_longestHeld 27 = .ok (.iconst 1, 1) := by decide +kernel
theorem dX7_longestHeld_28 : decode cX7_longestHeld 28 = .ok (.iand, 1) := by decide +kernel
theorem dX7_longestHeld_29 : decode cX7_longestHeld 29 = .ok (.ifCond .ne 7, 3) := by decide +kernel
theorem dX7_longestHeld_32 : decode cX7_longestHeld 32 = .ok (.iconst 1, 1) := by decide +kernel
theorem dX7_longestHeld_33 : decode cX7_longestHeld 33 = .ok (.goto 4, 3) := by decide +kernel
theorem dX7_longestHeld_36 : decode cX7_longestHeld 36 = .ok (.iconst 0, 1) := by decide +kernel
theorem dX7_longestHeld_37 : decode cX7_longestHeld 37 = .ok (.istore 5, 2) := by decide +kernel
theorem dX7_longestHeld_39 : decode cX7_longestHeld 39 = .ok (.aload_n 0, 1) := by decide +kernel
theorem dX7_longestHeld_40 : decode cX7_longestHeld 40 = .ok (.getfield 19, 3) := by decide +kernel
theorem dX7_longestHeld_43 : decode cX7_longestHeld 43 = .ok (.iload_n 1, 1) := by decide +kernel
theorem dX7_longestHeld_44 : decode cX7_longestHeld 44 = .ok (.iload 4, 2) := by decide +kernel
theorem dX7_longestHeld_46 : decode cX7_longestHeld 46 = .ok (.invokevirtual 64, 3) := by decide +kernel
theorem dX7_longestHeld_49 : decode cX7_longestHeld 49 = .ok (.ifCond .eq 7, 3) := by decide +kernel
theorem dX7_longestHeld_52 : decode cX7_longestHeld 52 = .ok (.iconst 1, 1) := by decide +kernel
theorem dX7_longestHeld_53 : decode cX7_longestHeld 53 = .ok (.goto 4, 3) := by decide +kernel
theorem dX7_longestHeld_56 : decode cX7_longestHeld 56 = .ok (.iconst 0, 1) := by decide +kernel
theorem dX7_longestHeld_57 : decode cX7_longestHeld 57 = .ok (.istore 6, 2) := by decide +kernel
theorem dX7_longestHeld_59 : decode cX7_longestHeld 59 = .ok (.iload 6, 2) := by decide +kernel
theorem dX7_longestHeld_61 : decode cX7_longestHeld 61 = .ok (.ifCond .eq 18, 3) := by decide +kernel
theorem dX7_longestHeld_64 : decode cX7_longestHeld 64 = .ok (.iload 5, 2) := by decide +kernel
theorem dX7_longestHeld_66 : decode cX7_longestHeld 66 = .ok (.ifCond .eq 9, 3) := by decide +kernel
theorem dX7_longestHeld_69 : decode cX7_longestHeld 69 = .ok (.iload_n 3, 1) := by decide +kernel
theorem dX7_longestHeld_70 : decode cX7_longestHeld 70 = .ok (.iconst 1, 1) := by decide +kernel
theorem dX7_longestHeld_71 : decode cX7_longestHeld 71 = .ok (.iadd, 1) := by decide +kernel
theorem dX7_longestHeld_72 : decode cX7_longestHeld 72 = .ok (.goto 8, 3) := by decide +kernel
theorem dX7_longestHeld_75 : decode cX7_longestHeld 75 = .ok (.iconst 1, 1) := by decide +kernel
theorem dX7_longestHeld_76 : decode cX7_longestHeld 76 = .ok (.goto 4, 3) := by decide +kernel
theorem dX7_longestHeld_79 : decode cX7_longestHeld 79 = .ok (.iconst 0, 1) := by decide +kernel
theorem dX7_longestHeld_80 : decode cX7_longestHeld 80 = .ok (.istore_n 3, 1) := by decide +kernel
theorem dX7_longestHeld_81 : decode cX7_longestHeld 81 = .ok (.iload_n 2, 1) := by decide +kernel
theorem dX7_longestHeld_82 : decode cX7_longestHeld 82 = .ok (.iload_n 3, 1) := by decide +kernel
theorem dX7_longestHeld_83 : decode cX7_longestHeld 83 = .ok (.invokestatic 77, 3) := by decide +kernel
theorem dX7_longestHeld_86 : decode cX7_longestHeld 86 = .ok (.istore_n 2, 1) := by decide +kernel
theorem dX7_longestHeld_87 : decode cX7_longestHeld 87 = .ok (.iinc 4 1, 3) := by decide +kernel
theorem dX7_longestHeld_90 : decode cX7_longestHeld 90 = .ok (.goto (-83), 3) := by decide +kernel
theorem dX7_longestHeld_93 : decode cX7_longestHeld 93 = .ok (.iload_n 2, 1) := by decide +kernel
theorem dX7_longestHeld_94 : decode cX7_longestHeld 94 = .ok (.ireturn, 1) := by decide +kernel
theorem dX7_hushAt_0 : decode cX7_hushAt 0 = .ok (.aload_n 0, 1) := by decide +kernel
theorem dX7_hushAt_1 : decode cX7_hushAt 1 = .ok (.iconst 0, 1) := by decide +kernel
theorem dX7_hushAt_2 : decode cX7_hushAt 2 = .ok (.iload_n 1, 1) := by decide +kernel
theorem dX7_hushAt_3 : decode cX7_hushAt 3 = .ok (.invokevirtual 61, 3) := by decide +kernel
theorem dX7_hushAt_6 : decode cX7_hushAt 6 = .ok (.istore_n 2, 1) := by decide +kernel
theorem dX7_hushAt_7 : decode cX7_hushAt 7 = .ok (.iconst 0, 1) := by decide +kernel
theorem dX7_hushAt_8 : decode cX7_hushAt 8 = .ok (.istore_n 3, 1) := by decide +kernel
theorem dX7_hushAt_9 : decode cX7_hushAt 9 = .ok (.iconst 0, 1) := by decide +kernel
theorem dX7_hushAt_10 : decode cX7_hushAt 10 = .ok (.istore 4, 2) := by decide +kernel
theorem dX7_hushAt_12 : decode cX7_hushAt 12 = .ok (.iload 4, 2) := by decide +kernel
theorem dX7_hushAt_14 : decode cX7_hushAt 14 = .ok (.aload_n 0, 1) := by decide +kernel
theorem dX7_hushAt_15 : decode cX7_hushAt 15 = .ok (.getfield 9, 3) := by decide +kernel
theorem dX7_hushAt_18 : decode cX7_hushAt 18 = .ok (.getfield 67, 3) := by decide +kernel
theorem dX7_hushAt_21 : decode cX7_hushAt 21 = .ok (.if_icmp .ge 63, 3) := by decide +kernel
theorem dX7_hushAt_24 : decode cX7_hushAt 24 = .ok (.aload_n 0, 1) := by decide +kernel
theorem dX7_hushAt_25 : decode cX7_hushAt 25 = .ok (.getfield 19, 3) := by decide +kernel
theorem dX7_hushAt_28 : decode cX7_hushAt 28 = .ok (.getfield 44, 3) := by decide +kernel
theorem dX7_hushAt_31 : decode cX7_hushAt 31 = .ok (.iload_n 1, 1) := by decide +kernel
theorem dX7_hushAt_32 : decode cX7_hushAt 32 = .ok (.iaload, 1) := by decide +kernel
theorem dX7_hushAt_33 : decode cX7_hushAt 33 = .ok (.aload_n 0, 1) := by decide +kernel
theorem dX7_hushAt_34 : decode cX7_hushAt 34 = .ok (.getfield 9, 3) := by decide +kernel
theorem dX7_hushAt_37 : decode cX7_hushAt 37 = .ok (.getfield 116, 3) := by decide +kernel
theorem dX7_hushAt_40 : decode cX7_hushAt 40 = .ok (.iload 4, 2) := by decide +kernel
theorem dX7_hushAt_42 : decode cX7_hushAt 42 = .ok (.iaload, 1) := by decide +kernel
theorem dX7_hushAt_43 : decode cX7_hushAt 43 = .ok (.invokestatic 119, 3) := by decide +kernel
theorem dX7_hushAt_46 : decode cX7_hushAt 46 = .ok (.iand, 1) := by decide +kernel
theorem dX7_hushAt_47 : decode cX7_hushAt 47 = .ok (.ifCond .ne 7, 3) := by decide +kernel
theorem dX7_hushAt_50 : decode cX7_hushAt 50 = .ok (.iconst 1, 1) := by decide +kernel
theorem dX7_hushAt_51 : decode cX7_hushAt 51 = .ok (.goto 4, 3) := by decide +kernel
theorem dX7_hushAt_54 : decode cX7_hushAt 54 = .ok (.iconst 0, 1) := by decide +kernel
theorem dX7_hushAt_55 : decode cX7_hushAt 55 = .ok (.istore 5, 2) := by decide +kernel
theorem dX7_hushAt_57 : decode cX7_hushAt 57 = .ok (.iload_n 2, 1) := by decide +kernel
theorem dX7_hushAt_58 : decode cX7_hushAt 58 = .ok (.iload 4, 2) := by decide +kernel
theorem dX7_hushAt_60 : decode cX7_hushAt 60 = .ok (.iushr, 1) := by decide +kernel
theorem dX7_hushAt_61 : decode cX7_hushAt 61 = .ok (.iconst 1, 1) := by decide +kernel
theorem dX7_hushAt_62 : decode cX7_hushAt 62 = .ok (.iand, 1) := by decide +kernel
theorem dX7_hushAt_63 : decode cX7_hushAt 63 = .ok (.ifCond .eq 15, 3) := by decide +kernel
theorem dX7_hushAt_66 : decode cX7_hushAt 66 = .ok (.iload 5, 2) := by decide +kernel
theorem dX7_hushAt_68 : decode cX7_hushAt 68 = .ok (.ifCond .eq 10, 3) := by decide +kernel
theorem dX7_hushAt_71 : decode cX7_hushAt 71 = .ok (.iload_n 3, 1) := by decide +kernel
theorem dX7_hushAt_72 : decode cX7_hushAt 72 = .ok (.iconst 1, 1) := by decide +kernel
theorem dX7_hushAt_73 : decode cX7_hushAt 73 = .ok (.iload 4, 2) := by decide +kernel
theorem dX7_hushAt_75 : decode cX7_hushAt 75 = .ok (.ishl, 1) := by decide +kernel
theorem dX7_hushAt_76 : decode cX7_hushAt 76 = .ok (.ior, 1) := by decide +kernel
theorem dX7_hushAt_77 : decode cX7_hushAt 77 = .ok (.istore_n 3, 1) := by decide +kernel
theorem dX7_hushAt_78 : decode cX7_hushAt 78 = .ok (.iinc 4 1, 3) := by decide +kernel
theorem dX7_hushAt_81 : decode cX7_hushAt 81 = .ok (.goto (-69), 3) := by decide +kernel
theorem dX7_hushAt_84 : decode cX7_hushAt 84 = .ok (.iload_n 3, 1) := by decide +kernel
theorem dX7_hushAt_85 : decode cX7_hushAt 85 = .ok (.ireturn, 1) := by decide +kernel
theorem dX7_lonelyAt_0 : decode cX7_lonelyAt 0 = .ok (.iconst 0, 1) := by decide +kernel
theorem dX7_lonelyAt_1 : decode cX7_lonelyAt 1 = .ok (.istore_n 2, 1) := by decide +kernel
theorem dX7_lonelyAt_2 : decode cX7_lonelyAt 2 = .ok (.iconst 0, 1) := by decide +kernel
theorem dX7_lonelyAt_3 : decode cX7_lonelyAt 3 = .ok (.istore_n 3, 1) := by decide +kernel
theorem dX7_lonelyAt_4 : decode cX7_lonelyAt 4 = .ok (.iload_n 3, 1) := by decide +kernel
theorem dX7_lonelyAt_5 : decode cX7_lonelyAt 5 = .ok (.aload_n 0, 1) := by decide +kernel
theorem dX7_lonelyAt_6 : decode cX7_lonelyAt 6 = .ok (.getfield 9, 3) := by decide +kernel
theorem dX7_lonelyAt_9 : decode cX7_lonelyAt 9 = .ok (.getfield 67, 3) := by decide +kernel
theorem dX7_lonelyAt_12 : decode cX7_lonelyAt 12 = .ok (.if_icmp .ge 51, 3) := by decide +kernel
theorem dX7_lonelyAt_15 : decode cX7_lonelyAt 15 = .ok (.aload_n 0, 1) := by decide +kernel
theorem dX7_lonelyAt_16 : decode cX7_lonelyAt 16 = .ok (.getfield 19, 3) := by decide +kernel
theorem dX7_lonelyAt_19 : decode cX7_lonelyAt 19 = .ok (.iload_n 3, 1) := by decide +kernel
theorem dX7_lonelyAt_20 : decode cX7_lonelyAt 20 = .ok (.iload_n 1, 1) := by decide +kernel
theorem dX7_lonelyAt_21 : decode cX7_lonelyAt 21 = .ok (.invokevirtual 64, 3) := by decide +kernel
theorem dX7_lonelyAt_24 : decode cX7_lonelyAt 24 = .ok (.istore 4, 2) := by decide +kernel
theorem dX7_lonelyAt_26 : decode cX7_lonelyAt 26 = .ok (.iload 4, 2) := by decide +kernel
theorem dX7_lonelyAt_28 : decode cX7_lonelyAt 28 = .ok (.ifCond .eq 29, 3) := by decide +kernel
theorem dX7_lonelyAt_31 : decode cX7_lonelyAt 31 = .ok (.aload_n 0, 1) := by decide +kernel
theorem dX7_lonelyAt_32 : decode cX7_lonelyAt 32 = .ok (.iload 4, 2) := by decide +kernel
theorem dX7_lonelyAt_34 : decode cX7_lonelyAt 34 = .ok (.iload_n 1, 1) := by decide +kernel
theorem dX7_lonelyAt_35 : decode cX7_lonelyAt 35 = .ok (.invokevirtual 61, 3) := by decide +kernel
theorem dX7_lonelyAt_38 : decode cX7_lonelyAt 38 = .ok (.aload_n 0, 1) := by decide +kernel
theorem dX7_lonelyAt_39 : decode cX7_lonelyAt 39 = .ok (.getfield 9, 3) := by decide +kernel
theorem dX7_lonelyAt_42 : decode cX7_lonelyAt 42 = .ok (.getfield 116, 3) := by decide +kernel
theorem dX7_lonelyAt_45 : decode cX7_lonelyAt 45 = .ok (.iload_n 3, 1) := by decide +kernel
theorem dX7_lonelyAt_46 : decode cX7_lonelyAt 46 = .ok (.iaload, 1) := by decide +kernel
theorem dX7_lonelyAt_47 : decode cX7_lonelyAt 47 = .ok (.iand, 1) := by decide +kernel
theorem dX7_lonelyAt_48 : decode cX7_lonelyAt 48 = .ok (.ifCond .ne 9, 3) := by decide +kernel
theorem dX7_lonelyAt_51 : decode cX7_lonelyAt 51 = .ok (.iload_n 2, 1) := by decide +kernel
theorem dX7_lonelyAt_52 : decode cX7_lonelyAt 52 = .ok (.iconst 1, 1) := by decide +kernel
theorem dX7_lonelyAt_53 : decode cX7_lonelyAt 53 = .ok (.iload_n 3, 1) := by decide +kernel
theorem dX7_lonelyAt_54 : decode cX7_lonelyAt 54 = .ok (.ishl, 1) := by decide +kernel
theorem dX7_lonelyAt_55 : decode cX7_lonelyAt 55 = .ok (.ior, 1) := by decide +kernel
theorem dX7_lonelyAt_56 : decode cX7_lonelyAt 56 = .ok (.istore_n 2, 1) := by decide +kernel
theorem dX7_lonelyAt_57 : decode cX7_lonelyAt 57 = .ok (.iinc 3 1, 3) := by decide +kernel
theorem dX7_lonelyAt_60 : decode cX7_lonelyAt 60 = .ok (.goto (-56), 3) := by decide +kernel
theorem dX7_lonelyAt_63 : decode cX7_lonelyAt 63 = .ok (.iload_n 2, 1) := by decide +kernel
theorem dX7_lonelyAt_64 : decode cX7_lonelyAt 64 = .ok (.ireturn, 1) := by decide +kernel
theorem dX7_quarrelsAt_0 : decode cX7_quarrelsAt 0 = .ok (.aload_n 0, 1) := by decide +kernel
theorem dX7_quarrelsAt_1 : decode cX7_quarrelsAt 1 = .ok (.iconst 1, 1) := by decide +kernel
theorem dX7_quarrelsAt_2 : decode cX7_quarrelsAt 2 = .ok (.iload_n 1, 1) := by decide +kernel
theorem dX7_quarrelsAt_3 : decode cX7_quarrelsAt 3 = .ok (.invokevirtual 61, 3) := by decide +kernel
theorem dX7_quarrelsAt_6 : decode cX7_quarrelsAt 6 = .ok (.istore_n 2, 1) := by decide +kernel
theorem dX7_quarrelsAt_7 : decode cX7_quarrelsAt 7 = .ok (.aload_n 0, 1) := by decide +kernel
theorem dX7_quarrelsAt_8 : decode cX7_quarrelsAt 8 = .ok (.iconst 2, 1) := by decide +kernel
theorem dX7_quarrelsAt_9 : decode cX7_quarrelsAt 9 = .ok (.iload_n 1, 1) := by decide +kernel
theorem dX7_quarrelsAt_10 : decode cX7_quarrelsAt 10 = .ok (.invokevirtual 61, 3) := by decide +kernel
theorem dX7_quarrelsAt_13 : decode cX7_quarrelsAt 13 = .ok (.istore_n 3, 1) := by decide +kernel
theorem dX7_quarrelsAt_14 : decode cX7_quarrelsAt 14 = .ok (.iconst 0, 1) := by decide +kernel
theorem dX7_quarrelsAt_15 : decode cX7_quarrelsAt 15 = .ok (.istore 4, 2) := by decide +kernel
theorem dX7_quarrelsAt_17 : decode cX7_quarrelsAt 17 = .ok (.iconst 0, 1) := by decide +kernel
theorem dX7_quarrelsAt_18 : decode cX7_quarrelsAt 18 = .ok (.istore 5, 2) := by decide +kernel
theorem dX7_quarrelsAt_20 : decode cX7_quarrelsAt 20 = .ok (.iload 5, 2) := by decide +kernel
theorem dX7_quarrelsAt_22 : decode cX7_quarrelsAt 22 = .ok (.aload_n 0, 1) := by decide +kernel
theorem dX7_quarrelsAt_23 : decode cX7_quarrelsAt 23 = .ok (.getfield 9, 3) := by decide +kernel
theorem dX7_quarrelsAt_26 : decode cX7_quarrelsAt 26 = .ok (.getfield 67, 3) := by decide +kernel
theorem dX7_quarrelsAt_29 : decode cX7_quarrelsAt 29 = .ok (.if_icmp .ge 38, 3) := by decide +kernel
theorem dX7_quarrelsAt_32 : decode cX7_quarrelsAt 32 = .ok (.iload_n 2, 1) := by decide +kernel
theorem dX7_quarrelsAt_33 : decode cX7_quarrelsAt 33 = .ok (.iload 5, 2) := by decide +kernel
theorem dX7_quarrelsAt_35 : decode cX7_quarrelsAt 35 = .ok (.iushr, 1) := by decide +kernel
theorem dX7_quarrelsAt_36 : decode cX7_quarrelsAt 36 = .ok (.iconst 1, 1) := by decide +kernel
theorem dX7_quarrelsAt_37 : decode cX7_quarrelsAt 37 = .ok (.iand, 1) := by decide +kernel
theorem dX7_quarrelsAt_38 : decode cX7_quarrelsAt 38 = .ok (.ifCond .eq 23, 3) := by decide +kernel
theorem dX7_quarrelsAt_41 : decode cX7_quarrelsAt 41 = .ok (.iload 4, 2) := by decide +kernel
theorem dX7_quarrelsAt_43 : decode cX7_quarrelsAt 43 = .ok (.aload_n 0, 1) := by decide +kernel
theorem dX7_quarrelsAt_44 : decode cX7_quarrelsAt 44 = .ok (.getfield 9, 3) := by decide +kernel
theorem dX7_quarrelsAt_47 : decode cX7_quarrelsAt 47 = .ok (.getfield 116, 3) := by decide +kernel
theorem dX7_quarrelsAt_50 : decode cX7_quarrelsAt 50 = .ok (.iload 5, 2) := by decide +kernel
theorem dX7_quarrelsAt_52 : decode cX7_quarrelsAt 52 = .ok (.iaload, 1) := by decide +kernel
theorem dX7_quarrelsAt_53 : decode cX7_quarrelsAt 53 = .ok (.iload_n 3, 1) := by decide +kernel
theorem dX7_quarrelsAt_54 : decode cX7_quarrelsAt 54 = .ok (.iand, 1) := by decide +kernel
theorem dX7_quarrelsAt_55 : decode cX7_quarrelsAt 55 = .ok (.invokestatic 39, 3) := by decide +kernel
theorem dX7_quarrelsAt_58 : decode cX7_quarrelsAt 58 = .ok (.iadd, 1) := by decide +kernel
theorem dX7_quarrelsAt_59 : decode cX7_quarrelsAt 59 = .ok (.istore 4, 2) := by decide +kernel
theorem dX7_quarrelsAt_61 : decode cX7_quarrelsAt 61 = .ok (.iinc 5 1, 3) := by decide +kernel
theorem dX7_quarrelsAt_64 : decode cX7_quarrelsAt 64 = .ok (.goto (-44), 3) := by decide +kernel
theorem dX7_quarrelsAt_67 : decode cX7_quarrelsAt 67 = .ok (.iload 4, 2) := by decide +kernel
theorem dX7_quarrelsAt_69 : decode cX7_quarrelsAt 69 = .ok (.ireturn, 1) := by decide +kernel
theorem dX7_neverHeld_0 : decode cX7_neverHeld 0 = .ok (.aload_n 0, 1) := by decide +kernel
theorem dX7_neverHeld_1 : decode cX7_neverHeld 1 = .ok (.getfield 9, 3) := by decide +kernel
theorem dX7_neverHeld_4 : decode cX7_neverHeld 4 = .ok (.invokevirtual 23, 3) := by decide +kernel
theorem dX7_neverHeld_7 : decode cX7_neverHeld 7 = .ok (.istore_n 2, 1) := by decide +kernel
theorem dX7_neverHeld_8 : decode cX7_neverHeld 8 = .ok (.iconst 0, 1) := by decide +kernel
theorem dX7_neverHeld_9 : decode cX7_neverHeld 9 = .ok (.istore_n 3, 1) := by decide +kernel
theorem dX7_neverHeld_10 : decode cX7_neverHeld 10 = .ok (.iload_n 3, 1) := by decide +kernel
theorem dX7_neverHeld_11 : decode cX7_neverHeld 11 = .ok (.aload_n 0, 1) := by decide +kernel
theorem dX7_neverHeld_12 : decode cX7_neverHeld 12 = .ok (.getfield 9, 3) := by decide +kernel
theorem dX7_neverHeld_15 : decode cX7_neverHeld 15 = .ok (.getfield 54, 3) := by decide +kernel
theorem dX7_neverHeld_18 : decode cX7_neverHeld 18 = .ok (.if_icmp .gt 20, 3) := by decide +kernel
theorem dX7_neverHeld_21 : decode cX7_neverHeld 21 = .ok (.iload_n 2, 1) := by decide +kernel
theorem dX7_neverHeld_22 : decode cX7_neverHeld 22 = .ok (.aload_n 0, 1) := by decide +kernel
theorem dX7_neverHeld_23 : decode cX7_neverHeld 23 = .ok (.iload_n 1, 1) := by decide +kernel
theorem dX7_neverHeld_24 : decode cX7_neverHeld 24 = .ok (.iload_n 3, 1) := by decide +kernel
theorem dX7_neverHeld_25 : decode cX7_neverHeld 25 = .ok (.invokevirtual 61, 3) := by decide +kernel
theorem dX7_neverHeld_28 : decode cX7_neverHeld 28 = .ok (.iconst (-1), 1) := by decide +kernel
theorem dX7_neverHeld_29 : decode cX7_neverHeld 29 = .ok (.ixor, 1) := by decide +kernel
theorem dX7_neverHeld_30 : decode cX7_neverHeld 30 = .ok (.iand, 1) := by decide +kernel
theorem dX7_neverHeld_31 : decode cX7_neverHeld 31 = .ok (.istore_n 2, 1) := by decide +kernel
theorem dX7_neverHeld_32 : decode cX7_neverHeld 32 = .ok (.iinc 3 1, 3) := by decide +kernel
theorem dX7_neverHeld_35 : decode cX7_neverHeld 35 = .ok (.goto (-25), 3) := by decide +kernel
theorem dX7_neverHeld_38 : decode cX7_neverHeld 38 = .ok (.iload_n 2, 1) := by decide +kernel
theorem dX7_neverHeld_39 : decode cX7_neverHeld 39 = .ok (.ireturn, 1) := by decide +kernel
theorem dX7_fullestHour_0 : decode cX7_fullestHour 0 = .ok (.iconst 0, 1) := by decide +kernel
theorem dX7_fullestHour_1 : decode cX7_fullestHour 1 = .ok (.istore_n 2, 1) := by decide +kernel
theorem dX7_fullestHour_2 : decode cX7_fullestHour 2 = .ok (.iconst 0, 1) := by decide +kernel
theorem dX7_fullestHour_3 : decode cX7_fullestHour 3 = .ok (.istore_n 3, 1) := by decide +kernel
theorem dX7_fullestHour_4 : decode cX7_fullestHour 4 = .ok (.iconst 0, 1) := by decide +kernel
theorem dX7_fullestHour_5 : decode cX7_fullestHour 5 = .ok (.istore 4, 2) := by decide +kernel
theorem dX7_fullestHour_7 : decode cX7_fullestHour 7 = .ok (.iload 4, 2) := by decide +kernel
theorem dX7_fullestHour_9 : decode cX7_fullestHour 9 = .ok (.aload_n 0, 1) := by decide +kernel
theorem dX7_fullestHour_10 : decode cX7_fullestHour 10 = .ok (.getfield 9, 3) := by decide +kernel
theorem dX7_fullestHour_13 : decode cX7_fullestHour 13 = .ok (.getfield 54, 3) := by decide +kernel
theorem dX7_fullestHour_16 : decode cX7_fullestHour 16 = .ok (.if_icmp .gt 33, 3) := by decide +kernel
theorem dX7_fullestHour_19 : decode cX7_fullestHour 19 = .ok (.aload_n 0, 1) := by decide +kernel
theorem dX7_fullestHour_20 : decode cX7_fullestHour 20 = .ok (.iload_n 1, 1) := by decide +kernel
theorem dX7_fullestHour_21 : decode cX7_fullestHour 21 = .ok (.iload 4, 2) := by decide +kernel
theorem dX7_fullestHour_23 : decode cX7_fullestHour 23 = .ok (.invokevirtual 61, 3) := by decide +kernel
theorem dX7_fullestHour_26 : decode cX7_fullestHour 26 = .ok (.invokestatic 39, 3) := by decide +kernel
theorem dX7_fullestHour_29 : decode cX7_fullestHour 29 = .ok (.istore 5, 2) := by decide +kernel
theorem dX7_fullestHour_31 : decode cX7_fullestHour 31 = .ok (.iload 5, 2) := by decide +kernel
theorem dX7_fullestHour_33 : decode cX7_fullestHour 33 = .ok (.iload_n 3, 1) := by decide +kernel
theorem dX7_fullestHour_34 : decode cX7_fullestHour 34 = .ok (.if_icmp .le 9, 3) := by decide +kernel
theorem dX7_fullestHour_37 : decode cX7_fullestHour 37 = .ok (.iload 5, 2) := by decide +kernel
theorem dX7_fullestHour_39 : decode cX7_fullestHour 39 = .ok (.istore_n 3, 1) := by decide +kernel
theorem dX7_fullestHour_40 : decode cX7_fullestHour 40 = .ok (.iload 4, 2) := by decide +kernel
theorem dX7_fullestHour_42 : decode cX7_fullestHour 42 = .ok (.istore_n 2, 1) := by decide +kernel
theorem dX7_fullestHour_43 : decode cX7_fullestHour 43 = .ok (.iinc 4 1, 3) := by decide +kernel
theorem dX7_fullestHour_46 : decode cX7_fullestHour 46 = .ok (.goto (-39), 3) := by decide +kernel
theorem dX7_fullestHour_49 : decode cX7_fullestHour 49 = .ok (.iload_n 2, 1) := by decide +kernel
theorem dX7_fullestHour_50 : decode cX7_fullestHour 50 = .ok (.ireturn, 1) := by decide +kernel
theorem dX7_samplesForOne_0 : decode cX7_samplesForOne 0 = .ok (.aload_n 0, 1) := by decide +kernel
theorem dX7_samplesForOne_1 : decode cX7_samplesForOne 1 = .ok (.iconst 1, 1) := by decide +kernel
theorem dX7_samplesForOne_2 : decode cX7_samplesForOne 2 = .ok (.iload_n 1, 1) := by decide +kernel
theorem dX7_samplesForOne_3 : decode cX7_samplesForOne 3 = .ok (.invokevirtual 61, 3) := by decide +kernel
theorem dX7_samplesForOne_6 : decode cX7_samplesForOne 6 = .ok (.invokestatic 39, 3) := by decide +kernel
theorem dX7_samplesForOne_9 : decode cX7_samplesForOne 9 = .ok (.istore_n 3, 1) := by decide +kernel
theorem dX7_samplesForOne_10 : decode cX7_samplesForOne 10 = .ok (.aload_n 0, 1) := by decide +kernel
theorem dX7_samplesForOne_11 : decode cX7_samplesForOne 11 = .ok (.iconst 2, 1) := by decide +kernel
theorem dX7_samplesForOne_12 : decode cX7_samplesForOne 12 = .ok (.iload_n 1, 1) := by decide +kernel
theorem dX7_samplesForOne_13 : decode cX7_samplesForOne 13 = .ok (.invokevirtual 61, 3) := by decide +kernel
theorem dX7_samplesForOne_16 : decode cX7_samplesForOne 16 = .ok (.invokestatic 39, 3) := by decide +kernel
theorem dX7_samplesForOne_19 : decode cX7_samplesForOne 19 = .ok (.istore 4, 2) := by decide +kernel
theorem dX7_samplesForOne_21 : decode cX7_samplesForOne 21 = .ok (.aload_n 0, 1) := by decide +kernel
theorem dX7_samplesForOne_22 : decode cX7_samplesForOne 22 = .ok (.iload_n 1, 1) := by decide +kernel
theorem dX7_samplesForOne_23 : decode cX7_samplesForOne 23 = .ok (.invokevirtual 122, 3) := by decide +kernel
theorem dX7_samplesForOne_26 : decode cX7_samplesForOne 26 = .ok (.iload_n 3, 1) := by decide +kernel
theorem dX7_samplesForOne_27 : decode cX7_samplesForOne 27 = .ok (.isub, 1) := by decide +kernel
theorem dX7_samplesForOne_28 : decode cX7_samplesForOne 28 = .ok (.iload 4, 2) := by decide +kernel
theorem dX7_samplesForOne_30 : decode cX7_samplesForOne 30 = .ok (.isub, 1) := by decide +kernel
theorem dX7_samplesForOne_31 : decode cX7_samplesForOne 31 = .ok (.istore 5, 2) := by decide +kernel
theorem dX7_samplesForOne_33 : decode cX7_samplesForOne 33 = .ok (.lconst 0, 1) := by decide +kernel
theorem dX7_samplesForOne_34 : decode cX7_samplesForOne 34 = .ok (.lstore 6, 2) := by decide +kernel
theorem dX7_samplesForOne_36 : decode cX7_samplesForOne 36 = .ok (.iconst 1, 1) := by decide +kernel
theorem dX7_samplesForOne_37 : decode cX7_samplesForOne 37 = .ok (.istore 8, 2) := by decide +kernel
theorem dX7_samplesForOne_39 : decode cX7_samplesForOne 39 = .ok (.iload 8, 2) := by decide +kernel
theorem dX7_samplesForOne_41 : decode cX7_samplesForOne 41 = .ok (.iload_n 3, 1) := by decide +kernel
theorem dX7_samplesForOne_42 : decode cX7_samplesForOne 42 = .ok (.if_icmp .gt 64, 3) := by decide +kernel
theorem dX7_samplesForOne_45 : decode cX7_samplesForOne 45 = .ok (.iconst 0, 1) := by decide +kernel
theorem dX7_samplesForOne_46 : decode cX7_samplesForOne 46 = .ok (.istore 9, 2) := by decide +kernel
theorem dX7_samplesForOne_48 : decode cX7_samplesForOne 48 = .ok (.iload 9, 2) := by decide +kernel
theorem dX7_samplesForOne_50 : decode cX7_samplesForOne 50 = .ok (.iload 4, 2) := by decide +kernel
theorem dX7_samplesForOne_52 : decode cX7_samplesForOne 52 = .ok (.if_icmp .gt 48, 3) := by decide +kernel
theorem dX7_samplesForOne_55 : decode cX7_samplesForOne 55 = .ok (.iload 9, 2) := by decide +kernel
theorem dX7_samplesForOne_57 : decode cX7_samplesForOne 57 = .ok (.iload 8, 2) := by decide +kernel
theorem dX7_samplesForOne_59 : decode cX7_samplesForOne 59 = .ok (.if_icmp .ge 41, 3) := by decide +kernel
theorem dX7_samplesForOne_62 : decode cX7_samplesForOne 62 = .ok (.lload 6, 2) := by decide +kernel
theorem dX7_samplesForOne_64 : decode cX7_samplesForOne 64 = .ok (.iload_n 3, 1) := by decide +kernel
theorem dX7_samplesForOne_65 : decode cX7_samplesForOne 65 = .ok (.iload 8, 2) := by decide +kernel
theorem dX7_samplesForOne_67 : decode cX7_samplesForOne 67 = .ok (.invokestatic 125, 3) := by decide +kernel
theorem dX7_samplesForOne_70 : decode cX7_samplesForOne 70 = .ok (.iload 4, 2) := by decide +kernel
theorem dX7_samplesForOne_72 : decode cX7_samplesForOne 72 = .ok (.iload 9, 2) := by decide +kernel
theorem dX7_samplesForOne_74 : decode cX7_samplesForOne 74 = .ok (.invokestatic 125, 3) := by decide +kernel
theorem dX7_samplesForOne_77 : decode cX7_samplesForOne 77 = .ok (.lmul, 1) := by decide +kernel
theorem dX7_samplesForOne_78 : decode cX7_samplesForOne 78 = .ok (.iload 5, 2) := by decide +kernel
theorem dX7_samplesForOne_80 : decode cX7_samplesForOne 80 = .ok (.iload_n 2, 1) := by decide +kernel
theorem dX7_samplesForOne_81 : decode cX7_samplesForOne 81 = .ok (.iload 8, 2) := by decide +kernel
theorem dX7_samplesForOne_83 : decode cX7_samplesForOne 83 = .ok (.isub, 1) := by decide +kernel
theorem dX7_samplesForOne_84 : decode cX7_samplesForOne 84 = .ok (.iload 9, 2) := by decide +kernel
theorem dX7_samplesForOne_86 : decode cX7_samplesForOne 86 = .ok (.isub, 1) := by decide +kernel
theorem dX7_samplesForOne_87 : decode cX7_samplesForOne 87 = .ok (.invokestatic 125, 3) := by decide +kernel
theorem dX7_samplesForOne_90 : decode cX7_samplesForOne 90 = .ok (.lmul, 1) := by decide +kernel
theorem dX7_samplesForOne_91 : decode cX7_samplesForOne 91 = .ok (.ladd, 1) := by decide +kernel
theorem dX7_samplesForOne_92 : decode cX7_samplesForOne 92 = .ok (.lstore 6, 2) := by decide +kernel
theorem dX7_samplesForOne_94 : decode cX7_samplesForOne 94 = .ok (.iinc 9 1, 3) := by decide +kernel
theorem dX7_samplesForOne_97 : decode cX7_samplesForOne 97 = .ok (.goto (-49), 3) := by decide +kernel
theorem dX7_samplesForOne_100 : decode cX7_samplesForOne 100 = .ok (.iinc 8 1, 3) := by decide +kernel
theorem dX7_samplesForOne_103 : decode cX7_samplesForOne 103 = .ok (.goto (-64), 3) := by decide +kernel
theorem dX7_samplesForOne_106 : decode cX7_samplesForOne 106 = .ok (.lload 6, 2) := by decide +kernel
theorem dX7_samplesForOne_108 : decode cX7_samplesForOne 108 = .ok (.lreturn, 1) := by decide +kernel
theorem dX7_leastSure_0 : decode cX7_leastSure 0 = .ok (.iconst 1, 1) := by decide +kernel
theorem dX7_leastSure_1 : decode cX7_leastSure 1 = .ok (.istore_n 2, 1) := by decide +kernel
theorem dX7_leastSure_2 : decode cX7_leastSure 2 = .ok (.iload_n 2, 1) := by decide +kernel
theorem dX7_leastSure_3 : decode cX7_leastSure 3 = .ok (.aload_n 0, 1) := by decide +kernel
theorem dX7_leastSure_4 : decode cX7_leastSure 4 = .ok (.iload_n 1, 1) := by decide +kernel
theorem dX7_leastSure_5 : decode cX7_leastSure 5 = .ok (.invokevirtual 122, 3) := by decide +kernel
theorem dX7_leastSure_8 : decode cX7_leastSure 8 = .ok (.if_icmp .gt 34, 3) := by decide +kernel
theorem dX7_leastSure_11 : decode cX7_leastSure 11 = .ok (.ldc2_w 129, 3) := by decide +kernel
theorem dX7_leastSure_14 : decode cX7_leastSure 14 = .ok (.aload_n 0, 1) := by decide +kernel
theorem dX7_leastSure_15 : decode cX7_leastSure 15 = .ok (.iload_n 1, 1) := by decide +kernel
theorem dX7_leastSure_16 : decode cX7_leastSure 16 = .ok (.iload_n 2, 1) := by decide +kernel
theorem dX7_leastSure_17 : decode cX7_leastSure 17 = .ok (.invokevirtual 131, 3) := by decide +kernel
theorem dX7_leastSure_20 : decode cX7_leastSure 20 = .ok (.lmul, 1) := by decide +kernel
theorem dX7_leastSure_21 : decode cX7_leastSure 21 = .ok (.aload_n 0, 1) := by decide +kernel
theorem dX7_leastSure_22 : decode cX7_leastSure 22 = .ok (.iload_n 1, 1) := by decide +kernel
theorem dX7_leastSure_23 : decode cX7_leastSure 23 = .ok (.invokevirtual 122, 3) := by decide +kernel
theorem dX7_leastSure_26 : decode cX7_leastSure 26 = .ok (.iload_n 2, 1) := by decide +kernel
theorem dX7_leastSure_27 : decode cX7_leastSure 27 = .ok (.invokestatic 125, 3) := by decide +kernel
theorem dX7_leastSure_30 : decode cX7_leastSure 30 = .ok (.lcmp, 1) := by decide +kernel
theorem dX7_leastSure_31 : decode cX7_leastSure 31 = .ok (.ifCond .lt 5, 3) := by decide +kernel
theorem dX7_leastSure_34 : decode cX7_leastSure 34 = .ok (.iload_n 2, 1) := by decide +kernel
theorem dX7_leastSure_35 : decode cX7_leastSure 35 = .ok (.ireturn, 1) := by decide +kernel
theorem dX7_leastSure_36 : decode cX7_leastSure 36 = .ok (.iinc 2 1, 3) := by decide +kernel
theorem dX7_leastSure_39 : decode cX7_leastSure 39 = .ok (.goto (-37), 3) := by decide +kernel
theorem dX7_leastSure_42 : decode cX7_leastSure 42 = .ok (.iconst (-1), 1) := by decide +kernel
theorem dX7_leastSure_43 : decode cX7_leastSure 43 = .ok (.ireturn, 1) := by decide +kernel
set_option maxHeartbeats 4000000 in
set_option maxRecDepth 100000 in
theorem ctX7_aliveAt (l : Launch) (D : va_G) (k : Nat → ClassId) (z : Nat → Nat) (o : Nat → Nat) (clawNow : Int32) (charder : Int32) (ctold : Int32) (creply : Int32) (cwet : Int32) (f72 : Nat → Int32) (f69 : Nat → Int32) (f70 : Nat → Int32) (f71 : Nat → Int32) (glines : Int32) (ghours : Nat) (glaw : Int32) (godds : Int32) (grows : Nat) (gheads : Nat) (gsayings : Nat) (gslugs : Nat) (gacts : Nat) (f26 : Nat → Int32) (f29 : Nat → Int32) (f30 : Nat → Int32) (f31 : Nat → Int32) (f32 : Nat → Int32) (p0 : Nat) (hghours : ghours ≤ 16) (hgrows : grows ≤ 4) (hgheads : gheads ≤ 12) (hgsayings : gsayings ≤ 8) (hgslugs : gslugs ≤ 4) (hgacts : gacts ≤ 30) (hp0 : p0 ≤ 16) : RO l yX7_aliveAt cX7_aliveAt 2 (some .int) 1 D k z [.ref (o 7), .int (nI p0)] [((o 7), .inr (7, [.ref (o 3), .ref (o 4), .ref (o 5)])), ((o 5), .inr (1, [.ref (o 3), .ref (o 4), .int clawNow, .int charder, .int ctold, .int creply, .int cwet, .ref (o 72)])), ((o 72), .inl (k 0, 17, .inl f72)), ((o 4), .inr (3, [.ref (o 69), .ref (o 70), .ref (o 71)])), ((o 69), .inl (k 0, 17, .inl f69)), ((o 70), .inl (k 0, 17, .inl f70)), ((o 71), .inl (k 0, 17, .inl f71)), ((o 3), .inr (2, [.int glines, .int (nI ghours), .int glaw, .int godds, .int (nI grows), .int (nI gheads), .int (nI gsayings), .int (nI gslugs), .int (nI gacts), .ref (o 26), .ref (o 27), .ref (o 28), .ref (o 29), .ref (o 30), .ref (o 31), .ref (o 32), .ref (o 33), .ref (o 34), .ref (o 35)])), ((o 26), .inl (k 0, 12, .inl f26)), ((o 29), .inl (k 0, 12, .inl f29)), ((o 30), .inl (k 0, 12, .inl f30)), ((o 31), .inl (k 0, 12, .inl f31)), ((o 32), .inl (k 0, 4, .inl f32))] (Qi (fun r : Int32 => True)) := by
  refine RO.of (by decide) (Nat.le_of_ble_eq_true rfl) ?_
  intro p e s m below meth c ls A B args Q S hr hlk hQ hK hP hDW hZ hAB hBA hA hS hl
  have hx := S.1
  have hb := S.2.1
  have hl : lv_has ls 2 [(0, .ref (o 7)), (1, .int (nI p0))] := hl
  refine lv_aload_n hx hb dX7_aliveAt_0 rfl (lv_at hl 0 rfl) ?_
  refine x_get S hK hP 0 rfl cfX7 0 lkX7_9 (by decide) rfl dX7_aliveAt_1 ?_
  refine x_roVi (As := []) S hK hP hDW hZ hAB hBA hS hA hl mwX2_everyone lkX7_23 (ctX2_everyone l D k z o glines ghours glaw godds grows gheads gsayings gslugs gacts (by omega) (by omega) (by omega) (by omega) (by omega) (by omega)) [7] rfl (by decide) rfl rfl rfl rfl rfl ⟨Nat.le_of_ble_eq_true rfl, Nat.le_of_ble_eq_true rfl, Nat.le_of_ble_eq_true rfl⟩ dX7_aliveAt_4 ⟨Nat.le_of_ble_eq_true rfl, Nat.le_of_ble_eq_true rfl⟩ (fun r_1 H locs hr_1 hP hS => ?_)
  obtain rfl := hr_1
  refine lv_aload_n hx hb dX7_aliveAt_7 rfl (lv_at hl 0 rfl) ?_
  refine x_get S hK hP 0 rfl cfX7 1 lkX7_15 (by decide) rfl dX7_aliveAt_8 ?_
  refine x_get S hK hP 3 rfl cfX3 1 lkX7_29 (by decide) rfl dX7_aliveAt_11 ?_
  refine lv_iload_n hx hb dX7_aliveAt_14 rfl (lv_at hl 1 rfl) ?_
  refine x_iald S hK hP 5 rfl (vp_in_nI (by omega) (by decide)) dX7_aliveAt_15 ?_
  refine lv_topi (fun v_3 ev_3 => ?_)
  refine lv_iconst (v := (-1)) hx hb dX7_aliveAt_16 (by decide) ?_
  refine lv_ixor hx hb dX7_aliveAt_17 ?_
  refine lv_topi (fun v_4 ev_4 => ?_)
  refine lv_iand hx hb dX7_aliveAt_18 ?_
  refine lv_topi (fun v_5 ev_5 => ?_)
  exact x_reti S hr hlk hQ hS () trivial x_T dX7_aliveAt_19

set_option maxHeartbeats 4000000 in
set_option maxRecDepth 100000 in
theorem ctX7_living (l : Launch) (D : va_G) (k : Nat → ClassId) (z : Nat → Nat) (o : Nat → Nat) (clawNow : Int32) (charder : Int32) (ctold : Int32) (creply : Int32) (cwet : Int32) (f72 : Nat → Int32) (f69 : Nat → Int32) (f70 : Nat → Int32) (f71 : Nat → Int32) (glines : Int32) (ghours : Nat) (glaw : Int32) (godds : Int32) (grows : Nat) (gheads : Nat) (gsayings : Nat) (gslugs : Nat) (gacts : Nat) (f26 : Nat → Int32) (f29 : Nat → Int32) (f30 : Nat → Int32) (f31 : Nat → Int32) (f32 : Nat → Int32) (p0 : Nat) (hghours : ghours ≤ 16) (hgrows : grows ≤ 4) (hgheads : gheads ≤ 12) (hgsayings : gsayings ≤ 8) (hgslugs : gslugs ≤ 4) (hgacts : gacts ≤ 30) (hp0 : p0 ≤ 16) : RO l yX7_living cX7_living 2 (some .int) 2 D k z [.ref (o 7), .int (nI p0)] [((o 7), .inr (7, [.ref (o 3), .ref (o 4), .ref (o 5)])), ((o 5), .inr (1, [.ref (o 3), .ref (o 4), .int clawNow, .int charder, .int ctold, .int creply, .int cwet, .ref (o 72)])), ((o 72), .inl (k 0, 17, .inl f72)), ((o 4), .inr (3, [.ref (o 69), .ref (o 70), .ref (o 71)])), ((o 69), .inl (k 0, 17, .inl f69)), ((o 70), .inl (k 0, 17, .inl f70)), ((o 71), .inl (k 0, 17, .inl f71)), ((o 3), .inr (2, [.int glines, .int (nI ghours), .int glaw, .int godds, .int (nI grows), .int (nI gheads), .int (nI gsayings), .int (nI gslugs), .int (nI gacts), .ref (o 26), .ref (o 27), .ref (o 28), .ref (o 29), .ref (o 30), .ref (o 31), .ref (o 32), .ref (o 33), .ref (o 34), .ref (o 35)])), ((o 26), .inl (k 0, 12, .inl f26)), ((o 29), .inl (k 0, 12, .inl f29)), ((o 30), .inl (k 0, 12, .inl f30)), ((o 31), .inl (k 0, 12, .inl f31)), ((o 32), .inl (k 0, 4, .inl f32))] (Qi (fun r : Int32 => (∃ q : Nat, r = nI q ∧ q ≤ 63))) := by
  refine RO.of (by decide) (Nat.le_of_ble_eq_true rfl) ?_
  intro p e s m below meth c ls A B args Q S hr hlk hQ hK hP hDW hZ hAB hBA hA hS hl
  have hx := S.1
  have hb := S.2.1
  have hl : lv_has ls 2 [(0, .ref (o 7)), (1, .int (nI p0))] := hl
  refine lv_aload_n hx hb dX7_living_0 rfl (lv_at hl 0 rfl) ?_
  refine lv_iload_n hx hb dX7_living_1 rfl (lv_at hl 1 rfl) ?_
  refine x_roVi (As := [.int (nI p0)]) S hK hP hDW hZ hAB hBA hS hA hl mwX7_aliveAt lkX7_35 (ctX7_aliveAt l D k z o clawNow charder ctold creply cwet f72 f69 f70 f71 glines ghours glaw godds grows gheads gsayings gslugs gacts f26 f29 f30 f31 f32 p0 (by omega) (by omega) (by omega) (by omega) (by omega) (by omega) (by omega)) [0, 1, 2, 3, 4, 5, 6, 7, 8, 9, 10, 11, 12] rfl (by decide) rfl rfl rfl rfl rfl ⟨Nat.le_of_ble_eq_true rfl, Nat.le_of_ble_eq_true rfl, Nat.le_of_ble_eq_true rfl⟩ dX7_living_2 ⟨Nat.le_of_ble_eq_true rfl, Nat.le_of_ble_eq_true rfl⟩ (fun r_1 H locs hr_1 hP hS => ?_)
  refine x_roSi (As := [.int r_1]) S hK hP hDW hZ hAB hBA hS hA hl mwJ6_bitCount_0f7a4 lkX7_39 (ctJ6_bitCount_0f7a4 l D k z r_1 ) [] rfl (by decide) rfl rfl ⟨Nat.le_of_ble_eq_true rfl, Nat.le_of_ble_eq_true rfl, Nat.le_of_ble_eq_true rfl⟩ dX7_living_5 ⟨Nat.le_of_ble_eq_true rfl, Nat.le_of_ble_eq_true rfl⟩ (fun r_3 H locs hr_3 hP hS => ?_)
  obtain ⟨n_5, rfl, hn_5⟩ := hr_3
  exact x_reti S hr hlk hQ hS () ⟨n_5, rfl, (by omega)⟩ x_T dX7_living_8

set_option maxHeartbeats 4000000 in
set_option maxRecDepth 100000 in
theorem ctX7_holdersAt (l : Launch) (D : va_G) (k : Nat → ClassId) (z : Nat → Nat) (o : Nat → Nat) (clawNow : Int32) (charder : Int32) (ctold : Int32) (creply : Int32) (cwet : Int32) (f72 : Nat → Int32) (f69 : Nat → Int32) (f70 : Nat → Int32) (f71 : Nat → Int32) (glines : Int32) (ghours : Nat) (glaw : Int32) (godds : Int32) (grows : Nat) (gheads : Nat) (gsayings : Nat) (gslugs : Nat) (gacts : Nat) (f26 : Nat → Int32) (f29 : Nat → Int32) (f30 : Nat → Int32) (f31 : Nat → Int32) (f32 : Nat → Int32) (p0 : Int32) (p1 : Nat) (hghours : ghours ≤ 16) (hgrows : grows ≤ 4) (hgheads : gheads ≤ 12) (hgsayings : gsayings ≤ 8) (hgslugs : gslugs ≤ 4) (hgacts : gacts ≤ 30) (hp1 : p1 ≤ 16) : RO l yX7_holdersAt cX7_holdersAt 4 (some .int) 2 D k z [.ref (o 7), .int p0, .int (nI p1)] [((o 7), .inr (7, [.ref (o 3), .ref (o 4), .ref (o 5)])), ((o 5), .inr (1, [.ref (o 3), .ref (o 4), .int clawNow, .int charder, .int ctold, .int creply, .int cwet, .ref (o 72)])), ((o 72), .inl (k 0, 17, .inl f72)), ((o 4), .inr (3, [.ref (o 69), .ref (o 70), .ref (o 71)])), ((o 69), .inl (k 0, 17, .inl f69)), ((o 70), .inl (k 0, 17, .inl f70)), ((o 71), .inl (k 0, 17, .inl f71)), ((o 3), .inr (2, [.int glines, .int (nI ghours), .int glaw, .int godds, .int (nI grows), .int (nI gheads), .int (nI gsayings), .int (nI gslugs), .int (nI gacts), .ref (o 26), .ref (o 27), .ref (o 28), .ref (o 29), .ref (o 30), .ref (o 31), .ref (o 32), .ref (o 33), .ref (o 34), .ref (o 35)])), ((o 26), .inl (k 0, 12, .inl f26)), ((o 29), .inl (k 0, 12, .inl f29)), ((o 30), .inl (k 0, 12, .inl f30)), ((o 31), .inl (k 0, 12, .inl f31)), ((o 32), .inl (k 0, 4, .inl f32))] (Qi (fun r : Int32 => True)) := by
  refine RO.of (by decide) (Nat.le_of_ble_eq_true rfl) ?_
  intro p e s m below meth c ls A B args Q S hr hlk hQ hK hP hDW hZ hAB hBA hA hS hl
  have hx := S.1
  have hb := S.2.1
  have hl : lv_has ls 4 [(0, .ref (o 7)), (1, .int p0), (2, .int (nI p1))] := hl
  refine lv_aload_n hx hb dX7_holdersAt_0 rfl (lv_at hl 0 rfl) ?_
  refine x_get S hK hP 0 rfl cfX7 2 lkX7_19 (by decide) rfl dX7_holdersAt_1 ?_
  refine x_get S hK hP 1 rfl cfX1 7 lkX7_44 (by decide) rfl dX7_holdersAt_4 ?_
  refine lv_iload_n hx hb dX7_holdersAt_7 rfl (lv_at hl 2 rfl) ?_
  refine x_iald S hK hP 2 rfl (vp_in_nI (by omega) (by decide)) dX7_holdersAt_8 ?_
  refine lv_topi (fun v_1 ev_1 => ?_)
  refine lv_istore_n (lv' := [(3, .int v_1), (0, .ref (o 7)), (1, .int p0), (2, .int (nI p1))]) hx hb dX7_holdersAt_9 rfl hl (by decide) rfl (fun ls hl => ?_)
  refine lv_iload_n hx hb dX7_holdersAt_10 rfl (lv_at hl 2 rfl) ?_
  refine lv_if_ne (tgt := 29) hx hb dX7_holdersAt_11 (by decide) (fun c_2 => ?_) (fun c_2 => ?_)
  · skip
    refine lv_iload_n hx hb dX7_holdersAt_29 rfl (lv_at hl 0 rfl) ?_
    refine lv_iload_n hx hb dX7_holdersAt_30 rfl (lv_at hl 2 rfl) ?_
    refine x_roSNi (As := [.int v_1, .int p0]) S hK hP hDW hZ hAB hBA hS hA hl mwX10_holdersIn lkX7_49 (ctX10_holdersIn l D k z v_1 p0 ) [] rfl (by decide) rfl rfl ⟨Nat.le_of_ble_eq_true rfl, Nat.le_of_ble_eq_true rfl, Nat.le_of_ble_eq_true rfl⟩ dX7_holdersAt_31 ⟨Nat.le_of_ble_eq_true rfl, Nat.le_of_ble_eq_true rfl⟩ (fun r_3 H locs hr_3 hP hS => ?_)
    exact x_reti S hr hlk hQ hS () trivial x_T dX7_holdersAt_34
  · skip
    refine lv_aload_n hx hb dX7_holdersAt_14 rfl (lv_at hl 1 rfl) ?_
    refine lv_iload_n hx hb dX7_holdersAt_15 rfl (lv_at hl 3 rfl) ?_
    refine x_roVi (As := [.int (nI p1)]) S hK hP hDW hZ hAB hBA hS hA hl mwX7_aliveAt lkX7_35 (ctX7_aliveAt l D k z o clawNow charder ctold creply cwet f72 f69 f70 f71 glines ghours glaw godds grows gheads gsayings gslugs gacts f26 f29 f30 f31 f32 p1 (by omega) (by omega) (by omega) (by omega) (by omega) (by omega) (by omega)) [0, 1, 2, 3, 4, 5, 6, 7, 8, 9, 10, 11, 12] rfl (by decide) rfl rfl rfl rfl rfl ⟨Nat.le_of_ble_eq_true rfl, Nat.le_of_ble_eq_true rfl, Nat.le_of_ble_eq_true rfl⟩ dX7_holdersAt_16 ⟨Nat.le_of_ble_eq_true rfl, Nat.le_of_ble_eq_true rfl⟩ (fun r_5 H locs hr_5 hP hS => ?_)
    refine lv_iload_n hx hb dX7_holdersAt_19 rfl (lv_at hl 0 rfl) ?_
    refine lv_iload_n hx hb dX7_holdersAt_20 rfl (lv_at hl 0 rfl) ?_
    refine lv_bipush (v := 16) hx hb dX7_holdersAt_21 (by decide) ?_
    refine lv_iushr hx hb dX7_holdersAt_23 rfl ?_
    refine lv_topi (fun v_7 ev_7 => ?_)
    refine lv_ior hx hb dX7_holdersAt_24 ?_
    refine lv_topi (fun v_8 ev_8 => ?_)
    refine lv_iconst (v := (-1)) hx hb dX7_holdersAt_25 (by decide) ?_
    refine lv_ixor hx hb dX7_holdersAt_26 ?_
    refine lv_topi (fun v_9 ev_9 => ?_)
    refine lv_iand hx hb dX7_holdersAt_27 ?_
    refine lv_topi (fun v_10 ev_10 => ?_)
    exact x_reti S hr hlk hQ hS () trivial x_T dX7_holdersAt_28

set_option maxHeartbeats 4000000 in
set_option maxRecDepth 100000 in
theorem ctX7_turnedAt (l : Launch) (D : va_G) (k : Nat → ClassId) (z : Nat → Nat) (o : Nat → Nat) (clawNow : Int32) (charder : Int32) (ctold : Int32) (creply : Int32) (cwet : Int32) (f72 : Nat → Int32) (f69 : Nat → Int32) (f70 : Nat → Int32) (f71 : Nat → Int32) (glines : Int32) (ghours : Nat) (glaw : Int32) (godds : Int32) (grows : Nat) (gheads : Nat) (gsayings : Nat) (gslugs : Nat) (gacts : Nat) (f26 : Nat → Int32) (f29 : Nat → Int32) (f30 : Nat → Int32) (f31 : Nat → Int32) (f32 : Nat → Int32) (p0 : Nat) (hghours : ghours ≤ 16) (hgrows : grows ≤ 4) (hgheads : gheads ≤ 12) (hgsayings : gsayings ≤ 8) (hgslugs : gslugs ≤ 4) (hgacts : gacts ≤ 30) (hp0 : p0 ≤ 16) : RO l yX7_turnedAt cX7_turnedAt 4 (some .int) 0 D k z [.ref (o 7), .int (nI p0)] [((o 7), .inr (7, [.ref (o 3), .ref (o 4), .ref (o 5)])), ((o 5), .inr (1, [.ref (o 3), .ref (o 4), .int clawNow, .int charder, .int ctold, .int creply, .int cwet, .ref (o 72)])), ((o 72), .inl (k 0, 17, .inl f72)), ((o 4), .inr (3, [.ref (o 69), .ref (o 70), .ref (o 71)])), ((o 69), .inl (k 0, 17, .inl f69)), ((o 70), .inl (k 0, 17, .inl f70)), ((o 71), .inl (k 0, 17, .inl f71)), ((o 3), .inr (2, [.int glines, .int (nI ghours), .int glaw, .int godds, .int (nI grows), .int (nI gheads), .int (nI gsayings), .int (nI gslugs), .int (nI gacts), .ref (o 26), .ref (o 27), .ref (o 28), .ref (o 29), .ref (o 30), .ref (o 31), .ref (o 32), .ref (o 33), .ref (o 34), .ref (o 35)])), ((o 26), .inl (k 0, 12, .inl f26)), ((o 29), .inl (k 0, 12, .inl f29)), ((o 30), .inl (k 0, 12, .inl f30)), ((o 31), .inl (k 0, 12, .inl f31)), ((o 32), .inl (k 0, 4, .inl f32))] (Qi (fun r : Int32 => True)) := by
  refine RO.of (by decide) (Nat.le_of_ble_eq_true rfl) ?_
  intro p e s m below meth c ls A B args Q S hr hlk hQ hK hP hDW hZ hAB hBA hA hS hl
  have hx := S.1
  have hb := S.2.1
  have hl : lv_has ls 4 [(0, .ref (o 7)), (1, .int (nI p0))] := hl
  refine lv_iload_n hx hb dX7_turnedAt_0 rfl (lv_at hl 1 rfl) ?_
  refine lv_if_ne (tgt := 8) hx hb dX7_turnedAt_1 (by decide) (fun c_1 => ?_) (fun c_1 => ?_)
  · skip
    have c_1 : ¬ p0 = 0 := fun q => c_1 ((ni_eq rfl (by decide) (by omega) (by omega)).mpr q)
    refine lv_aload_n hx hb dX7_turnedAt_8 rfl (lv_at hl 0 rfl) ?_
    refine x_get S hK hP 0 rfl cfX7 2 lkX7_19 (by decide) rfl dX7_turnedAt_9 ?_
    refine x_get S hK hP 1 rfl cfX1 7 lkX7_44 (by decide) rfl dX7_turnedAt_12 ?_
    refine lv_iload_n hx hb dX7_turnedAt_15 rfl (lv_at hl 1 rfl) ?_
    refine lv_iconst (v := 1) hx hb dX7_turnedAt_16 (by decide) ?_
    refine lv_isub hx hb dX7_turnedAt_17 ?_
    refine x_is (nI (p0 - 1)) (ni_sub rfl (by decide) (by omega)) ?_
    refine x_iald S hK hP 2 rfl (vp_in_nI (by omega) (by decide)) dX7_turnedAt_18 ?_
    refine lv_topi (fun v_2 ev_2 => ?_)
    refine lv_istore_n (lv' := [(2, .int v_2), (0, .ref (o 7)), (1, .int (nI p0))]) hx hb dX7_turnedAt_19 rfl hl (by decide) rfl (fun ls hl => ?_)
    refine lv_aload_n hx hb dX7_turnedAt_20 rfl (lv_at hl 1 rfl) ?_
    refine x_get S hK hP 0 rfl cfX7 2 lkX7_19 (by decide) rfl dX7_turnedAt_21 ?_
    refine x_get S hK hP 1 rfl cfX1 7 lkX7_44 (by decide) rfl dX7_turnedAt_24 ?_
    refine lv_iload_n hx hb dX7_turnedAt_27 rfl (lv_at hl 2 rfl) ?_
    refine x_iald S hK hP 2 rfl (vp_in_nI (by omega) (by decide)) dX7_turnedAt_28 ?_
    refine lv_topi (fun v_3 ev_3 => ?_)
    refine lv_iload_n hx hb dX7_turnedAt_29 rfl (lv_at hl 0 rfl) ?_
    refine lv_ixor hx hb dX7_turnedAt_30 ?_
    refine lv_topi (fun v_4 ev_4 => ?_)
    refine lv_istore_n (lv' := [(3, .int v_4), (2, .int v_2), (0, .ref (o 7)), (1, .int (nI p0))]) hx hb dX7_turnedAt_31 rfl hl (by decide) rfl (fun ls hl => ?_)
    refine lv_iload_n hx hb dX7_turnedAt_32 rfl (lv_at hl 0 rfl) ?_
    refine lv_iload_n hx hb dX7_turnedAt_33 rfl (lv_at hl 0 rfl) ?_
    refine lv_bipush (v := 16) hx hb dX7_turnedAt_34 (by decide) ?_
    refine lv_iushr hx hb dX7_turnedAt_36 rfl ?_
    refine lv_topi (fun v_5 ev_5 => ?_)
    refine lv_ior hx hb dX7_turnedAt_37 ?_
    refine lv_topi (fun v_6 ev_6 => ?_)
    refine lv_ldc hx hb S.2.2.2.1 (S.2.2.2.2 _ lkX7_53) dX7_turnedAt_38 ?_
    refine lv_iand hx hb dX7_turnedAt_40 ?_
    refine lv_topi (fun v_7 ev_7 => ?_)
    exact x_reti S hr hlk hQ hS () trivial x_T dX7_turnedAt_41
  · skip
    have c_1 : p0 = 0 := (ni_eq rfl (by decide) (by omega) (by omega)).mp c_1
    refine lv_iconst (v := 0) hx hb dX7_turnedAt_4 (by decide) ?_
    refine lv_goto (tgt := 19) hx hb dX7_turnedAt_5 (by decide) ?_
    refine lv_istore_n (lv' := [(2, .int 0), (0, .ref (o 7)), (1, .int (nI p0))]) hx hb dX7_turnedAt_19 rfl hl (by decide) rfl (fun ls hl => ?_)
    refine lv_aload_n hx hb dX7_turnedAt_20 rfl (lv_at hl 1 rfl) ?_
    refine x_get S hK hP 0 rfl cfX7 2 lkX7_19 (by decide) rfl dX7_turnedAt_21 ?_
    refine x_get S hK hP 1 rfl cfX1 7 lkX7_44 (by decide) rfl dX7_turnedAt_24 ?_
    refine lv_iload_n hx hb dX7_turnedAt_27 rfl (lv_at hl 2 rfl) ?_
    refine x_iald S hK hP 2 rfl (vp_in_nI (by omega) (by decide)) dX7_turnedAt_28 ?_
    refine lv_topi (fun v_8 ev_8 => ?_)
    refine lv_iload_n hx hb dX7_turnedAt_29 rfl (lv_at hl 0 rfl) ?_
    refine lv_ixor hx hb dX7_turnedAt_30 ?_
    refine lv_topi (fun v_9 ev_9 => ?_)
    refine lv_istore_n (lv' := [(3, .int v_9), (2, .int 0), (0, .ref (o 7)), (1, .int (nI p0))]) hx hb dX7_turnedAt_31 rfl hl (by decide) rfl (fun ls hl => ?_)
    refine lv_iload_n hx hb dX7_turnedAt_32 rfl (lv_at hl 0 rfl) ?_
    refine lv_iload_n hx hb dX7_turnedAt_33 rfl (lv_at hl 0 rfl) ?_
    refine lv_bipush (v := 16) hx hb dX7_turnedAt_34 (by decide) ?_
    refine lv_iushr hx hb dX7_turnedAt_36 rfl ?_
    refine lv_topi (fun v_10 ev_10 => ?_)
    refine lv_ior hx hb dX7_turnedAt_37 ?_
    refine lv_topi (fun v_11 ev_11 => ?_)
    refine lv_ldc hx hb S.2.2.2.1 (S.2.2.2.2 _ lkX7_53) dX7_turnedAt_38 ?_
    refine lv_iand hx hb dX7_turnedAt_40 ?_
    refine lv_topi (fun v_12 ev_12 => ?_)
    exact x_reti S hr hlk hQ hS () trivial x_T dX7_turnedAt_41

set_option maxHeartbeats 4000000 in
set_option maxRecDepth 100000 in
theorem ctX7_changesOf (l : Launch) (D : va_G) (k : Nat → ClassId) (z : Nat → Nat) (o : Nat → Nat) (clawNow : Int32) (charder : Int32) (ctold : Int32) (creply : Int32) (cwet : Int32) (f72 : Nat → Int32) (f69 : Nat → Int32) (f70 : Nat → Int32) (f71 : Nat → Int32) (glines : Int32) (ghours : Nat) (glaw : Int32) (godds : Int32) (grows : Nat) (gheads : Nat) (gsayings : Nat) (gslugs : Nat) (gacts : Nat) (f26 : Nat → Int32) (f29 : Nat → Int32) (f30 : Nat → Int32) (f31 : Nat → Int32) (f32 : Nat → Int32) (p0 : Int32) (hghours : ghours ≤ 16) (hgrows : grows ≤ 4) (hgheads : gheads ≤ 12) (hgsayings : gsayings ≤ 8) (hgslugs : gslugs ≤ 4) (hgacts : gacts ≤ 30) : RO l yX7_changesOf cX7_changesOf 4 (some .int) 1 D k z [.ref (o 7), .int p0] [((o 7), .inr (7, [.ref (o 3), .ref (o 4), .ref (o 5)])), ((o 5), .inr (1, [.ref (o 3), .ref (o 4), .int clawNow, .int charder, .int ctold, .int creply, .int cwet, .ref (o 72)])), ((o 72), .inl (k 0, 17, .inl f72)), ((o 4), .inr (3, [.ref (o 69), .ref (o 70), .ref (o 71)])), ((o 69), .inl (k 0, 17, .inl f69)), ((o 70), .inl (k 0, 17, .inl f70)), ((o 71), .inl (k 0, 17, .inl f71)), ((o 3), .inr (2, [.int glines, .int (nI ghours), .int glaw, .int godds, .int (nI grows), .int (nI gheads), .int (nI gsayings), .int (nI gslugs), .int (nI gacts), .ref (o 26), .ref (o 27), .ref (o 28), .ref (o 29), .ref (o 30), .ref (o 31), .ref (o 32), .ref (o 33), .ref (o 34), .ref (o 35)])), ((o 26), .inl (k 0, 12, .inl f26)), ((o 29), .inl (k 0, 12, .inl f29)), ((o 30), .inl (k 0, 12, .inl f30)), ((o 31), .inl (k 0, 12, .inl f31)), ((o 32), .inl (k 0, 4, .inl f32))] (Qi (fun r : Int32 => True)) := by
  refine RO.of (by decide) (Nat.le_of_ble_eq_true rfl) ?_
  intro p e s m below meth c ls A B args Q S hr hlk hQ hK hP hDW hZ hAB hBA hA hS hl
  have hx := S.1
  have hb := S.2.1
  have hl : lv_has ls 4 [(0, .ref (o 7)), (1, .int p0)] := hl
  refine lv_iconst (v := 0) hx hb dX7_changesOf_0 (by decide) ?_
  refine lv_istore_n (lv' := [(2, .int 0), (0, .ref (o 7)), (1, .int p0)]) hx hb dX7_changesOf_1 rfl hl (by decide) rfl (fun ls hl => ?_)
  refine lv_iconst (v := 1) hx hb dX7_changesOf_2 (by decide) ?_
  refine lv_istore_n (lv' := [(3, .int 1), (2, .int 0), (0, .ref (o 7)), (1, .int p0)]) hx hb dX7_changesOf_3 rfl hl (by decide) rfl (fun ls hl => ?_)
  have lp_19 : ∀ (nn j_17 : Nat) (x_18 : Int32) (H : Heap) (locs : List Loc) (ls : Array Slot), 1 ≤ j_17 → j_17 ≤ ghours + 1 → ghours + 1 - j_17 < nn → va_P D vwCl [((o 7), .inr (7, [.ref (o 3), .ref (o 4), .ref (o 5)])), ((o 5), .inr (1, [.ref (o 3), .ref (o 4), .int clawNow, .int charder, .int ctold, .int creply, .int cwet, .ref (o 72)])), ((o 72), .inl (k 0, 17, .inl f72)), ((o 4), .inr (3, [.ref (o 69), .ref (o 70), .ref (o 71)])), ((o 69), .inl (k 0, 17, .inl f69)), ((o 70), .inl (k 0, 17, .inl f70)), ((o 71), .inl (k 0, 17, .inl f71)), ((o 3), .inr (2, [.int glines, .int (nI ghours), .int glaw, .int godds, .int (nI grows), .int (nI gheads), .int (nI gsayings), .int (nI gslugs), .int (nI gacts), .ref (o 26), .ref (o 27), .ref (o 28), .ref (o 29), .ref (o 30), .ref (o 31), .ref (o 32), .ref (o 33), .ref (o 34), .ref (o 35)])), ((o 26), .inl (k 0, 12, .inl f26)), ((o 29), .inl (k 0, 12, .inl f29)), ((o 30), .inl (k 0, 12, .inl f30)), ((o 31), .inl (k 0, 12, .inl f31)), ((o 32), .inl (k 0, 4, .inl f32))] H → va_S A s.heap H locs → lv_has ls 4 [(3, .int (nI j_17)), (2, .int x_18), (0, .ref (o 7)), (1, .int p0)] → W p l e (Rm 1 0 0) s m args below meth c H locs 0 0 Q (F0 m 4 ls []) := by
    intro nn
    induction nn with
    | zero => intro j_17 x_18 H locs ls hlj_17 hjj_17 hnj_17; exact absurd hnj_17 (by omega)
    | succ nn ihj_17 =>
      intro j_17 x_18 H locs ls hlj_17 hjj_17 hnj_17 hP hS hl
      refine lv_iload_n hx hb dX7_changesOf_4 rfl (lv_at hl 0 rfl) ?_
      refine lv_aload_n hx hb dX7_changesOf_5 rfl (lv_at hl 2 rfl) ?_
      refine x_get S hK hP 0 rfl cfX7 0 lkX7_9 (by decide) rfl dX7_changesOf_6 ?_
      refine x_get S hK hP 7 rfl cfX2 1 lkX7_54 (by decide) rfl dX7_changesOf_9 ?_
      refine lv_icmp_gt (tgt := 33) hx hb dX7_changesOf_12 (by decide) (fun c_20 => ?_) (fun c_20 => ?_)
      · skip
        have c_20 : ghours < j_17 := (ni_lt rfl rfl (by omega) (by omega)).mp c_20
        refine lv_iload_n hx hb dX7_changesOf_33 rfl (lv_at hl 1 rfl) ?_
        exact x_reti S hr hlk hQ hS () trivial x_T dX7_changesOf_34
      · skip
        have c_20 : ¬ ghours < j_17 := fun q => c_20 ((ni_lt rfl rfl (by omega) (by omega)).mpr q)
        refine lv_iload_n hx hb dX7_changesOf_15 rfl (lv_at hl 1 rfl) ?_
        refine lv_aload_n hx hb dX7_changesOf_16 rfl (lv_at hl 2 rfl) ?_
        refine lv_iload_n hx hb dX7_changesOf_17 rfl (lv_at hl 0 rfl) ?_
        refine x_roVi (As := [.int (nI j_17)]) S hK hP hDW hZ hAB hBA hS hA hl mwX7_turnedAt lkX7_58 (ctX7_turnedAt l D k z o clawNow charder ctold creply cwet f72 f69 f70 f71 glines ghours glaw godds grows gheads gsayings gslugs gacts f26 f29 f30 f31 f32 j_17 (by omega) (by omega) (by omega) (by omega) (by omega) (by omega) (by omega)) [0, 1, 2, 3, 4, 5, 6, 7, 8, 9, 10, 11, 12] rfl (by decide) rfl rfl rfl rfl rfl ⟨Nat.le_of_ble_eq_true rfl, Nat.le_of_ble_eq_true rfl, Nat.le_of_ble_eq_true rfl⟩ dX7_changesOf_18 ⟨Nat.le_of_ble_eq_true rfl, Nat.le_of_ble_eq_true rfl⟩ (fun r_21 H locs hr_21 hP hS => ?_)
        refine lv_iload_n hx hb dX7_changesOf_21 rfl (lv_at hl 3 rfl) ?_
        refine lv_iushr hx hb dX7_changesOf_22 rfl ?_
        refine lv_topi (fun v_23 ev_23 => ?_)
        refine lv_iconst (v := 1) hx hb dX7_changesOf_23 (by decide) ?_
        refine lv_iand hx hb dX7_changesOf_24 ?_
        refine lv_topi (fun v_24 ev_24 => ?_)
        refine lv_iadd hx hb dX7_changesOf_25 ?_
        refine lv_topi (fun v_25 ev_25 => ?_)
        refine lv_istore_n (lv' := [(2, .int v_25), (3, .int (nI j_17)), (0, .ref (o 7)), (1, .int p0)]) hx hb dX7_changesOf_26 rfl hl (by decide) rfl (fun ls hl => ?_)
        refine lv_iinc (v := (nI (j_17 + 1))) (lv' := [(3, .int (nI (j_17 + 1))), (2, .int v_25), (0, .ref (o 7)), (1, .int p0)]) hx hb dX7_changesOf_27 hl (k := 1) rfl (ni_inc _) (by decide) rfl (fun ls hl => ?_)
        refine lv_goto (tgt := 4) hx hb dX7_changesOf_30 (by decide) ?_
        exact ihj_17 (j_17 + 1) v_25 _ _ _ (by omega) (by omega) (by omega) hP hS (lv_sub hl [0, 1, 2, 3] rfl)
  exact lp_19 (ghours + 1 + 1) 1 0 _ _ _ (by omega) (by omega) (by omega) hP hS (lv_sub hl [0, 1, 2, 3] rfl)

set_option maxHeartbeats 4000000 in
set_option maxRecDepth 100000 in
theorem ctX7_firstHour (l : Launch) (D : va_G) (k : Nat → ClassId) (z : Nat → Nat) (o : Nat → Nat) (clawNow : Int32) (charder : Int32) (ctold : Int32) (creply : Int32) (cwet : Int32) (f72 : Nat → Int32) (f69 : Nat → Int32) (f70 : Nat → Int32) (f71 : Nat → Int32) (glines : Int32) (ghours : Nat) (glaw : Int32) (godds : Int32) (grows : Nat) (gheads : Nat) (gsayings : Nat) (gslugs : Nat) (gacts : Nat) (f26 : Nat → Int32) (f29 : Nat → Int32) (f30 : Nat → Int32) (f31 : Nat → Int32) (f32 : Nat → Int32) (p0 : Int32) (p1 : Int32) (hghours : ghours ≤ 16) (hgrows : grows ≤ 4) (hgheads : gheads ≤ 12) (hgsayings : gsayings ≤ 8) (hgslugs : gslugs ≤ 4) (hgacts : gacts ≤ 30) : RO l yX7_firstHour cX7_firstHour 4 (some .int) 3 D k z [.ref (o 7), .int p0, .int p1] [((o 7), .inr (7, [.ref (o 3), .ref (o 4), .ref (o 5)])), ((o 5), .inr (1, [.ref (o 3), .ref (o 4), .int clawNow, .int charder, .int ctold, .int creply, .int cwet, .ref (o 72)])), ((o 72), .inl (k 0, 17, .inl f72)), ((o 4), .inr (3, [.ref (o 69), .ref (o 70), .ref (o 71)])), ((o 69), .inl (k 0, 17, .inl f69)), ((o 70), .inl (k 0, 17, .inl f70)), ((o 71), .inl (k 0, 17, .inl f71)), ((o 3), .inr (2, [.int glines, .int (nI ghours), .int glaw, .int godds, .int (nI grows), .int (nI gheads), .int (nI gsayings), .int (nI gslugs), .int (nI gacts), .ref (o 26), .ref (o 27), .ref (o 28), .ref (o 29), .ref (o 30), .ref (o 31), .ref (o 32), .ref (o 33), .ref (o 34), .ref (o 35)])), ((o 26), .inl (k 0, 12, .inl f26)), ((o 29), .inl (k 0, 12, .inl f29)), ((o 30), .inl (k 0, 12, .inl f30)), ((o 31), .inl (k 0, 12, .inl f31)), ((o 32), .inl (k 0, 4, .inl f32))] (Qi (fun r : Int32 => True)) := by
  refine RO.of (by decide) (Nat.le_of_ble_eq_true rfl) ?_
  intro p e s m below meth c ls A B args Q S hr hlk hQ hK hP hDW hZ hAB hBA hA hS hl
  have hx := S.1
  have hb := S.2.1
  have hl : lv_has ls 4 [(0, .ref (o 7)), (1, .int p0), (2, .int p1)] := hl
  refine lv_iconst (v := 0) hx hb dX7_firstHour_0 (by decide) ?_
  refine lv_istore_n (lv' := [(3, .int 0), (0, .ref (o 7)), (1, .int p0), (2, .int p1)]) hx hb dX7_firstHour_1 rfl hl (by decide) rfl (fun ls hl => ?_)
  have lp_9 : ∀ (nn j_8 : Nat)  (H : Heap) (locs : List Loc) (ls : Array Slot), j_8 ≤ ghours + 1 → ghours + 1 - j_8 < nn → va_P D vwCl [((o 7), .inr (7, [.ref (o 3), .ref (o 4), .ref (o 5)])), ((o 5), .inr (1, [.ref (o 3), .ref (o 4), .int clawNow, .int charder, .int ctold, .int creply, .int cwet, .ref (o 72)])), ((o 72), .inl (k 0, 17, .inl f72)), ((o 4), .inr (3, [.ref (o 69), .ref (o 70), .ref (o 71)])), ((o 69), .inl (k 0, 17, .inl f69)), ((o 70), .inl (k 0, 17, .inl f70)), ((o 71), .inl (k 0, 17, .inl f71)), ((o 3), .inr (2, [.int glines, .int (nI ghours), .int glaw, .int godds, .int (nI grows), .int (nI gheads), .int (nI gsayings), .int (nI gslugs), .int (nI gacts), .ref (o 26), .ref (o 27), .ref (o 28), .ref (o 29), .ref (o 30), .ref (o 31), .ref (o 32), .ref (o 33), .ref (o 34), .ref (o 35)])), ((o 26), .inl (k 0, 12, .inl f26)), ((o 29), .inl (k 0, 12, .inl f29)), ((o 30), .inl (k 0, 12, .inl f30)), ((o 31), .inl (k 0, 12, .inl f31)), ((o 32), .inl (k 0, 4, .inl f32))] H → va_S A s.heap H locs → lv_has ls 4 [(3, .int (nI j_8)), (0, .ref (o 7)), (1, .int p0), (2, .int p1)] → W p l e (Rm 3 0 0) s m args below meth c H locs 0 0 Q (F0 m 2 ls []) := by
    intro nn
    induction nn with
    | zero => intro j_8  H locs ls hjj_8 hnj_8; exact absurd hnj_8 (by omega)
    | succ nn ihj_8 =>
      intro j_8  H locs ls hjj_8 hnj_8 hP hS hl
      refine lv_iload_n hx hb dX7_firstHour_2 rfl (lv_at hl 0 rfl) ?_
      refine lv_aload_n hx hb dX7_firstHour_3 rfl (lv_at hl 1 rfl) ?_
      refine x_get S hK hP 0 rfl cfX7 0 lkX7_9 (by decide) rfl dX7_firstHour_4 ?_
      refine x_get S hK hP 7 rfl cfX2 1 lkX7_54 (by decide) rfl dX7_firstHour_7 ?_
      refine lv_icmp_gt (tgt := 32) hx hb dX7_firstHour_10 (by decide) (fun c_10 => ?_) (fun c_10 => ?_)
      · skip
        have c_10 : ghours < j_8 := (ni_lt rfl rfl (by omega) (by omega)).mp c_10
        refine lv_iconst (v := (-1)) hx hb dX7_firstHour_32 (by decide) ?_
        exact x_reti S hr hlk hQ hS () trivial x_T dX7_firstHour_33
      · skip
        have c_10 : ¬ ghours < j_8 := fun q => c_10 ((ni_lt rfl rfl (by omega) (by omega)).mpr q)
        refine lv_aload_n hx hb dX7_firstHour_13 rfl (lv_at hl 1 rfl) ?_
        refine lv_iload_n hx hb dX7_firstHour_14 rfl (lv_at hl 3 rfl) ?_
        refine lv_iload_n hx hb dX7_firstHour_15 rfl (lv_at hl 0 rfl) ?_
        refine x_roVi (As := [.int p1, .int (nI j_8)]) S hK hP hDW hZ hAB hBA hS hA hl mwX7_holdersAt lkX7_61 (ctX7_holdersAt l D k z o clawNow charder ctold creply cwet f72 f69 f70 f71 glines ghours glaw godds grows gheads gsayings gslugs gacts f26 f29 f30 f31 f32 p1 j_8 (by omega) (by omega) (by omega) (by omega) (by omega) (by omega) (by omega)) [0, 1, 2, 3, 4, 5, 6, 7, 8, 9, 10, 11, 12] rfl (by decide) rfl rfl rfl rfl rfl ⟨Nat.le_of_ble_eq_true rfl, Nat.le_of_ble_eq_true rfl, Nat.le_of_ble_eq_true rfl⟩ dX7_firstHour_16 ⟨Nat.le_of_ble_eq_true rfl, Nat.le_of_ble_eq_true rfl⟩ (fun r_11 H locs hr_11 hP hS => ?_)
        refine lv_iload_n hx hb dX7_firstHour_19 rfl (lv_at hl 2 rfl) ?_
        refine lv_iand hx hb dX7_firstHour_20 ?_
        refine lv_topi (fun v_13 ev_13 => ?_)
        refine lv_if_eq (tgt := 26) hx hb dX7_firstHour_21 (by decide) (fun c_14 => ?_) (fun c_14 => ?_)
        · skip
          refine lv_iinc (v := (nI (j_8 + 1))) (lv' := [(3, .int (nI (j_8 + 1))), (0, .ref (o 7)), (1, .int p0), (2, .int p1)]) hx hb dX7_firstHour_26 hl (k := 0) rfl (ni_inc _) (by decide) rfl (fun ls hl => ?_)
          refine lv_goto (tgt := 2) hx hb dX7_firstHour_29 (by decide) ?_
          exact ihj_8 (j_8 + 1)  _ _ _ (by omega) (by omega) hP hS (lv_sub hl [0, 1, 2, 3] rfl)
        · skip
          refine lv_iload_n hx hb dX7_firstHour_24 rfl (lv_at hl 0 rfl) ?_
          exact x_reti S hr hlk hQ hS () trivial x_T dX7_firstHour_25
  exact lp_9 (ghours + 1 + 1) 0  _ _ _ (by omega) (by omega) hP hS (lv_sub hl [0, 1, 2, 3] rfl)

set_option maxHeartbeats 4000000 in
set_option maxRecDepth 100000 in
theorem ctX7_hoursOf (l : Launch) (D : va_G) (k : Nat → ClassId) (z : Nat → Nat) (o : Nat → Nat) (clawNow : Int32) (charder : Int32) (ctold : Int32) (creply : Int32) (cwet : Int32) (f72 : Nat → Int32) (f69 : Nat → Int32) (f70 : Nat → Int32) (f71 : Nat → Int32) (glines : Int32) (ghours : Nat) (glaw : Int32) (godds : Int32) (grows : Nat) (gheads : Nat) (gsayings : Nat) (gslugs : Nat) (gacts : Nat) (f26 : Nat → Int32) (f29 : Nat → Int32) (f30 : Nat → Int32) (f31 : Nat → Int32) (f32 : Nat → Int32) (p0 : Int32) (p1 : Int32) (hghours : ghours ≤ 16) (hgrows : grows ≤ 4) (hgheads : gheads ≤ 12) (hgsayings : gsayings ≤ 8) (hgslugs : gslugs ≤ 4) (hgacts : gacts ≤ 30) : RO l yX7_hoursOf cX7_hoursOf 5 (some .int) 3 D k z [.ref (o 7), .int p0, .int p1] [((o 7), .inr (7, [.ref (o 3), .ref (o 4), .ref (o 5)])), ((o 5), .inr (1, [.ref (o 3), .ref (o 4), .int clawNow, .int charder, .int ctold, .int creply, .int cwet, .ref (o 72)])), ((o 72), .inl (k 0, 17, .inl f72)), ((o 4), .inr (3, [.ref (o 69), .ref (o 70), .ref (o 71)])), ((o 69), .inl (k 0, 17, .inl f69)), ((o 70), .inl (k 0, 17, .inl f70)), ((o 71), .inl (k 0, 17, .inl f71)), ((o 3), .inr (2, [.int glines, .int (nI ghours), .int glaw, .int godds, .int (nI grows), .int (nI gheads), .int (nI gsayings), .int (nI gslugs), .int (nI gacts), .ref (o 26), .ref (o 27), .ref (o 28), .ref (o 29), .ref (o 30), .ref (o 31), .ref (o 32), .ref (o 33), .ref (o 34), .ref (o 35)])), ((o 26), .inl (k 0, 12, .inl f26)), ((o 29), .inl (k 0, 12, .inl f29)), ((o 30), .inl (k 0, 12, .inl f30)), ((o 31), .inl (k 0, 12, .inl f31)), ((o 32), .inl (k 0, 4, .inl f32))] (Qi (fun r : Int32 => True)) := by
  refine RO.of (by decide) (Nat.le_of_ble_eq_true rfl) ?_
  intro p e s m below meth c ls A B args Q S hr hlk hQ hK hP hDW hZ hAB hBA hA hS hl
  have hx := S.1
  have hb := S.2.1
  have hl : lv_has ls 5 [(0, .ref (o 7)), (1, .int p0), (2, .int p1)] := hl
  refine lv_iconst (v := 0) hx hb dX7_hoursOf_0 (by decide) ?_
  refine lv_istore_n (lv' := [(3, .int 0), (0, .ref (o 7)), (1, .int p0), (2, .int p1)]) hx hb dX7_hoursOf_1 rfl hl (by decide) rfl (fun ls hl => ?_)
  refine lv_iconst (v := 0) hx hb dX7_hoursOf_2 (by decide) ?_
  refine lv_istore (lv' := [(4, .int 0), (3, .int 0), (0, .ref (o 7)), (1, .int p0), (2, .int p1)]) hx hb dX7_hoursOf_3 hl (by decide) rfl (fun ls hl => ?_)
  have lp_19 : ∀ (nn j_17 : Nat) (x_18 : Int32) (H : Heap) (locs : List Loc) (ls : Array Slot), j_17 ≤ ghours + 1 → ghours + 1 - j_17 < nn → va_P D vwCl [((o 7), .inr (7, [.ref (o 3), .ref (o 4), .ref (o 5)])), ((o 5), .inr (1, [.ref (o 3), .ref (o 4), .int clawNow, .int charder, .int ctold, .int creply, .int cwet, .ref (o 72)])), ((o 72), .inl (k 0, 17, .inl f72)), ((o 4), .inr (3, [.ref (o 69), .ref (o 70), .ref (o 71)])), ((o 69), .inl (k 0, 17, .inl f69)), ((o 70), .inl (k 0, 17, .inl f70)), ((o 71), .inl (k 0, 17, .inl f71)), ((o 3), .inr (2, [.int glines, .int (nI ghours), .int glaw, .int godds, .int (nI grows), .int (nI gheads), .int (nI gsayings), .int (nI gslugs), .int (nI gacts), .ref (o 26), .ref (o 27), .ref (o 28), .ref (o 29), .ref (o 30), .ref (o 31), .ref (o 32), .ref (o 33), .ref (o 34), .ref (o 35)])), ((o 26), .inl (k 0, 12, .inl f26)), ((o 29), .inl (k 0, 12, .inl f29)), ((o 30), .inl (k 0, 12, .inl f30)), ((o 31), .inl (k 0, 12, .inl f31)), ((o 32), .inl (k 0, 4, .inl f32))] H → va_S A s.heap H locs → lv_has ls 5 [(4, .int (nI j_17)), (3, .int x_18), (0, .ref (o 7)), (1, .int p0), (2, .int p1)] → W p l e (Rm 3 0 0) s m args below meth c H locs 0 0 Q (F0 m 5 ls []) := by
    intro nn
    induction nn with
    | zero => intro j_17 x_18 H locs ls hjj_17 hnj_17; exact absurd hnj_17 (by omega)
    | succ nn ihj_17 =>
      intro j_17 x_18 H locs ls hjj_17 hnj_17 hP hS hl
      refine lv_iload hx hb dX7_hoursOf_5 (lv_at hl 0 rfl) ?_
      refine lv_aload_n hx hb dX7_hoursOf_7 rfl (lv_at hl 2 rfl) ?_
      refine x_get S hK hP 0 rfl cfX7 0 lkX7_9 (by decide) rfl dX7_hoursOf_8 ?_
      refine x_get S hK hP 7 rfl cfX2 1 lkX7_54 (by decide) rfl dX7_hoursOf_11 ?_
      refine lv_icmp_gt (tgt := 37) hx hb dX7_hoursOf_14 (by decide) (fun c_20 => ?_) (fun c_20 => ?_)
      · skip
        have c_20 : ghours < j_17 := (ni_lt rfl rfl (by omega) (by omega)).mp c_20
        refine lv_iload_n hx hb dX7_hoursOf_37 rfl (lv_at hl 1 rfl) ?_
        exact x_reti S hr hlk hQ hS () trivial x_T dX7_hoursOf_38
      · skip
        have c_20 : ¬ ghours < j_17 := fun q => c_20 ((ni_lt rfl rfl (by omega) (by omega)).mpr q)
        refine lv_iload_n hx hb dX7_hoursOf_17 rfl (lv_at hl 1 rfl) ?_
        refine lv_aload_n hx hb dX7_hoursOf_18 rfl (lv_at hl 2 rfl) ?_
        refine lv_iload_n hx hb dX7_hoursOf_19 rfl (lv_at hl 4 rfl) ?_
        refine lv_iload hx hb dX7_hoursOf_20 (lv_at hl 0 rfl) ?_
        refine x_roVi (As := [.int p1, .int (nI j_17)]) S hK hP hDW hZ hAB hBA hS hA hl mwX7_holdersAt lkX7_61 (ctX7_holdersAt l D k z o clawNow charder ctold creply cwet f72 f69 f70 f71 glines ghours glaw godds grows gheads gsayings gslugs gacts f26 f29 f30 f31 f32 p1 j_17 (by omega) (by omega) (by omega) (by omega) (by omega) (by omega) (by omega)) [0, 1, 2, 3, 4, 5, 6, 7, 8, 9, 10, 11, 12] rfl (by decide) rfl rfl rfl rfl rfl ⟨Nat.le_of_ble_eq_true rfl, Nat.le_of_ble_eq_true rfl, Nat.le_of_ble_eq_true rfl⟩ dX7_hoursOf_22 ⟨Nat.le_of_ble_eq_true rfl, Nat.le_of_ble_eq_true rfl⟩ (fun r_21 H locs hr_21 hP hS => ?_)
        refine lv_iload_n hx hb dX7_hoursOf_25 rfl (lv_at hl 3 rfl) ?_
        refine lv_iushr hx hb dX7_hoursOf_26 rfl ?_
        refine lv_topi (fun v_23 ev_23 => ?_)
        refine lv_iconst (v := 1) hx hb dX7_hoursOf_27 (by decide) ?_
        refine lv_iand hx hb dX7_hoursOf_28 ?_
        refine lv_topi (fun v_24 ev_24 => ?_)
        refine lv_iadd hx hb dX7_hoursOf_29 ?_
        refine lv_topi (fun v_25 ev_25 => ?_)
        refine lv_istore_n (lv' := [(3, .int v_25), (4, .int (nI j_17)), (0, .ref (o 7)), (1, .int p0), (2, .int p1)]) hx hb dX7_hoursOf_30 rfl hl (by decide) rfl (fun ls hl => ?_)
        refine lv_iinc (v := (nI (j_17 + 1))) (lv' := [(4, .int (nI (j_17 + 1))), (3, .int v_25), (0, .ref (o 7)), (1, .int p0), (2, .int p1)]) hx hb dX7_hoursOf_31 hl (k := 1) rfl (ni_inc _) (by decide) rfl (fun ls hl => ?_)
        refine lv_goto (tgt := 5) hx hb dX7_hoursOf_34 (by decide) ?_
        exact ihj_17 (j_17 + 1) v_25 _ _ _ (by omega) (by omega) hP hS (lv_sub hl [0, 1, 2, 3, 4] rfl)
  exact lp_19 (ghours + 1 + 1) 0 0 _ _ _ (by omega) (by omega) hP hS (lv_sub hl [0, 1, 2, 3, 4] rfl)

set_option maxHeartbeats 4000000 in
set_option maxRecDepth 100000 in
theorem ctX7_firstView (l : Launch) (D : va_G) (k : Nat → ClassId) (z : Nat → Nat) (o : Nat → Nat) (clawNow : Int32) (charder : Int32) (ctold : Int32) (creply : Int32) (cwet : Int32) (f72 : Nat → Int32) (f69 : Nat → Int32) (f70 : Nat → Int32) (f71 : Nat → Int32) (glines : Int32) (ghours : Nat) (glaw : Int32) (godds : Int32) (grows : Nat) (gheads : Nat) (gsayings : Nat) (gslugs : Nat) (gacts : Nat) (f26 : Nat → Int32) (f29 : Nat → Int32) (f30 : Nat → Int32) (f31 : Nat → Int32) (f32 : Nat → Int32) (p0 : Int32) (hghours : ghours ≤ 16) (hgrows : grows ≤ 4) (hgheads : gheads ≤ 12) (hgsayings : gsayings ≤ 8) (hgslugs : gslugs ≤ 4) (hgacts : gacts ≤ 30) : RO l yX7_firstView cX7_firstView 3 (some .int) 2 D k z [.ref (o 7), .int p0] [((o 7), .inr (7, [.ref (o 3), .ref (o 4), .ref (o 5)])), ((o 5), .inr (1, [.ref (o 3), .ref (o 4), .int clawNow, .int charder, .int ctold, .int creply, .int cwet, .ref (o 72)])), ((o 72), .inl (k 0, 17, .inl f72)), ((o 4), .inr (3, [.ref (o 69), .ref (o 70), .ref (o 71)])), ((o 69), .inl (k 0, 17, .inl f69)), ((o 70), .inl (k 0, 17, .inl f70)), ((o 71), .inl (k 0, 17, .inl f71)), ((o 3), .inr (2, [.int glines, .int (nI ghours), .int glaw, .int godds, .int (nI grows), .int (nI gheads), .int (nI gsayings), .int (nI gslugs), .int (nI gacts), .ref (o 26), .ref (o 27), .ref (o 28), .ref (o 29), .ref (o 30), .ref (o 31), .ref (o 32), .ref (o 33), .ref (o 34), .ref (o 35)])), ((o 26), .inl (k 0, 12, .inl f26)), ((o 29), .inl (k 0, 12, .inl f29)), ((o 30), .inl (k 0, 12, .inl f30)), ((o 31), .inl (k 0, 12, .inl f31)), ((o 32), .inl (k 0, 4, .inl f32))] (Qi (fun r : Int32 => True)) := by
  refine RO.of (by decide) (Nat.le_of_ble_eq_true rfl) ?_
  intro p e s m below meth c ls A B args Q S hr hlk hQ hK hP hDW hZ hAB hBA hA hS hl
  have hx := S.1
  have hb := S.2.1
  have hl : lv_has ls 3 [(0, .ref (o 7)), (1, .int p0)] := hl
  refine lv_iconst (v := 0) hx hb dX7_firstView_0 (by decide) ?_
  refine lv_istore_n (lv' := [(2, .int 0), (0, .ref (o 7)), (1, .int p0)]) hx hb dX7_firstView_1 rfl hl (by decide) rfl (fun ls hl => ?_)
  have lp_10 : ∀ (nn j_9 : Nat)  (H : Heap) (locs : List Loc) (ls : Array Slot), j_9 ≤ ghours + 1 → ghours + 1 - j_9 < nn → va_P D vwCl [((o 7), .inr (7, [.ref (o 3), .ref (o 4), .ref (o 5)])), ((o 5), .inr (1, [.ref (o 3), .ref (o 4), .int clawNow, .int charder, .int ctold, .int creply, .int cwet, .ref (o 72)])), ((o 72), .inl (k 0, 17, .inl f72)), ((o 4), .inr (3, [.ref (o 69), .ref (o 70), .ref (o 71)])), ((o 69), .inl (k 0, 17, .inl f69)), ((o 70), .inl (k 0, 17, .inl f70)), ((o 71), .inl (k 0, 17, .inl f71)), ((o 3), .inr (2, [.int glines, .int (nI ghours), .int glaw, .int godds, .int (nI grows), .int (nI gheads), .int (nI gsayings), .int (nI gslugs), .int (nI gacts), .ref (o 26), .ref (o 27), .ref (o 28), .ref (o 29), .ref (o 30), .ref (o 31), .ref (o 32), .ref (o 33), .ref (o 34), .ref (o 35)])), ((o 26), .inl (k 0, 12, .inl f26)), ((o 29), .inl (k 0, 12, .inl f29)), ((o 30), .inl (k 0, 12, .inl f30)), ((o 31), .inl (k 0, 12, .inl f31)), ((o 32), .inl (k 0, 4, .inl f32))] H → va_S A s.heap H locs → lv_has ls 3 [(2, .int (nI j_9)), (0, .ref (o 7)), (1, .int p0)] → W p l e (Rm 2 0 0) s m args below meth c H locs 0 0 Q (F0 m 2 ls []) := by
    intro nn
    induction nn with
    | zero => intro j_9  H locs ls hjj_9 hnj_9; exact absurd hnj_9 (by omega)
    | succ nn ihj_9 =>
      intro j_9  H locs ls hjj_9 hnj_9 hP hS hl
      refine lv_iload_n hx hb dX7_firstView_2 rfl (lv_at hl 0 rfl) ?_
      refine lv_aload_n hx hb dX7_firstView_3 rfl (lv_at hl 1 rfl) ?_
      refine x_get S hK hP 0 rfl cfX7 0 lkX7_9 (by decide) rfl dX7_firstView_4 ?_
      refine x_get S hK hP 7 rfl cfX2 1 lkX7_54 (by decide) rfl dX7_firstView_7 ?_
      refine lv_icmp_gt (tgt := 41) hx hb dX7_firstView_10 (by decide) (fun c_11 => ?_) (fun c_11 => ?_)
      · skip
        have c_11 : ghours < j_9 := (ni_lt rfl rfl (by omega) (by omega)).mp c_11
        refine lv_iconst (v := 0) hx hb dX7_firstView_41 (by decide) ?_
        exact x_reti S hr hlk hQ hS () trivial x_T dX7_firstView_42
      · skip
        have c_11 : ¬ ghours < j_9 := fun q => c_11 ((ni_lt rfl rfl (by omega) (by omega)).mpr q)
        refine lv_aload_n hx hb dX7_firstView_13 rfl (lv_at hl 1 rfl) ?_
        refine x_get S hK hP 0 rfl cfX7 2 lkX7_19 (by decide) rfl dX7_firstView_14 ?_
        refine lv_iload_n hx hb dX7_firstView_17 rfl (lv_at hl 2 rfl) ?_
        refine lv_iload_n hx hb dX7_firstView_18 rfl (lv_at hl 0 rfl) ?_
        refine x_roVi (As := [.int p0, .int (nI j_9)]) S hK hP hDW hZ hAB hBA hS hA hl mwX1_viewAt lkX7_64 (ctX1_viewAt_c l D k z o clawNow charder ctold creply cwet f72 f69 f70 f71 glines ghours glaw godds grows gheads gsayings gslugs gacts f26 f30 f31 p0 j_9 (by omega) (by omega) (by omega) (by omega) (by omega) (by omega) (by omega)) [1, 2, 3, 4, 5, 6, 7, 8, 10, 11] rfl (by decide) rfl rfl rfl rfl rfl ⟨Nat.le_of_ble_eq_true rfl, Nat.le_of_ble_eq_true rfl, Nat.le_of_ble_eq_true rfl⟩ dX7_firstView_19 ⟨Nat.le_of_ble_eq_true rfl, Nat.le_of_ble_eq_true rfl⟩ (fun r_12 H locs hr_12 hP hS => ?_)
        refine lv_if_eq (tgt := 35) hx hb dX7_firstView_22 (by decide) (fun c_14 => ?_) (fun c_14 => ?_)
        · skip
          refine lv_iinc (v := (nI (j_9 + 1))) (lv' := [(2, .int (nI (j_9 + 1))), (0, .ref (o 7)), (1, .int p0)]) hx hb dX7_firstView_35 hl (k := 0) rfl (ni_inc _) (by decide) rfl (fun ls hl => ?_)
          refine lv_goto (tgt := 2) hx hb dX7_firstView_38 (by decide) ?_
          exact ihj_9 (j_9 + 1)  _ _ _ (by omega) (by omega) hP hS (lv_sub hl [0, 1, 2] rfl)
        · skip
          refine lv_aload_n hx hb dX7_firstView_25 rfl (lv_at hl 1 rfl) ?_
          refine x_get S hK hP 0 rfl cfX7 2 lkX7_19 (by decide) rfl dX7_firstView_26 ?_
          refine lv_iload_n hx hb dX7_firstView_29 rfl (lv_at hl 2 rfl) ?_
          refine lv_iload_n hx hb dX7_firstView_30 rfl (lv_at hl 0 rfl) ?_
          refine x_roVi (As := [.int p0, .int (nI j_9)]) S hK hP hDW hZ hAB hBA hS hA hl mwX1_viewAt lkX7_64 (ctX1_viewAt_c l D k z o clawNow charder ctold creply cwet f72 f69 f70 f71 glines ghours glaw godds grows gheads gsayings gslugs gacts f26 f30 f31 p0 j_9 (by omega) (by omega) (by omega) (by omega) (by omega) (by omega) (by omega)) [1, 2, 3, 4, 5, 6, 7, 8, 10, 11] rfl (by decide) rfl rfl rfl rfl rfl ⟨Nat.le_of_ble_eq_true rfl, Nat.le_of_ble_eq_true rfl, Nat.le_of_ble_eq_true rfl⟩ dX7_firstView_31 ⟨Nat.le_of_ble_eq_true rfl, Nat.le_of_ble_eq_true rfl⟩ (fun r_15 H locs hr_15 hP hS => ?_)
          exact x_reti S hr hlk hQ hS () trivial x_T dX7_firstView_34
  exact lp_10 (ghours + 1 + 1) 0  _ _ _ (by omega) (by omega) hP hS (lv_sub hl [0, 1, 2] rfl)

set_option maxHeartbeats 4000000 in
set_option maxRecDepth 100000 in
theorem ctX7_mostFickle (l : Launch) (D : va_G) (k : Nat → ClassId) (z : Nat → Nat) (o : Nat → Nat) (clawNow : Int32) (charder : Int32) (ctold : Int32) (creply : Int32) (cwet : Int32) (f72 : Nat → Int32) (f69 : Nat → Int32) (f70 : Nat → Int32) (f71 : Nat → Int32) (glines : Int32) (ghours : Nat) (glaw : Int32) (godds : Int32) (grows : Nat) (gheads : Nat) (gsayings : Nat) (gslugs : Nat) (gacts : Nat) (f26 : Nat → Int32) (f29 : Nat → Int32) (f30 : Nat → Int32) (f31 : Nat → Int32) (f32 : Nat → Int32) (hghours : ghours ≤ 16) (hgrows : grows ≤ 4) (hgheads : gheads ≤ 12) (hgsayings : gsayings ≤ 8) (hgslugs : gslugs ≤ 4) (hgacts : gacts ≤ 30) : RO l yX7_mostFickle cX7_mostFickle 5 (some .int) 2 D k z [.ref (o 7)] [((o 7), .inr (7, [.ref (o 3), .ref (o 4), .ref (o 5)])), ((o 5), .inr (1, [.ref (o 3), .ref (o 4), .int clawNow, .int charder, .int ctold, .int creply, .int cwet, .ref (o 72)])), ((o 72), .inl (k 0, 17, .inl f72)), ((o 4), .inr (3, [.ref (o 69), .ref (o 70), .ref (o 71)])), ((o 69), .inl (k 0, 17, .inl f69)), ((o 70), .inl (k 0, 17, .inl f70)), ((o 71), .inl (k 0, 17, .inl f71)), ((o 3), .inr (2, [.int glines, .int (nI ghours), .int glaw, .int godds, .int (nI grows), .int (nI gheads), .int (nI gsayings), .int (nI gslugs), .int (nI gacts), .ref (o 26), .ref (o 27), .ref (o 28), .ref (o 29), .ref (o 30), .ref (o 31), .ref (o 32), .ref (o 33), .ref (o 34), .ref (o 35)])), ((o 26), .inl (k 0, 12, .inl f26)), ((o 29), .inl (k 0, 12, .inl f29)), ((o 30), .inl (k 0, 12, .inl f30)), ((o 31), .inl (k 0, 12, .inl f31)), ((o 32), .inl (k 0, 4, .inl f32))] (Qi (fun r : Int32 => True)) := by
  refine RO.of (by decide) (Nat.le_of_ble_eq_true rfl) ?_
  intro p e s m below meth c ls A B args Q S hr hlk hQ hK hP hDW hZ hAB hBA hA hS hl
  have hx := S.1
  have hb := S.2.1
  have hl : lv_has ls 5 [(0, .ref (o 7))] := hl
  refine lv_iconst (v := (-1)) hx hb dX7_mostFickle_0 (by decide) ?_
  refine lv_istore_n (lv' := [(1, .int (-1)), (0, .ref (o 7))]) hx hb dX7_mostFickle_1 rfl hl (by decide) rfl (fun ls hl => ?_)
  refine lv_iconst (v := 0) hx hb dX7_mostFickle_2 (by decide) ?_
  refine lv_istore_n (lv' := [(2, .int 0), (1, .int (-1)), (0, .ref (o 7))]) hx hb dX7_mostFickle_3 rfl hl (by decide) rfl (fun ls hl => ?_)
  refine lv_iconst (v := 0) hx hb dX7_mostFickle_4 (by decide) ?_
  refine lv_istore_n (lv' := [(3, .int 0), (2, .int 0), (1, .int (-1)), (0, .ref (o 7))]) hx hb dX7_mostFickle_5 rfl hl (by decide) rfl (fun ls hl => ?_)
  have lp_17 : ∀ (nn j_14 : Nat) (x_15 : Int32) (x_16 : Int32) (H : Heap) (locs : List Loc) (ls : Array Slot), j_14 ≤ gheads → gheads - j_14 < nn → va_P D vwCl [((o 7), .inr (7, [.ref (o 3), .ref (o 4), .ref (o 5)])), ((o 5), .inr (1, [.ref (o 3), .ref (o 4), .int clawNow, .int charder, .int ctold, .int creply, .int cwet, .ref (o 72)])), ((o 72), .inl (k 0, 17, .inl f72)), ((o 4), .inr (3, [.ref (o 69), .ref (o 70), .ref (o 71)])), ((o 69), .inl (k 0, 17, .inl f69)), ((o 70), .inl (k 0, 17, .inl f70)), ((o 71), .inl (k 0, 17, .inl f71)), ((o 3), .inr (2, [.int glines, .int (nI ghours), .int glaw, .int godds, .int (nI grows), .int (nI gheads), .int (nI gsayings), .int (nI gslugs), .int (nI gacts), .ref (o 26), .ref (o 27), .ref (o 28), .ref (o 29), .ref (o 30), .ref (o 31), .ref (o 32), .ref (o 33), .ref (o 34), .ref (o 35)])), ((o 26), .inl (k 0, 12, .inl f26)), ((o 29), .inl (k 0, 12, .inl f29)), ((o 30), .inl (k 0, 12, .inl f30)), ((o 31), .inl (k 0, 12, .inl f31)), ((o 32), .inl (k 0, 4, .inl f32))] H → va_S A s.heap H locs → lv_has ls 5 [(3, .int (nI j_14)), (2, .int x_15), (1, .int x_16), (0, .ref (o 7))] → W p l e (Rm 2 0 0) s m args below meth c H locs 0 0 Q (F0 m 6 ls []) := by
    intro nn
    induction nn with
    | zero => intro j_14 x_15 x_16 H locs ls hjj_14 hnj_14; exact absurd hnj_14 (by omega)
    | succ nn ihj_14 =>
      intro j_14 x_15 x_16 H locs ls hjj_14 hnj_14 hP hS hl
      refine lv_iload_n hx hb dX7_mostFickle_6 rfl (lv_at hl 0 rfl) ?_
      refine lv_aload_n hx hb dX7_mostFickle_7 rfl (lv_at hl 3 rfl) ?_
      refine x_get S hK hP 0 rfl cfX7 0 lkX7_9 (by decide) rfl dX7_mostFickle_8 ?_
      refine x_get S hK hP 7 rfl cfX2 5 lkX7_67 (by decide) rfl dX7_mostFickle_11 ?_
      refine lv_icmp_ge (tgt := 41) hx hb dX7_mostFickle_14 (by decide) (fun c_18 => ?_) (fun c_18 => ?_)
      · skip
        have c_18 : gheads ≤ j_14 := (ni_le rfl rfl (by omega) (by omega)).mp c_18
        refine lv_iload_n hx hb dX7_mostFickle_41 rfl (lv_at hl 2 rfl) ?_
        exact x_reti S hr hlk hQ hS () trivial x_T dX7_mostFickle_42
      · skip
        have c_18 : ¬ gheads ≤ j_14 := fun q => c_18 ((ni_le rfl rfl (by omega) (by omega)).mpr q)
        refine lv_aload_n hx hb dX7_mostFickle_17 rfl (lv_at hl 3 rfl) ?_
        refine lv_iload_n hx hb dX7_mostFickle_18 rfl (lv_at hl 0 rfl) ?_
        refine x_roVi (As := [.int (nI j_14)]) S hK hP hDW hZ hAB hBA hS hA hl mwX7_changesOf lkX7_70 (ctX7_changesOf l D k z o clawNow charder ctold creply cwet f72 f69 f70 f71 glines ghours glaw godds grows gheads gsayings gslugs gacts f26 f29 f30 f31 f32 (nI j_14) (by omega) (by omega) (by omega) (by omega) (by omega) (by omega)) [0, 1, 2, 3, 4, 5, 6, 7, 8, 9, 10, 11, 12] rfl (by decide) rfl rfl rfl rfl rfl ⟨Nat.le_of_ble_eq_true rfl, Nat.le_of_ble_eq_true rfl, Nat.le_of_ble_eq_true rfl⟩ dX7_mostFickle_19 ⟨Nat.le_of_ble_eq_true rfl, Nat.le_of_ble_eq_true rfl⟩ (fun r_19 H locs hr_19 hP hS => ?_)
        refine lv_istore (lv' := [(4, .int r_19), (3, .int (nI j_14)), (2, .int x_15), (1, .int x_16), (0, .ref (o 7))]) hx hb dX7_mostFickle_22 hl (by decide) rfl (fun ls hl => ?_)
        refine lv_iload hx hb dX7_mostFickle_24 (lv_at hl 0 rfl) ?_
        refine lv_iload_n hx hb dX7_mostFickle_26 rfl (lv_at hl 2 rfl) ?_
        refine lv_icmp_le (tgt := 35) hx hb dX7_mostFickle_27 (by decide) (fun c_21 => ?_) (fun c_21 => ?_)
        · skip
          refine lv_iinc (v := (nI (j_14 + 1))) (lv' := [(3, .int (nI (j_14 + 1))), (4, .int r_19), (2, .int x_15), (1, .int x_16), (0, .ref (o 7))]) hx hb dX7_mostFickle_35 hl (k := 1) rfl (ni_inc _) (by decide) rfl (fun ls hl => ?_)
          refine lv_goto (tgt := 6) hx hb dX7_mostFickle_38 (by decide) ?_
          exact ihj_14 (j_14 + 1) x_15 x_16 _ _ _ (by omega) (by omega) hP hS (lv_sub hl [0, 2, 3, 4] rfl)
        · skip
          refine lv_iload hx hb dX7_mostFickle_30 (lv_at hl 0 rfl) ?_
          refine lv_istore_n (lv' := [(2, .int r_19), (4, .int r_19), (3, .int (nI j_14)), (1, .int x_16), (0, .ref (o 7))]) hx hb dX7_mostFickle_32 rfl hl (by decide) rfl (fun ls hl => ?_)
          refine lv_iload_n hx hb dX7_mostFickle_33 rfl (lv_at hl 2 rfl) ?_
          refine lv_istore_n (lv' := [(1, .int (nI j_14)), (2, .int r_19), (4, .int r_19), (3, .int (nI j_14)), (0, .ref (o 7))]) hx hb dX7_mostFickle_34 rfl hl (by decide) rfl (fun ls hl => ?_)
          refine lv_iinc (v := (nI (j_14 + 1))) (lv' := [(3, .int (nI (j_14 + 1))), (1, .int (nI j_14)), (2, .int r_19), (4, .int r_19), (0, .ref (o 7))]) hx hb dX7_mostFickle_35 hl (k := 3) rfl (ni_inc _) (by decide) rfl (fun ls hl => ?_)
          refine lv_goto (tgt := 6) hx hb dX7_mostFickle_38 (by decide) ?_
          exact ihj_14 (j_14 + 1) r_19 (nI j_14) _ _ _ (by omega) (by omega) hP hS (lv_sub hl [0, 2, 1, 4] rfl)
  exact lp_17 (gheads + 1) 0 0 (-1) _ _ _ (by omega) (by omega) hP hS (lv_sub hl [0, 1, 2, 3] rfl)

set_option maxHeartbeats 4000000 in
set_option maxRecDepth 100000 in
theorem ctX7_isOfOneMind (l : Launch) (D : va_G) (k : Nat → ClassId) (z : Nat → Nat) (o : Nat → Nat) (clawNow : Int32) (charder : Int32) (ctold : Int32) (creply : Int32) (cwet : Int32) (f72 : Nat → Int32) (f69 : Nat → Int32) (f70 : Nat → Int32) (f71 : Nat → Int32) (glines : Int32) (ghours : Nat) (glaw : Int32) (godds : Int32) (grows : Nat) (gheads : Nat) (gsayings : Nat) (gslugs : Nat) (gacts : Nat) (f26 : Nat → Int32) (f29 : Nat → Int32) (f30 : Nat → Int32) (f31 : Nat → Int32) (f32 : Nat → Int32) (p0 : Int32) (p1 : Nat) (hghours : ghours ≤ 16) (hgrows : grows ≤ 4) (hgheads : gheads ≤ 12) (hgsayings : gsayings ≤ 8) (hgslugs : gslugs ≤ 4) (hgacts : gacts ≤ 30) (hp1 : p1 ≤ 16) : RO l yX7_isOfOneMind cX7_isOfOneMind 7 (some .boolean) 2 D k z [.ref (o 7), .int p0, .int (nI p1)] [((o 7), .inr (7, [.ref (o 3), .ref (o 4), .ref (o 5)])), ((o 5), .inr (1, [.ref (o 3), .ref (o 4), .int clawNow, .int charder, .int ctold, .int creply, .int cwet, .ref (o 72)])), ((o 72), .inl (k 0, 17, .inl f72)), ((o 4), .inr (3, [.ref (o 69), .ref (o 70), .ref (o 71)])), ((o 69), .inl (k 0, 17, .inl f69)), ((o 70), .inl (k 0, 17, .inl f70)), ((o 71), .inl (k 0, 17, .inl f71)), ((o 3), .inr (2, [.int glines, .int (nI ghours), .int glaw, .int godds, .int (nI grows), .int (nI gheads), .int (nI gsayings), .int (nI gslugs), .int (nI gacts), .ref (o 26), .ref (o 27), .ref (o 28), .ref (o 29), .ref (o 30), .ref (o 31), .ref (o 32), .ref (o 33), .ref (o 34), .ref (o 35)])), ((o 26), .inl (k 0, 12, .inl f26)), ((o 29), .inl (k 0, 12, .inl f29)), ((o 30), .inl (k 0, 12, .inl f30)), ((o 31), .inl (k 0, 12, .inl f31)), ((o 32), .inl (k 0, 4, .inl f32))] (Qi (fun r : Int32 => True)) := by
  refine RO.of (by decide) (Nat.le_of_ble_eq_true rfl) ?_
  intro p e s m below meth c ls A B args Q S hr hlk hQ hK hP hDW hZ hAB hBA hA hS hl
  have hx := S.1
  have hb := S.2.1
  have hl : lv_has ls 7 [(0, .ref (o 7)), (1, .int p0), (2, .int (nI p1))] := hl
  refine lv_iload_n hx hb dX7_isOfOneMind_0 rfl (lv_at hl 1 rfl) ?_
  refine lv_aload_n hx hb dX7_isOfOneMind_1 rfl (lv_at hl 0 rfl) ?_
  refine lv_iload_n hx hb dX7_isOfOneMind_2 rfl (lv_at hl 2 rfl) ?_
  refine x_roVi (As := [.int (nI p1)]) S hK hP hDW hZ hAB hBA hS hA hl mwX7_aliveAt lkX7_35 (ctX7_aliveAt l D k z o clawNow charder ctold creply cwet f72 f69 f70 f71 glines ghours glaw godds grows gheads gsayings gslugs gacts f26 f29 f30 f31 f32 p1 (by omega) (by omega) (by omega) (by omega) (by omega) (by omega) (by omega)) [0, 1, 2, 3, 4, 5, 6, 7, 8, 9, 10, 11, 12] rfl (by decide) rfl rfl rfl rfl rfl ⟨Nat.le_of_ble_eq_true rfl, Nat.le_of_ble_eq_true rfl, Nat.le_of_ble_eq_true rfl⟩ dX7_isOfOneMind_3 ⟨Nat.le_of_ble_eq_true rfl, Nat.le_of_ble_eq_true rfl⟩ (fun r_1 H locs hr_1 hP hS => ?_)
  refine lv_iand hx hb dX7_isOfOneMind_6 ?_
  refine lv_topi (fun v_3 ev_3 => ?_)
  refine lv_istore_n (lv' := [(3, .int v_3), (0, .ref (o 7)), (1, .int p0), (2, .int (nI p1))]) hx hb dX7_isOfOneMind_7 rfl hl (by decide) rfl (fun ls hl => ?_)
  refine lv_aload_n hx hb dX7_isOfOneMind_8 rfl (lv_at hl 1 rfl) ?_
  refine x_get S hK hP 0 rfl cfX7 2 lkX7_19 (by decide) rfl dX7_isOfOneMind_9 ?_
  refine x_get S hK hP 1 rfl cfX1 7 lkX7_44 (by decide) rfl dX7_isOfOneMind_12 ?_
  refine lv_iload_n hx hb dX7_isOfOneMind_15 rfl (lv_at hl 3 rfl) ?_
  refine x_iald S hK hP 2 rfl (vp_in_nI (by omega) (by decide)) dX7_isOfOneMind_16 ?_
  refine lv_topi (fun v_4 ev_4 => ?_)
  refine lv_istore (lv' := [(4, .int v_4), (3, .int v_3), (0, .ref (o 7)), (1, .int p0), (2, .int (nI p1))]) hx hb dX7_isOfOneMind_17 hl (by decide) rfl (fun ls hl => ?_)
  refine lv_iload_n hx hb dX7_isOfOneMind_19 rfl (lv_at hl 1 rfl) ?_
  refine lv_iload hx hb dX7_isOfOneMind_20 (lv_at hl 0 rfl) ?_
  refine lv_iconst (v := 1) hx hb dX7_isOfOneMind_22 (by decide) ?_
  refine x_roSNi (As := [.int v_4, .int 1]) S hK hP hDW hZ hAB hBA hS hA hl mwX10_holdersIn lkX7_49 (ctX10_holdersIn l D k z v_4 1 ) [] rfl (by decide) rfl rfl ⟨Nat.le_of_ble_eq_true rfl, Nat.le_of_ble_eq_true rfl, Nat.le_of_ble_eq_true rfl⟩ dX7_isOfOneMind_23 ⟨Nat.le_of_ble_eq_true rfl, Nat.le_of_ble_eq_true rfl⟩ (fun r_5 H locs hr_5 hP hS => ?_)
  refine lv_iconst (v := (-1)) hx hb dX7_isOfOneMind_26 (by decide) ?_
  refine lv_ixor hx hb dX7_isOfOneMind_27 ?_
  refine lv_topi (fun v_7 ev_7 => ?_)
  refine lv_iand hx hb dX7_isOfOneMind_28 ?_
  refine lv_topi (fun v_8 ev_8 => ?_)
  refine lv_if_ne (tgt := 36) hx hb dX7_isOfOneMind_29 (by decide) (fun c_9 => ?_) (fun c_9 => ?_)
  · skip
    refine lv_iconst (v := 0) hx hb dX7_isOfOneMind_36 (by decide) ?_
    refine lv_istore (lv' := [(5, .int 0), (4, .int v_4), (3, .int v_3), (0, .ref (o 7)), (1, .int p0), (2, .int (nI p1))]) hx hb dX7_isOfOneMind_37 hl (by decide) rfl (fun ls hl => ?_)
    refine lv_iload_n hx hb dX7_isOfOneMind_39 rfl (lv_at hl 2 rfl) ?_
    refine lv_iload hx hb dX7_isOfOneMind_40 (lv_at hl 1 rfl) ?_
    refine lv_iconst (v := 2) hx hb dX7_isOfOneMind_42 (by decide) ?_
    refine x_roSNi (As := [.int v_4, .int 2]) S hK hP hDW hZ hAB hBA hS hA hl mwX10_holdersIn lkX7_49 (ctX10_holdersIn l D k z v_4 2 ) [] rfl (by decide) rfl rfl ⟨Nat.le_of_ble_eq_true rfl, Nat.le_of_ble_eq_true rfl, Nat.le_of_ble_eq_true rfl⟩ dX7_isOfOneMind_43 ⟨Nat.le_of_ble_eq_true rfl, Nat.le_of_ble_eq_true rfl⟩ (fun r_10 H locs hr_10 hP hS => ?_)
    refine lv_iconst (v := (-1)) hx hb dX7_isOfOneMind_46 (by decide) ?_
    refine lv_ixor hx hb dX7_isOfOneMind_47 ?_
    refine lv_topi (fun v_12 ev_12 => ?_)
    refine lv_iand hx hb dX7_isOfOneMind_48 ?_
    refine lv_topi (fun v_13 ev_13 => ?_)
    refine lv_if_ne (tgt := 56) hx hb dX7_isOfOneMind_49 (by decide) (fun c_14 => ?_) (fun c_14 => ?_)
    · skip
      refine lv_iconst (v := 0) hx hb dX7_isOfOneMind_56 (by decide) ?_
      refine lv_istore (lv' := [(6, .int 0), (5, .int 0), (4, .int v_4), (3, .int v_3), (0, .ref (o 7)), (1, .int p0), (2, .int (nI p1))]) hx hb dX7_isOfOneMind_57 hl (by decide) rfl (fun ls hl => ?_)
      refine lv_iload_n hx hb dX7_isOfOneMind_59 rfl (lv_at hl 3 rfl) ?_
      refine lv_if_eq (tgt := 77) hx hb dX7_isOfOneMind_60 (by decide) (fun c_15 => ?_) (fun c_15 => ?_)
      · skip
        refine lv_iconst (v := 0) hx hb dX7_isOfOneMind_77 (by decide) ?_
        exact x_retz S hr hlk hQ hS rfl () trivial x_T dX7_isOfOneMind_78
      · skip
        refine lv_iload hx hb dX7_isOfOneMind_63 (lv_at hl 1 rfl) ?_
        refine lv_if_ne (tgt := 73) hx hb dX7_isOfOneMind_65 (by decide) (fun c_16 => absurd (by decide) c_16) (fun c_16 => ?_)
        refine lv_iload hx hb dX7_isOfOneMind_68 (lv_at hl 0 rfl) ?_
        refine lv_if_eq (tgt := 77) hx hb dX7_isOfOneMind_70 (by decide) (fun c_17 => ?_) (fun c_17 => absurd (by decide) c_17)
        refine lv_iconst (v := 0) hx hb dX7_isOfOneMind_77 (by decide) ?_
        exact x_retz S hr hlk hQ hS rfl () trivial x_T dX7_isOfOneMind_78
    · skip
      refine lv_iconst (v := 1) hx hb dX7_isOfOneMind_52 (by decide) ?_
      refine lv_goto (tgt := 57) hx hb dX7_isOfOneMind_53 (by decide) ?_
      refine lv_istore (lv' := [(6, .int 1), (5, .int 0), (4, .int v_4), (3, .int v_3), (0, .ref (o 7)), (1, .int p0), (2, .int (nI p1))]) hx hb dX7_isOfOneMind_57 hl (by decide) rfl (fun ls hl => ?_)
      refine lv_iload_n hx hb dX7_isOfOneMind_59 rfl (lv_at hl 3 rfl) ?_
      refine lv_if_eq (tgt := 77) hx hb dX7_isOfOneMind_60 (by decide) (fun c_18 => ?_) (fun c_18 => ?_)
      · skip
        refine lv_iconst (v := 0) hx hb dX7_isOfOneMind_77 (by decide) ?_
        exact x_retz S hr hlk hQ hS rfl () trivial x_T dX7_isOfOneMind_78
      · skip
        refine lv_iload hx hb dX7_isOfOneMind_63 (lv_at hl 1 rfl) ?_
        refine lv_if_ne (tgt := 73) hx hb dX7_isOfOneMind_65 (by decide) (fun c_19 => absurd (by decide) c_19) (fun c_19 => ?_)
        refine lv_iload hx hb dX7_isOfOneMind_68 (lv_at hl 0 rfl) ?_
        refine lv_if_eq (tgt := 77) hx hb dX7_isOfOneMind_70 (by decide) (fun c_20 => absurd c_20 (by decide)) (fun c_20 => ?_)
        refine lv_iconst (v := 1) hx hb dX7_isOfOneMind_73 (by decide) ?_
        refine lv_goto (tgt := 78) hx hb dX7_isOfOneMind_74 (by decide) ?_
        exact x_retz S hr hlk hQ hS rfl () trivial x_T dX7_isOfOneMind_78
  · skip
    refine lv_iconst (v := 1) hx hb dX7_isOfOneMind_32 (by decide) ?_
    refine lv_goto (tgt := 37) hx hb dX7_isOfOneMind_33 (by decide) ?_
    refine lv_istore (lv' := [(5, .int 1), (4, .int v_4), (3, .int v_3), (0, .ref (o 7)), (1, .int p0), (2, .int (nI p1))]) hx hb dX7_isOfOneMind_37 hl (by decide) rfl (fun ls hl => ?_)
    refine lv_iload_n hx hb dX7_isOfOneMind_39 rfl (lv_at hl 2 rfl) ?_
    refine lv_iload hx hb dX7_isOfOneMind_40 (lv_at hl 1 rfl) ?_
    refine lv_iconst (v := 2) hx hb dX7_isOfOneMind_42 (by decide) ?_
    refine x_roSNi (As := [.int v_4, .int 2]) S hK hP hDW hZ hAB hBA hS hA hl mwX10_holdersIn lkX7_49 (ctX10_holdersIn l D k z v_4 2 ) [] rfl (by decide) rfl rfl ⟨Nat.le_of_ble_eq_true rfl, Nat.le_of_ble_eq_true rfl, Nat.le_of_ble_eq_true rfl⟩ dX7_isOfOneMind_43 ⟨Nat.le_of_ble_eq_true rfl, Nat.le_of_ble_eq_true rfl⟩ (fun r_21 H locs hr_21 hP hS => ?_)
    refine lv_iconst (v := (-1)) hx hb dX7_isOfOneMind_46 (by decide) ?_
    refine lv_ixor hx hb dX7_isOfOneMind_47 ?_
    refine lv_topi (fun v_23 ev_23 => ?_)
    refine lv_iand hx hb dX7_isOfOneMind_48 ?_
    refine lv_topi (fun v_24 ev_24 => ?_)
    refine lv_if_ne (tgt := 56) hx hb dX7_isOfOneMind_49 (by decide) (fun c_25 => ?_) (fun c_25 => ?_)
    · skip
      refine lv_iconst (v := 0) hx hb dX7_isOfOneMind_56 (by decide) ?_
      refine lv_istore (lv' := [(6, .int 0), (5, .int 1), (4, .int v_4), (3, .int v_3), (0, .ref (o 7)), (1, .int p0), (2, .int (nI p1))]) hx hb dX7_isOfOneMind_57 hl (by decide) rfl (fun ls hl => ?_)
      refine lv_iload_n hx hb dX7_isOfOneMind_59 rfl (lv_at hl 3 rfl) ?_
      refine lv_if_eq (tgt := 77) hx hb dX7_isOfOneMind_60 (by decide) (fun c_26 => ?_) (fun c_26 => ?_)
      · skip
        refine lv_iconst (v := 0) hx hb dX7_isOfOneMind_77 (by decide) ?_
        exact x_retz S hr hlk hQ hS rfl () trivial x_T dX7_isOfOneMind_78
      · skip
        refine lv_iload hx hb dX7_isOfOneMind_63 (lv_at hl 1 rfl) ?_
        refine lv_if_ne (tgt := 73) hx hb dX7_isOfOneMind_65 (by decide) (fun c_27 => ?_) (fun c_27 => absurd c_27 (by decide))
        refine lv_iconst (v := 1) hx hb dX7_isOfOneMind_73 (by decide) ?_
        refine lv_goto (tgt := 78) hx hb dX7_isOfOneMind_74 (by decide) ?_
        exact x_retz S hr hlk hQ hS rfl () trivial x_T dX7_isOfOneMind_78
    · skip
      refine lv_iconst (v := 1) hx hb dX7_isOfOneMind_52 (by decide) ?_
      refine lv_goto (tgt := 57) hx hb dX7_isOfOneMind_53 (by decide) ?_
      refine lv_istore (lv' := [(6, .int 1), (5, .int 1), (4, .int v_4), (3, .int v_3), (0, .ref (o 7)), (1, .int p0), (2, .int (nI p1))]) hx hb dX7_isOfOneMind_57 hl (by decide) rfl (fun ls hl => ?_)
      refine lv_iload_n hx hb dX7_isOfOneMind_59 rfl (lv_at hl 3 rfl) ?_
      refine lv_if_eq (tgt := 77) hx hb dX7_isOfOneMind_60 (by decide) (fun c_28 => ?_) (fun c_28 => ?_)
      · skip
        refine lv_iconst (v := 0) hx hb dX7_isOfOneMind_77 (by decide) ?_
        exact x_retz S hr hlk hQ hS rfl () trivial x_T dX7_isOfOneMind_78
      · skip
        refine lv_iload hx hb dX7_isOfOneMind_63 (lv_at hl 1 rfl) ?_
        refine lv_if_ne (tgt := 73) hx hb dX7_isOfOneMind_65 (by decide) (fun c_29 => ?_) (fun c_29 => absurd c_29 (by decide))
        refine lv_iconst (v := 1) hx hb dX7_isOfOneMind_73 (by decide) ?_
        refine lv_goto (tgt := 78) hx hb dX7_isOfOneMind_74 (by decide) ?_
        exact x_retz S hr hlk hQ hS rfl () trivial x_T dX7_isOfOneMind_78

set_option maxHeartbeats 4000000 in
set_option maxRecDepth 100000 in
theorem ctX7_firstAccord (l : Launch) (D : va_G) (k : Nat → ClassId) (z : Nat → Nat) (o : Nat → Nat) (clawNow : Int32) (charder : Int32) (ctold : Int32) (creply : Int32) (cwet : Int32) (f72 : Nat → Int32) (f69 : Nat → Int32) (f70 : Nat → Int32) (f71 : Nat → Int32) (glines : Int32) (ghours : Nat) (glaw : Int32) (godds : Int32) (grows : Nat) (gheads : Nat) (gsayings : Nat) (gslugs : Nat) (gacts : Nat) (f26 : Nat → Int32) (f29 : Nat → Int32) (f30 : Nat → Int32) (f31 : Nat → Int32) (f32 : Nat → Int32) (hghours : ghours ≤ 16) (hgrows : grows ≤ 4) (hgheads : gheads ≤ 12) (hgsayings : gsayings ≤ 8) (hgslugs : gslugs ≤ 4) (hgacts : gacts ≤ 30) : RO l yX7_firstAccord cX7_firstAccord 2 (some .int) 3 D k z [.ref (o 7)] [((o 7), .inr (7, [.ref (o 3), .ref (o 4), .ref (o 5)])), ((o 5), .inr (1, [.ref (o 3), .ref (o 4), .int clawNow, .int charder, .int ctold, .int creply, .int cwet, .ref (o 72)])), ((o 72), .inl (k 0, 17, .inl f72)), ((o 4), .inr (3, [.ref (o 69), .ref (o 70), .ref (o 71)])), ((o 69), .inl (k 0, 17, .inl f69)), ((o 70), .inl (k 0, 17, .inl f70)), ((o 71), .inl (k 0, 17, .inl f71)), ((o 3), .inr (2, [.int glines, .int (nI ghours), .int glaw, .int godds, .int (nI grows), .int (nI gheads), .int (nI gsayings), .int (nI gslugs), .int (nI gacts), .ref (o 26), .ref (o 27), .ref (o 28), .ref (o 29), .ref (o 30), .ref (o 31), .ref (o 32), .ref (o 33), .ref (o 34), .ref (o 35)])), ((o 26), .inl (k 0, 12, .inl f26)), ((o 29), .inl (k 0, 12, .inl f29)), ((o 30), .inl (k 0, 12, .inl f30)), ((o 31), .inl (k 0, 12, .inl f31)), ((o 32), .inl (k 0, 4, .inl f32))] (Qi (fun r : Int32 => True)) := by
  refine RO.of (by decide) (Nat.le_of_ble_eq_true rfl) ?_
  intro p e s m below meth c ls A B args Q S hr hlk hQ hK hP hDW hZ hAB hBA hA hS hl
  have hx := S.1
  have hb := S.2.1
  have hl : lv_has ls 2 [(0, .ref (o 7))] := hl
  refine lv_iconst (v := 0) hx hb dX7_firstAccord_0 (by decide) ?_
  refine lv_istore_n (lv' := [(1, .int 0), (0, .ref (o 7))]) hx hb dX7_firstAccord_1 rfl hl (by decide) rfl (fun ls hl => ?_)
  have lp_10 : ∀ (nn j_9 : Nat)  (H : Heap) (locs : List Loc) (ls : Array Slot), j_9 ≤ ghours + 1 → ghours + 1 - j_9 < nn → va_P D vwCl [((o 7), .inr (7, [.ref (o 3), .ref (o 4), .ref (o 5)])), ((o 5), .inr (1, [.ref (o 3), .ref (o 4), .int clawNow, .int charder, .int ctold, .int creply, .int cwet, .ref (o 72)])), ((o 72), .inl (k 0, 17, .inl f72)), ((o 4), .inr (3, [.ref (o 69), .ref (o 70), .ref (o 71)])), ((o 69), .inl (k 0, 17, .inl f69)), ((o 70), .inl (k 0, 17, .inl f70)), ((o 71), .inl (k 0, 17, .inl f71)), ((o 3), .inr (2, [.int glines, .int (nI ghours), .int glaw, .int godds, .int (nI grows), .int (nI gheads), .int (nI gsayings), .int (nI gslugs), .int (nI gacts), .ref (o 26), .ref (o 27), .ref (o 28), .ref (o 29), .ref (o 30), .ref (o 31), .ref (o 32), .ref (o 33), .ref (o 34), .ref (o 35)])), ((o 26), .inl (k 0, 12, .inl f26)), ((o 29), .inl (k 0, 12, .inl f29)), ((o 30), .inl (k 0, 12, .inl f30)), ((o 31), .inl (k 0, 12, .inl f31)), ((o 32), .inl (k 0, 4, .inl f32))] H → va_S A s.heap H locs → lv_has ls 2 [(1, .int (nI j_9)), (0, .ref (o 7))] → W p l e (Rm 3 0 0) s m args below meth c H locs 0 0 Q (F0 m 2 ls []) := by
    intro nn
    induction nn with
    | zero => intro j_9  H locs ls hjj_9 hnj_9; exact absurd hnj_9 (by omega)
    | succ nn ihj_9 =>
      intro j_9  H locs ls hjj_9 hnj_9 hP hS hl
      refine lv_iload_n hx hb dX7_firstAccord_2 rfl (lv_at hl 0 rfl) ?_
      refine lv_aload_n hx hb dX7_firstAccord_3 rfl (lv_at hl 1 rfl) ?_
      refine x_get S hK hP 0 rfl cfX7 0 lkX7_9 (by decide) rfl dX7_firstAccord_4 ?_
      refine x_get S hK hP 7 rfl cfX2 1 lkX7_54 (by decide) rfl dX7_firstAccord_7 ?_
      refine lv_icmp_gt (tgt := 36) hx hb dX7_firstAccord_10 (by decide) (fun c_11 => ?_) (fun c_11 => ?_)
      · skip
        have c_11 : ghours < j_9 := (ni_lt rfl rfl (by omega) (by omega)).mp c_11
        refine lv_iconst (v := (-1)) hx hb dX7_firstAccord_36 (by decide) ?_
        exact x_reti S hr hlk hQ hS () trivial x_T dX7_firstAccord_37
      · skip
        have c_11 : ¬ ghours < j_9 := fun q => c_11 ((ni_lt rfl rfl (by omega) (by omega)).mpr q)
        refine lv_aload_n hx hb dX7_firstAccord_13 rfl (lv_at hl 1 rfl) ?_
        refine lv_aload_n hx hb dX7_firstAccord_14 rfl (lv_at hl 1 rfl) ?_
        refine x_get S hK hP 0 rfl cfX7 0 lkX7_9 (by decide) rfl dX7_firstAccord_15 ?_
        refine x_roVi (As := []) S hK hP hDW hZ hAB hBA hS hA hl mwX2_everyone lkX7_23 (ctX2_everyone l D k z o glines ghours glaw godds grows gheads gsayings gslugs gacts (by omega) (by omega) (by omega) (by omega) (by omega) (by omega)) [7] rfl (by decide) rfl rfl rfl rfl rfl ⟨Nat.le_of_ble_eq_true rfl, Nat.le_of_ble_eq_true rfl, Nat.le_of_ble_eq_true rfl⟩ dX7_firstAccord_18 ⟨Nat.le_of_ble_eq_true rfl, Nat.le_of_ble_eq_true rfl⟩ (fun r_12 H locs hr_12 hP hS => ?_)
        obtain rfl := hr_12
        refine lv_iload_n hx hb dX7_firstAccord_21 rfl (lv_at hl 0 rfl) ?_
        refine x_roVi (As := [.int (nI (2 ^ gheads - 1)), .int (nI j_9)]) S hK hP hDW hZ hAB hBA hS hA hl mwX7_isOfOneMind lkX7_73 (ctX7_isOfOneMind l D k z o clawNow charder ctold creply cwet f72 f69 f70 f71 glines ghours glaw godds grows gheads gsayings gslugs gacts f26 f29 f30 f31 f32 (nI (2 ^ gheads - 1)) j_9 (by omega) (by omega) (by omega) (by omega) (by omega) (by omega) (by omega)) [0, 1, 2, 3, 4, 5, 6, 7, 8, 9, 10, 11, 12] rfl (by decide) rfl rfl rfl rfl rfl ⟨Nat.le_of_ble_eq_true rfl, Nat.le_of_ble_eq_true rfl, Nat.le_of_ble_eq_true rfl⟩ dX7_firstAccord_22 ⟨Nat.le_of_ble_eq_true rfl, Nat.le_of_ble_eq_true rfl⟩ (fun r_14 H locs hr_14 hP hS => ?_)
        refine lv_if_eq (tgt := 30) hx hb dX7_firstAccord_25 (by decide) (fun c_16 => ?_) (fun c_16 => ?_)
        · skip
          refine lv_iinc (v := (nI (j_9 + 1))) (lv' := [(1, .int (nI (j_9 + 1))), (0, .ref (o 7))]) hx hb dX7_firstAccord_30 hl (k := 0) rfl (ni_inc _) (by decide) rfl (fun ls hl => ?_)
          refine lv_goto (tgt := 2) hx hb dX7_firstAccord_33 (by decide) ?_
          exact ihj_9 (j_9 + 1)  _ _ _ (by omega) (by omega) hP hS (lv_sub hl [0, 1] rfl)
        · skip
          refine lv_iload_n hx hb dX7_firstAccord_28 rfl (lv_at hl 0 rfl) ?_
          exact x_reti S hr hlk hQ hS () trivial x_T dX7_firstAccord_29
  exact lp_10 (ghours + 1 + 1) 0  _ _ _ (by omega) (by omega) hP hS (lv_sub hl [0, 1] rfl)

set_option maxHeartbeats 4000000 in
set_option maxRecDepth 100000 in
theorem ctX7_stillFrom (l : Launch) (D : va_G) (k : Nat → ClassId) (z : Nat → Nat) (o : Nat → Nat) (clawNow : Int32) (charder : Int32) (ctold : Int32) (creply : Int32) (cwet : Int32) (f72 : Nat → Int32) (f69 : Nat → Int32) (f70 : Nat → Int32) (f71 : Nat → Int32) (glines : Int32) (ghours : Nat) (glaw : Int32) (godds : Int32) (grows : Nat) (gheads : Nat) (gsayings : Nat) (gslugs : Nat) (gacts : Nat) (f26 : Nat → Int32) (f29 : Nat → Int32) (f30 : Nat → Int32) (f31 : Nat → Int32) (f32 : Nat → Int32) (hghours : ghours ≤ 16) (hgrows : grows ≤ 4) (hgheads : gheads ≤ 12) (hgsayings : gsayings ≤ 8) (hgslugs : gslugs ≤ 4) (hgacts : gacts ≤ 30) : RO l yX7_stillFrom cX7_stillFrom 2 (some .int) 1 D k z [.ref (o 7)] [((o 7), .inr (7, [.ref (o 3), .ref (o 4), .ref (o 5)])), ((o 5), .inr (1, [.ref (o 3), .ref (o 4), .int clawNow, .int charder, .int ctold, .int creply, .int cwet, .ref (o 72)])), ((o 72), .inl (k 0, 17, .inl f72)), ((o 4), .inr (3, [.ref (o 69), .ref (o 70), .ref (o 71)])), ((o 69), .inl (k 0, 17, .inl f69)), ((o 70), .inl (k 0, 17, .inl f70)), ((o 71), .inl (k 0, 17, .inl f71)), ((o 3), .inr (2, [.int glines, .int (nI ghours), .int glaw, .int godds, .int (nI grows), .int (nI gheads), .int (nI gsayings), .int (nI gslugs), .int (nI gacts), .ref (o 26), .ref (o 27), .ref (o 28), .ref (o 29), .ref (o 30), .ref (o 31), .ref (o 32), .ref (o 33), .ref (o 34), .ref (o 35)])), ((o 26), .inl (k 0, 12, .inl f26)), ((o 29), .inl (k 0, 12, .inl f29)), ((o 30), .inl (k 0, 12, .inl f30)), ((o 31), .inl (k 0, 12, .inl f31)), ((o 32), .inl (k 0, 4, .inl f32))] (Qi (fun r : Int32 => True)) := by
  refine RO.of (by decide) (Nat.le_of_ble_eq_true rfl) ?_
  intro p e s m below meth c ls A B args Q S hr hlk hQ hK hP hDW hZ hAB hBA hA hS hl
  have hx := S.1
  have hb := S.2.1
  have hl : lv_has ls 2 [(0, .ref (o 7))] := hl
  refine lv_aload_n hx hb dX7_stillFrom_0 rfl (lv_at hl 0 rfl) ?_
  refine x_get S hK hP 0 rfl cfX7 0 lkX7_9 (by decide) rfl dX7_stillFrom_1 ?_
  refine x_get S hK hP 7 rfl cfX2 1 lkX7_54 (by decide) rfl dX7_stillFrom_4 ?_
  refine lv_istore_n (lv' := [(1, .int (nI ghours)), (0, .ref (o 7))]) hx hb dX7_stillFrom_7 rfl hl (by decide) rfl (fun ls hl => ?_)
  have lp_7 : ∀ (nn j_6 : Nat)  (H : Heap) (locs : List Loc) (ls : Array Slot), j_6 ≤ 16 → j_6 < nn → va_P D vwCl [((o 7), .inr (7, [.ref (o 3), .ref (o 4), .ref (o 5)])), ((o 5), .inr (1, [.ref (o 3), .ref (o 4), .int clawNow, .int charder, .int ctold, .int creply, .int cwet, .ref (o 72)])), ((o 72), .inl (k 0, 17, .inl f72)), ((o 4), .inr (3, [.ref (o 69), .ref (o 70), .ref (o 71)])), ((o 69), .inl (k 0, 17, .inl f69)), ((o 70), .inl (k 0, 17, .inl f70)), ((o 71), .inl (k 0, 17, .inl f71)), ((o 3), .inr (2, [.int glines, .int (nI ghours), .int glaw, .int godds, .int (nI grows), .int (nI gheads), .int (nI gsayings), .int (nI gslugs), .int (nI gacts), .ref (o 26), .ref (o 27), .ref (o 28), .ref (o 29), .ref (o 30), .ref (o 31), .ref (o 32), .ref (o 33), .ref (o 34), .ref (o 35)])), ((o 26), .inl (k 0, 12, .inl f26)), ((o 29), .inl (k 0, 12, .inl f29)), ((o 30), .inl (k 0, 12, .inl f30)), ((o 31), .inl (k 0, 12, .inl f31)), ((o 32), .inl (k 0, 4, .inl f32))] H → va_S A s.heap H locs → lv_has ls 2 [(1, .int (nI j_6)), (0, .ref (o 7))] → W p l e (Rm 1 0 0) s m args below meth c H locs 0 0 Q (F0 m 8 ls []) := by
    intro nn
    induction nn with
    | zero => intro j_6  H locs ls hjj_6 hnj_6; exact absurd hnj_6 (by omega)
    | succ nn ihj_6 =>
      intro j_6  H locs ls hjj_6 hnj_6 hP hS hl
      refine lv_iload_n hx hb dX7_stillFrom_8 rfl (lv_at hl 0 rfl) ?_
      refine lv_if_le (tgt := 26) hx hb dX7_stillFrom_9 (by decide) (fun c_8 => ?_) (fun c_8 => ?_)
      · skip
        have c_8 : j_6 ≤ 0 := (ni_le rfl (by decide) (by omega) (by omega)).mp c_8
        refine lv_iload_n hx hb dX7_stillFrom_26 rfl (lv_at hl 0 rfl) ?_
        exact x_reti S hr hlk hQ hS () trivial x_T dX7_stillFrom_27
      · skip
        have c_8 : ¬ j_6 ≤ 0 := fun q => c_8 ((ni_le rfl (by decide) (by omega) (by omega)).mpr q)
        refine lv_aload_n hx hb dX7_stillFrom_12 rfl (lv_at hl 1 rfl) ?_
        refine lv_iload_n hx hb dX7_stillFrom_13 rfl (lv_at hl 0 rfl) ?_
        refine x_roVi (As := [.int (nI j_6)]) S hK hP hDW hZ hAB hBA hS hA hl mwX7_turnedAt lkX7_58 (ctX7_turnedAt l D k z o clawNow charder ctold creply cwet f72 f69 f70 f71 glines ghours glaw godds grows gheads gsayings gslugs gacts f26 f29 f30 f31 f32 j_6 (by omega) (by omega) (by omega) (by omega) (by omega) (by omega) (by omega)) [0, 1, 2, 3, 4, 5, 6, 7, 8, 9, 10, 11, 12] rfl (by decide) rfl rfl rfl rfl rfl ⟨Nat.le_of_ble_eq_true rfl, Nat.le_of_ble_eq_true rfl, Nat.le_of_ble_eq_true rfl⟩ dX7_stillFrom_14 ⟨Nat.le_of_ble_eq_true rfl, Nat.le_of_ble_eq_true rfl⟩ (fun r_9 H locs hr_9 hP hS => ?_)
        refine lv_if_ne (tgt := 26) hx hb dX7_stillFrom_17 (by decide) (fun c_11 => ?_) (fun c_11 => ?_)
        · skip
          refine lv_iload_n hx hb dX7_stillFrom_26 rfl (lv_at hl 0 rfl) ?_
          exact x_reti S hr hlk hQ hS () trivial x_T dX7_stillFrom_27
        · skip
          refine lv_iinc (v := (nI (j_6 - 1))) (lv' := [(1, .int (nI (j_6 - 1))), (0, .ref (o 7))]) hx hb dX7_stillFrom_20 hl (k := 0) rfl (ni_dec (by omega)) (by decide) rfl (fun ls hl => ?_)
          refine lv_goto (tgt := 8) hx hb dX7_stillFrom_23 (by decide) ?_
          exact ihj_6 (j_6 - 1)  _ _ _ (by omega) (by omega) hP hS (lv_sub hl [0, 1] rfl)
  exact lp_7 (ghours + 1) ghours  _ _ _ (by omega) (by omega) hP hS (lv_sub hl [0, 1] rfl)

set_option maxHeartbeats 4000000 in
set_option maxRecDepth 100000 in
theorem ctX7_longestQuiet (l : Launch) (D : va_G) (k : Nat → ClassId) (z : Nat → Nat) (o : Nat → Nat) (clawNow : Int32) (charder : Int32) (ctold : Int32) (creply : Int32) (cwet : Int32) (f72 : Nat → Int32) (f69 : Nat → Int32) (f70 : Nat → Int32) (f71 : Nat → Int32) (glines : Int32) (ghours : Nat) (glaw : Int32) (godds : Int32) (grows : Nat) (gheads : Nat) (gsayings : Nat) (gslugs : Nat) (gacts : Nat) (f26 : Nat → Int32) (f29 : Nat → Int32) (f30 : Nat → Int32) (f31 : Nat → Int32) (f32 : Nat → Int32) (hghours : ghours ≤ 16) (hgrows : grows ≤ 4) (hgheads : gheads ≤ 12) (hgsayings : gsayings ≤ 8) (hgslugs : gslugs ≤ 4) (hgacts : gacts ≤ 30) : RO l yX7_longestQuiet cX7_longestQuiet 4 (some .int) 1 D k z [.ref (o 7)] [((o 7), .inr (7, [.ref (o 3), .ref (o 4), .ref (o 5)])), ((o 5), .inr (1, [.ref (o 3), .ref (o 4), .int clawNow, .int charder, .int ctold, .int creply, .int cwet, .ref (o 72)])), ((o 72), .inl (k 0, 17, .inl f72)), ((o 4), .inr (3, [.ref (o 69), .ref (o 70), .ref (o 71)])), ((o 69), .inl (k 0, 17, .inl f69)), ((o 70), .inl (k 0, 17, .inl f70)), ((o 71), .inl (k 0, 17, .inl f71)), ((o 3), .inr (2, [.int glines, .int (nI ghours), .int glaw, .int godds, .int (nI grows), .int (nI gheads), .int (nI gsayings), .int (nI gslugs), .int (nI gacts), .ref (o 26), .ref (o 27), .ref (o 28), .ref (o 29), .ref (o 30), .ref (o 31), .ref (o 32), .ref (o 33), .ref (o 34), .ref (o 35)])), ((o 26), .inl (k 0, 12, .inl f26)), ((o 29), .inl (k 0, 12, .inl f29)), ((o 30), .inl (k 0, 12, .inl f30)), ((o 31), .inl (k 0, 12, .inl f31)), ((o 32), .inl (k 0, 4, .inl f32))] (Qi (fun r : Int32 => True)) := by
  refine RO.of (by decide) (Nat.le_of_ble_eq_true rfl) ?_
  intro p e s m below meth c ls A B args Q S hr hlk hQ hK hP hDW hZ hAB hBA hA hS hl
  have hx := S.1
  have hb := S.2.1
  have hl : lv_has ls 4 [(0, .ref (o 7))] := hl
  refine lv_iconst (v := 0) hx hb dX7_longestQuiet_0 (by decide) ?_
  refine lv_istore_n (lv' := [(1, .int 0), (0, .ref (o 7))]) hx hb dX7_longestQuiet_1 rfl hl (by decide) rfl (fun ls hl => ?_)
  refine lv_iconst (v := 0) hx hb dX7_longestQuiet_2 (by decide) ?_
  refine lv_istore_n (lv' := [(2, .int 0), (1, .int 0), (0, .ref (o 7))]) hx hb dX7_longestQuiet_3 rfl hl (by decide) rfl (fun ls hl => ?_)
  refine lv_iconst (v := 1) hx hb dX7_longestQuiet_4 (by decide) ?_
  refine lv_istore_n (lv' := [(3, .int 1), (2, .int 0), (1, .int 0), (0, .ref (o 7))]) hx hb dX7_longestQuiet_5 rfl hl (by decide) rfl (fun ls hl => ?_)
  have lp_24 : ∀ (nn j_21 : Nat) (x_22 : Int32) (x_23 : Int32) (H : Heap) (locs : List Loc) (ls : Array Slot), 1 ≤ j_21 → j_21 ≤ ghours + 1 → ghours + 1 - j_21 < nn → va_P D vwCl [((o 7), .inr (7, [.ref (o 3), .ref (o 4), .ref (o 5)])), ((o 5), .inr (1, [.ref (o 3), .ref (o 4), .int clawNow, .int charder, .int ctold, .int creply, .int cwet, .ref (o 72)])), ((o 72), .inl (k 0, 17, .inl f72)), ((o 4), .inr (3, [.ref (o 69), .ref (o 70), .ref (o 71)])), ((o 69), .inl (k 0, 17, .inl f69)), ((o 70), .inl (k 0, 17, .inl f70)), ((o 71), .inl (k 0, 17, .inl f71)), ((o 3), .inr (2, [.int glines, .int (nI ghours), .int glaw, .int godds, .int (nI grows), .int (nI gheads), .int (nI gsayings), .int (nI gslugs), .int (nI gacts), .ref (o 26), .ref (o 27), .ref (o 28), .ref (o 29), .ref (o 30), .ref (o 31), .ref (o 32), .ref (o 33), .ref (o 34), .ref (o 35)])), ((o 26), .inl (k 0, 12, .inl f26)), ((o 29), .inl (k 0, 12, .inl f29)), ((o 30), .inl (k 0, 12, .inl f30)), ((o 31), .inl (k 0, 12, .inl f31)), ((o 32), .inl (k 0, 4, .inl f32))] H → va_S A s.heap H locs → lv_has ls 4 [(3, .int (nI j_21)), (2, .int x_23), (1, .int x_22), (0, .ref (o 7))] → W p l e (Rm 1 0 0) s m args below meth c H locs 0 0 Q (F0 m 6 ls []) := by
    intro nn
    induction nn with
    | zero => intro j_21 x_22 x_23 H locs ls hlj_21 hjj_21 hnj_21; exact absurd hnj_21 (by omega)
    | succ nn ihj_21 =>
      intro j_21 x_22 x_23 H locs ls hlj_21 hjj_21 hnj_21 hP hS hl
      refine lv_iload_n hx hb dX7_longestQuiet_6 rfl (lv_at hl 0 rfl) ?_
      refine lv_aload_n hx hb dX7_longestQuiet_7 rfl (lv_at hl 3 rfl) ?_
      refine x_get S hK hP 0 rfl cfX7 0 lkX7_9 (by decide) rfl dX7_longestQuiet_8 ?_
      refine x_get S hK hP 7 rfl cfX2 1 lkX7_54 (by decide) rfl dX7_longestQuiet_11 ?_
      refine lv_icmp_gt (tgt := 45) hx hb dX7_longestQuiet_14 (by decide) (fun c_25 => ?_) (fun c_25 => ?_)
      · skip
        have c_25 : ghours < j_21 := (ni_lt rfl rfl (by omega) (by omega)).mp c_25
        refine lv_iload_n hx hb dX7_longestQuiet_45 rfl (lv_at hl 2 rfl) ?_
        exact x_reti S hr hlk hQ hS () trivial x_T dX7_longestQuiet_46
      · skip
        have c_25 : ¬ ghours < j_21 := fun q => c_25 ((ni_lt rfl rfl (by omega) (by omega)).mpr q)
        refine lv_aload_n hx hb dX7_longestQuiet_17 rfl (lv_at hl 3 rfl) ?_
        refine lv_iload_n hx hb dX7_longestQuiet_18 rfl (lv_at hl 0 rfl) ?_
        refine x_roVi (As := [.int (nI j_21)]) S hK hP hDW hZ hAB hBA hS hA hl mwX7_turnedAt lkX7_58 (ctX7_turnedAt l D k z o clawNow charder ctold creply cwet f72 f69 f70 f71 glines ghours glaw godds grows gheads gsayings gslugs gacts f26 f29 f30 f31 f32 j_21 (by omega) (by omega) (by omega) (by omega) (by omega) (by omega) (by omega)) [0, 1, 2, 3, 4, 5, 6, 7, 8, 9, 10, 11, 12] rfl (by decide) rfl rfl rfl rfl rfl ⟨Nat.le_of_ble_eq_true rfl, Nat.le_of_ble_eq_true rfl, Nat.le_of_ble_eq_true rfl⟩ dX7_longestQuiet_19 ⟨Nat.le_of_ble_eq_true rfl, Nat.le_of_ble_eq_true rfl⟩ (fun r_26 H locs hr_26 hP hS => ?_)
        refine lv_if_ne (tgt := 31) hx hb dX7_longestQuiet_22 (by decide) (fun c_28 => ?_) (fun c_28 => ?_)
        · skip
          refine lv_iconst (v := 0) hx hb dX7_longestQuiet_31 (by decide) ?_
          refine lv_istore_n (lv' := [(2, .int 0), (3, .int (nI j_21)), (1, .int x_22), (0, .ref (o 7))]) hx hb dX7_longestQuiet_32 rfl hl (by decide) rfl (fun ls hl => ?_)
          refine lv_iload_n hx hb dX7_longestQuiet_33 rfl (lv_at hl 2 rfl) ?_
          refine lv_iload_n hx hb dX7_longestQuiet_34 rfl (lv_at hl 0 rfl) ?_
          refine x_mmax S hl lkX7_77 (Nat.le_of_ble_eq_true rfl) (Nat.le_of_ble_eq_true rfl) ⟨Nat.le_of_ble_eq_true rfl, Nat.le_of_ble_eq_true rfl⟩ dX7_longestQuiet_35 (fun v_29 ev_29 => ?_)
          refine lv_istore_n (lv' := [(1, .int v_29), (2, .int 0), (3, .int (nI j_21)), (0, .ref (o 7))]) hx hb dX7_longestQuiet_38 rfl hl (by decide) rfl (fun ls hl => ?_)
          refine lv_iinc (v := (nI (j_21 + 1))) (lv' := [(3, .int (nI (j_21 + 1))), (1, .int v_29), (2, .int 0), (0, .ref (o 7))]) hx hb dX7_longestQuiet_39 hl (k := 2) rfl (ni_inc _) (by decide) rfl (fun ls hl => ?_)
          refine lv_goto (tgt := 6) hx hb dX7_longestQuiet_42 (by decide) ?_
          exact ihj_21 (j_21 + 1) v_29 0 _ _ _ (by omega) (by omega) (by omega) hP hS (lv_sub hl [0, 2, 1, 3] rfl)
        · skip
          refine lv_iload_n hx hb dX7_longestQuiet_25 rfl (lv_at hl 1 rfl) ?_
          refine lv_iconst (v := 1) hx hb dX7_longestQuiet_26 (by decide) ?_
          refine lv_iadd hx hb dX7_longestQuiet_27 ?_
          refine lv_topi (fun v_30 ev_30 => ?_)
          refine lv_goto (tgt := 32) hx hb dX7_longestQuiet_28 (by decide) ?_
          refine lv_istore_n (lv' := [(2, .int v_30), (3, .int (nI j_21)), (1, .int x_22), (0, .ref (o 7))]) hx hb dX7_longestQuiet_32 rfl hl (by decide) rfl (fun ls hl => ?_)
          refine lv_iload_n hx hb dX7_longestQuiet_33 rfl (lv_at hl 2 rfl) ?_
          refine lv_iload_n hx hb dX7_longestQuiet_34 rfl (lv_at hl 0 rfl) ?_
          refine x_mmax S hl lkX7_77 (Nat.le_of_ble_eq_true rfl) (Nat.le_of_ble_eq_true rfl) ⟨Nat.le_of_ble_eq_true rfl, Nat.le_of_ble_eq_true rfl⟩ dX7_longestQuiet_35 (fun v_31 ev_31 => ?_)
          refine lv_istore_n (lv' := [(1, .int v_31), (2, .int v_30), (3, .int (nI j_21)), (0, .ref (o 7))]) hx hb dX7_longestQuiet_38 rfl hl (by decide) rfl (fun ls hl => ?_)
          refine lv_iinc (v := (nI (j_21 + 1))) (lv' := [(3, .int (nI (j_21 + 1))), (1, .int v_31), (2, .int v_30), (0, .ref (o 7))]) hx hb dX7_longestQuiet_39 hl (k := 2) rfl (ni_inc _) (by decide) rfl (fun ls hl => ?_)
          refine lv_goto (tgt := 6) hx hb dX7_longestQuiet_42 (by decide) ?_
          exact ihj_21 (j_21 + 1) v_31 v_30 _ _ _ (by omega) (by omega) (by omega) hP hS (lv_sub hl [0, 2, 1, 3] rfl)
  exact lp_24 (ghours + 1 + 1) 1 0 0 _ _ _ (by omega) (by omega) (by omega) hP hS (lv_sub hl [0, 1, 2, 3] rfl)

set_option maxHeartbeats 4000000 in
set_option maxRecDepth 100000 in
theorem ctX7_passAfter (l : Launch) (D : va_G) (k : Nat → ClassId) (z : Nat → Nat) (o : Nat → Nat) (clawNow : Int32) (charder : Int32) (ctold : Int32) (creply : Int32) (cwet : Int32) (f72 : Nat → Int32) (f69 : Nat → Int32) (f70 : Nat → Int32) (f71 : Nat → Int32) (glines : Int32) (ghours : Nat) (glaw : Int32) (godds : Int32) (grows : Nat) (gheads : Nat) (gsayings : Nat) (gslugs : Nat) (gacts : Nat) (f26 : Nat → Int32) (f29 : Nat → Int32) (f30 : Nat → Int32) (f31 : Nat → Int32) (f32 : Nat → Int32) (p0 : Int32) (hghours : ghours ≤ 16) (hgrows : grows ≤ 4) (hgheads : gheads ≤ 12) (hgsayings : gsayings ≤ 8) (hgslugs : gslugs ≤ 4) (hgacts : gacts ≤ 30) : RO l yX7_passAfter cX7_passAfter 2 (some .int) 3 D k z [.ref (o 7), .int p0] [((o 7), .inr (7, [.ref (o 3), .ref (o 4), .ref (o 5)])), ((o 5), .inr (1, [.ref (o 3), .ref (o 4), .int clawNow, .int charder, .int ctold, .int creply, .int cwet, .ref (o 72)])), ((o 72), .inl (k 0, 17, .inl f72)), ((o 4), .inr (3, [.ref (o 69), .ref (o 70), .ref (o 71)])), ((o 69), .inl (k 0, 17, .inl f69)), ((o 70), .inl (k 0, 17, .inl f70)), ((o 71), .inl (k 0, 17, .inl f71)), ((o 3), .inr (2, [.int glines, .int (nI ghours), .int glaw, .int godds, .int (nI grows), .int (nI gheads), .int (nI gsayings), .int (nI gslugs), .int (nI gacts), .ref (o 26), .ref (o 27), .ref (o 28), .ref (o 29), .ref (o 30), .ref (o 31), .ref (o 32), .ref (o 33), .ref (o 34), .ref (o 35)])), ((o 26), .inl (k 0, 12, .inl f26)), ((o 29), .inl (k 0, 12, .inl f29)), ((o 30), .inl (k 0, 12, .inl f30)), ((o 31), .inl (k 0, 12, .inl f31)), ((o 32), .inl (k 0, 4, .inl f32))] (Qi (fun r : Int32 => True)) := by
  refine RO.of (by decide) (Nat.le_of_ble_eq_true rfl) ?_
  intro p e s m below meth c ls A B args Q S hr hlk hQ hK hP hDW hZ hAB hBA hA hS hl
  have hx := S.1
  have hb := S.2.1
  have hl : lv_has ls 2 [(0, .ref (o 7)), (1, .int p0)] := hl
  refine lv_aload_n hx hb dX7_passAfter_0 rfl (lv_at hl 0 rfl) ?_
  refine x_get S hK hP 0 rfl cfX7 2 lkX7_19 (by decide) rfl dX7_passAfter_1 ?_
  refine lv_aload_n hx hb dX7_passAfter_4 rfl (lv_at hl 0 rfl) ?_
  refine lv_aload_n hx hb dX7_passAfter_5 rfl (lv_at hl 0 rfl) ?_
  refine x_get S hK hP 0 rfl cfX7 0 lkX7_9 (by decide) rfl dX7_passAfter_6 ?_
  refine x_get S hK hP 7 rfl cfX2 1 lkX7_54 (by decide) rfl dX7_passAfter_9 ?_
  refine x_roVi (As := [.int (nI ghours)]) S hK hP hDW hZ hAB hBA hS hA hl mwX7_aliveAt lkX7_35 (ctX7_aliveAt l D k z o clawNow charder ctold creply cwet f72 f69 f70 f71 glines ghours glaw godds grows gheads gsayings gslugs gacts f26 f29 f30 f31 f32 ghours (by omega) (by omega) (by omega) (by omega) (by omega) (by omega) (by omega)) [0, 1, 2, 3, 4, 5, 6, 7, 8, 9, 10, 11, 12] rfl (by decide) rfl rfl rfl rfl rfl ⟨Nat.le_of_ble_eq_true rfl, Nat.le_of_ble_eq_true rfl, Nat.le_of_ble_eq_true rfl⟩ dX7_passAfter_12 ⟨Nat.le_of_ble_eq_true rfl, Nat.le_of_ble_eq_true rfl⟩ (fun r_1 H locs hr_1 hP hS => ?_)
  refine lv_iload_n hx hb dX7_passAfter_15 rfl (lv_at hl 1 rfl) ?_
  refine x_roVi (As := [.int r_1, .int p0]) S hK hP hDW hZ hAB hBA hS hA hl mwX1_passTo lkX7_82 (ctX1_passTo_c l D k z o clawNow charder ctold creply cwet f72 f69 f70 f71 glines ghours glaw godds grows gheads gsayings gslugs gacts f26 f30 f31 r_1 p0 (by omega) (by omega) (by omega) (by omega) (by omega) (by omega)) [1, 2, 3, 4, 5, 6, 7, 8, 10, 11] rfl (by decide) rfl rfl rfl rfl rfl ⟨Nat.le_of_ble_eq_true rfl, Nat.le_of_ble_eq_true rfl, Nat.le_of_ble_eq_true rfl⟩ dX7_passAfter_16 ⟨Nat.le_of_ble_eq_true rfl, Nat.le_of_ble_eq_true rfl⟩ (fun r_3 H locs hr_3 hP hS => ?_)
  exact x_reti S hr hlk hQ hS () trivial x_T dX7_passAfter_19

set_option maxHeartbeats 4000000 in
set_option maxRecDepth 100000 in
theorem ctX7_circleLength (l : Launch) (D : va_G) (k : Nat → ClassId) (z : Nat → Nat) (o : Nat → Nat) (clawNow : Int32) (charder : Int32) (ctold : Int32) (creply : Int32) (cwet : Int32) (f72 : Nat → Int32) (f69 : Nat → Int32) (f70 : Nat → Int32) (f71 : Nat → Int32) (glines : Int32) (ghours : Nat) (glaw : Int32) (godds : Int32) (grows : Nat) (gheads : Nat) (gsayings : Nat) (gslugs : Nat) (gacts : Nat) (f26 : Nat → Int32) (f29 : Nat → Int32) (f30 : Nat → Int32) (f31 : Nat → Int32) (f32 : Nat → Int32) (hghours : ghours ≤ 16) (hgrows : grows ≤ 4) (hgheads : gheads ≤ 12) (hgsayings : gsayings ≤ 8) (hgslugs : gslugs ≤ 4) (hgacts : gacts ≤ 30) : RO l yX7_circleLength cX7_circleLength 6 (some .int) 4 D k z [.ref (o 7)] [((o 7), .inr (7, [.ref (o 3), .ref (o 4), .ref (o 5)])), ((o 5), .inr (1, [.ref (o 3), .ref (o 4), .int clawNow, .int charder, .int ctold, .int creply, .int cwet, .ref (o 72)])), ((o 72), .inl (k 0, 17, .inl f72)), ((o 4), .inr (3, [.ref (o 69), .ref (o 70), .ref (o 71)])), ((o 69), .inl (k 0, 17, .inl f69)), ((o 70), .inl (k 0, 17, .inl f70)), ((o 71), .inl (k 0, 17, .inl f71)), ((o 3), .inr (2, [.int glines, .int (nI ghours), .int glaw, .int godds, .int (nI grows), .int (nI gheads), .int (nI gsayings), .int (nI gslugs), .int (nI gacts), .ref (o 26), .ref (o 27), .ref (o 28), .ref (o 29), .ref (o 30), .ref (o 31), .ref (o 32), .ref (o 33), .ref (o 34), .ref (o 35)])), ((o 26), .inl (k 0, 12, .inl f26)), ((o 29), .inl (k 0, 12, .inl f29)), ((o 30), .inl (k 0, 12, .inl f30)), ((o 31), .inl (k 0, 12, .inl f31)), ((o 32), .inl (k 0, 4, .inl f32))] (Qi (fun r : Int32 => (∃ q : Nat, r = nI q ∧ q ≤ 1100001))) := by
  refine RO.of (by decide) (Nat.le_of_ble_eq_true rfl) ?_
  intro p e s m below meth c ls A B args Q S hr hlk hQ hK hP hDW hZ hAB hBA hA hS hl
  have hx := S.1
  have hb := S.2.1
  have hl : lv_has ls 6 [(0, .ref (o 7))] := hl
  refine lv_aload_n hx hb dX7_circleLength_0 rfl (lv_at hl 0 rfl) ?_
  refine x_get S hK hP 0 rfl cfX7 2 lkX7_19 (by decide) rfl dX7_circleLength_1 ?_
  refine x_roVi (As := []) S hK hP hDW hZ hAB hBA hS hA hl mwX1_lastState lkX7_85 (ctX1_lastState_c l D k z o clawNow charder ctold creply cwet f72 f69 f70 f71 glines ghours glaw godds grows gheads gsayings gslugs gacts f26 f30 f31 (by omega) (by omega) (by omega) (by omega) (by omega) (by omega)) [1, 2, 3, 4, 5, 6, 7, 8, 10, 11] rfl (by decide) rfl rfl rfl rfl rfl ⟨Nat.le_of_ble_eq_true rfl, Nat.le_of_ble_eq_true rfl, Nat.le_of_ble_eq_true rfl⟩ dX7_circleLength_4 ⟨Nat.le_of_ble_eq_true rfl, Nat.le_of_ble_eq_true rfl⟩ (fun r_1 H locs hr_1 hP hS => ?_)
  refine lv_istore_n (lv' := [(1, .int r_1), (0, .ref (o 7))]) hx hb dX7_circleLength_7 rfl hl (by decide) rfl (fun ls hl => ?_)
  refine lv_aload_n hx hb dX7_circleLength_8 rfl (lv_at hl 1 rfl) ?_
  refine lv_iload_n hx hb dX7_circleLength_9 rfl (lv_at hl 0 rfl) ?_
  refine x_roVi (As := [.int r_1]) S hK hP hDW hZ hAB hBA hS hA hl mwX7_passAfter lkX7_88 (ctX7_passAfter l D k z o clawNow charder ctold creply cwet f72 f69 f70 f71 glines ghours glaw godds grows gheads gsayings gslugs gacts f26 f29 f30 f31 f32 r_1 (by omega) (by omega) (by omega) (by omega) (by omega) (by omega)) [0, 1, 2, 3, 4, 5, 6, 7, 8, 9, 10, 11, 12] rfl (by decide) rfl rfl rfl rfl rfl ⟨Nat.le_of_ble_eq_true rfl, Nat.le_of_ble_eq_true rfl, Nat.le_of_ble_eq_true rfl⟩ dX7_circleLength_10 ⟨Nat.le_of_ble_eq_true rfl, Nat.le_of_ble_eq_true rfl⟩ (fun r_3 H locs hr_3 hP hS => ?_)
  refine lv_istore_n (lv' := [(2, .int r_3), (1, .int r_1), (0, .ref (o 7))]) hx hb dX7_circleLength_13 rfl hl (by decide) rfl (fun ls hl => ?_)
  refine lv_iconst (v := 1) hx hb dX7_circleLength_14 (by decide) ?_
  refine lv_istore_n (lv' := [(3, .int 1), (2, .int r_3), (1, .int r_1), (0, .ref (o 7))]) hx hb dX7_circleLength_15 rfl hl (by decide) rfl (fun ls hl => ?_)
  refine lv_iconst (v := 1) hx hb dX7_circleLength_16 (by decide) ?_
  refine lv_istore (lv' := [(4, .int 1), (3, .int 1), (2, .int r_3), (1, .int r_1), (0, .ref (o 7))]) hx hb dX7_circleLength_17 hl (by decide) rfl (fun ls hl => ?_)
  refine lv_iconst (v := 0) hx hb dX7_circleLength_19 (by decide) ?_
  refine lv_istore (lv' := [(5, .int 0), (4, .int 1), (3, .int 1), (2, .int r_3), (1, .int r_1), (0, .ref (o 7))]) hx hb dX7_circleLength_20 hl (by decide) rfl (fun ls hl => ?_)
  have lp_41 : ∀ (nn j_36 : Nat) (x_37 : Int32) (x_38 : Int32) (x_39 : Int32) (m_40 : Nat) (H : Heap) (locs : List Loc) (ls : Array Slot), j_36 ≤ 1100000 → 1100000 - j_36 < nn → m_40 ≤ 1100001 → m_40 ≤ j_36 + 1 → va_P D vwCl [((o 7), .inr (7, [.ref (o 3), .ref (o 4), .ref (o 5)])), ((o 5), .inr (1, [.ref (o 3), .ref (o 4), .int clawNow, .int charder, .int ctold, .int creply, .int cwet, .ref (o 72)])), ((o 72), .inl (k 0, 17, .inl f72)), ((o 4), .inr (3, [.ref (o 69), .ref (o 70), .ref (o 71)])), ((o 69), .inl (k 0, 17, .inl f69)), ((o 70), .inl (k 0, 17, .inl f70)), ((o 71), .inl (k 0, 17, .inl f71)), ((o 3), .inr (2, [.int glines, .int (nI ghours), .int glaw, .int godds, .int (nI grows), .int (nI gheads), .int (nI gsayings), .int (nI gslugs), .int (nI gacts), .ref (o 26), .ref (o 27), .ref (o 28), .ref (o 29), .ref (o 30), .ref (o 31), .ref (o 32), .ref (o 33), .ref (o 34), .ref (o 35)])), ((o 26), .inl (k 0, 12, .inl f26)), ((o 29), .inl (k 0, 12, .inl f29)), ((o 30), .inl (k 0, 12, .inl f30)), ((o 31), .inl (k 0, 12, .inl f31)), ((o 32), .inl (k 0, 4, .inl f32))] H → va_S A s.heap H locs → lv_has ls 6 [(5, .int (nI j_36)), (4, .int x_37), (3, .int (nI m_40)), (2, .int x_38), (1, .int x_39), (0, .ref (o 7))] → W p l e (Rm 4 0 0) s m args below meth c H locs 0 0 Q (F0 m 22 ls []) := by
    intro nn
    induction nn with
    | zero => intro j_36 x_37 x_38 x_39 m_40 H locs ls hjj_36 hnj_36 hbm_40 hrelj_36; exact absurd hnj_36 (by omega)
    | succ nn ihj_36 =>
      intro j_36 x_37 x_38 x_39 m_40 H locs ls hjj_36 hnj_36 hbm_40 hrelj_36 hP hS hl
      refine lv_iload hx hb dX7_circleLength_22 (lv_at hl 0 rfl) ?_
      refine lv_ldc hx hb S.2.2.2.1 (S.2.2.2.2 _ lkX7_91) dX7_circleLength_24 ?_
      refine lv_icmp_ge (tgt := 65) hx hb dX7_circleLength_26 (by decide) (fun c_42 => ?_) (fun c_42 => ?_)
      · skip
        have c_42 : 1100000 ≤ j_36 := (ni_le (by decide) rfl (by omega) (by omega)).mp c_42
        refine lv_iload_n hx hb dX7_circleLength_65 rfl (lv_at hl 2 rfl) ?_
        exact x_reti S hr hlk hQ hS () ⟨m_40, rfl, (by omega)⟩ x_T dX7_circleLength_66
      · skip
        have c_42 : ¬ 1100000 ≤ j_36 := fun q => c_42 ((ni_le (by decide) rfl (by omega) (by omega)).mpr q)
        refine lv_iload_n hx hb dX7_circleLength_29 rfl (lv_at hl 3 rfl) ?_
        refine lv_iload_n hx hb dX7_circleLength_30 rfl (lv_at hl 4 rfl) ?_
        refine lv_icmp_eq (tgt := 65) hx hb dX7_circleLength_31 (by decide) (fun c_43 => ?_) (fun c_43 => ?_)
        · skip
          refine lv_iload_n hx hb dX7_circleLength_65 rfl (lv_at hl 2 rfl) ?_
          exact x_reti S hr hlk hQ hS () ⟨m_40, rfl, (by omega)⟩ x_T dX7_circleLength_66
        · skip
          refine lv_iload_n hx hb dX7_circleLength_34 rfl (lv_at hl 2 rfl) ?_
          refine lv_iload hx hb dX7_circleLength_35 (lv_at hl 1 rfl) ?_
          refine lv_icmp_ne (tgt := 50) hx hb dX7_circleLength_37 (by decide) (fun c_44 => ?_) (fun c_44 => ?_)
          · skip
            refine lv_aload_n hx hb dX7_circleLength_50 rfl (lv_at hl 5 rfl) ?_
            refine lv_iload_n hx hb dX7_circleLength_51 rfl (lv_at hl 3 rfl) ?_
            refine x_roVi (As := [.int x_38]) S hK hP hDW hZ hAB hBA hS hA hl mwX7_passAfter lkX7_88 (ctX7_passAfter l D k z o clawNow charder ctold creply cwet f72 f69 f70 f71 glines ghours glaw godds grows gheads gsayings gslugs gacts f26 f29 f30 f31 f32 x_38 (by omega) (by omega) (by omega) (by omega) (by omega) (by omega)) [0, 1, 2, 3, 4, 5, 6, 7, 8, 9, 10, 11, 12] rfl (by decide) rfl rfl rfl rfl rfl ⟨Nat.le_of_ble_eq_true rfl, Nat.le_of_ble_eq_true rfl, Nat.le_of_ble_eq_true rfl⟩ dX7_circleLength_52 ⟨Nat.le_of_ble_eq_true rfl, Nat.le_of_ble_eq_true rfl⟩ (fun r_45 H locs hr_45 hP hS => ?_)
            refine lv_istore_n (lv' := [(2, .int r_45), (5, .int (nI j_36)), (4, .int x_37), (3, .int (nI m_40)), (1, .int x_39), (0, .ref (o 7))]) hx hb dX7_circleLength_55 rfl hl (by decide) rfl (fun ls hl => ?_)
            refine lv_iinc (v := (nI (m_40 + 1))) (lv' := [(3, .int (nI (m_40 + 1))), (2, .int r_45), (5, .int (nI j_36)), (4, .int x_37), (1, .int x_39), (0, .ref (o 7))]) hx hb dX7_circleLength_56 hl (k := 3) rfl (ni_inc _) (by decide) rfl (fun ls hl => ?_)
            refine lv_iinc (v := (nI (j_36 + 1))) (lv' := [(5, .int (nI (j_36 + 1))), (3, .int (nI (m_40 + 1))), (2, .int r_45), (4, .int x_37), (1, .int x_39), (0, .ref (o 7))]) hx hb dX7_circleLength_59 hl (k := 2) rfl (ni_inc _) (by decide) rfl (fun ls hl => ?_)
            refine lv_goto (tgt := 22) hx hb dX7_circleLength_62 (by decide) ?_
            exact ihj_36 (j_36 + 1) x_37 r_45 x_39 (m_40 + 1) _ _ _ (by omega) (by omega) (by omega) (by omega) hP hS (lv_sub hl [0, 3, 1, 2, 4, 5] rfl)
          · skip
            refine lv_iload_n hx hb dX7_circleLength_40 rfl (lv_at hl 3 rfl) ?_
            refine lv_istore_n (lv' := [(1, .int x_38), (5, .int (nI j_36)), (4, .int x_37), (3, .int (nI m_40)), (2, .int x_38), (0, .ref (o 7))]) hx hb dX7_circleLength_41 rfl hl (by decide) rfl (fun ls hl => ?_)
            refine lv_iload hx hb dX7_circleLength_42 (lv_at hl 2 rfl) ?_
            refine lv_iconst (v := 2) hx hb dX7_circleLength_44 (by decide) ?_
            refine lv_imul hx hb dX7_circleLength_45 ?_
            refine lv_topi (fun v_47 ev_47 => ?_)
            refine lv_istore (lv' := [(4, .int v_47), (1, .int x_38), (5, .int (nI j_36)), (3, .int (nI m_40)), (2, .int x_38), (0, .ref (o 7))]) hx hb dX7_circleLength_46 hl (by decide) rfl (fun ls hl => ?_)
            refine lv_iconst (v := 0) hx hb dX7_circleLength_48 (by decide) ?_
            refine lv_istore_n (lv' := [(3, .int 0), (4, .int v_47), (1, .int x_38), (5, .int (nI j_36)), (2, .int x_38), (0, .ref (o 7))]) hx hb dX7_circleLength_49 rfl hl (by decide) rfl (fun ls hl => ?_)
            refine lv_aload_n hx hb dX7_circleLength_50 rfl (lv_at hl 5 rfl) ?_
            refine lv_iload_n hx hb dX7_circleLength_51 rfl (lv_at hl 4 rfl) ?_
            refine x_roVi (As := [.int x_38]) S hK hP hDW hZ hAB hBA hS hA hl mwX7_passAfter lkX7_88 (ctX7_passAfter l D k z o clawNow charder ctold creply cwet f72 f69 f70 f71 glines ghours glaw godds grows gheads gsayings gslugs gacts f26 f29 f30 f31 f32 x_38 (by omega) (by omega) (by omega) (by omega) (by omega) (by omega)) [0, 1, 2, 3, 4, 5, 6, 7, 8, 9, 10, 11, 12] rfl (by decide) rfl rfl rfl rfl rfl ⟨Nat.le_of_ble_eq_true rfl, Nat.le_of_ble_eq_true rfl, Nat.le_of_ble_eq_true rfl⟩ dX7_circleLength_52 ⟨Nat.le_of_ble_eq_true rfl, Nat.le_of_ble_eq_true rfl⟩ (fun r_48 H locs hr_48 hP hS => ?_)
            refine lv_istore_n (lv' := [(2, .int r_48), (3, .int 0), (4, .int v_47), (1, .int x_38), (5, .int (nI j_36)), (0, .ref (o 7))]) hx hb dX7_circleLength_55 rfl hl (by decide) rfl (fun ls hl => ?_)
            refine lv_iinc (v := 1) (lv' := [(3, .int 1), (2, .int r_48), (4, .int v_47), (1, .int x_38), (5, .int (nI j_36)), (0, .ref (o 7))]) hx hb dX7_circleLength_56 hl (k := 1) rfl (by decide) (by decide) rfl (fun ls hl => ?_)
            refine lv_iinc (v := (nI (j_36 + 1))) (lv' := [(5, .int (nI (j_36 + 1))), (3, .int 1), (2, .int r_48), (4, .int v_47), (1, .int x_38), (0, .ref (o 7))]) hx hb dX7_circleLength_59 hl (k := 4) rfl (ni_inc _) (by decide) rfl (fun ls hl => ?_)
            refine lv_goto (tgt := 22) hx hb dX7_circleLength_62 (by decide) ?_
            exact ihj_36 (j_36 + 1) v_47 r_48 x_38 1 _ _ _ (by omega) (by omega) (by omega) (by omega) hP hS (lv_sub hl [0, 3, 1, 2, 4, 5] rfl)
  exact lp_41 (1100000 + 1) 0 1 r_3 r_1 1 _ _ _ (by omega) (by omega) (by omega) (by omega) hP hS (lv_sub hl [0, 1, 2, 3, 4, 5] rfl)

set_option maxHeartbeats 4000000 in
set_option maxRecDepth 100000 in
theorem ctX7_circleEntry (l : Launch) (D : va_G) (k : Nat → ClassId) (z : Nat → Nat) (o : Nat → Nat) (clawNow : Int32) (charder : Int32) (ctold : Int32) (creply : Int32) (cwet : Int32) (f72 : Nat → Int32) (f69 : Nat → Int32) (f70 : Nat → Int32) (f71 : Nat → Int32) (glines : Int32) (ghours : Nat) (glaw : Int32) (godds : Int32) (grows : Nat) (gheads : Nat) (gsayings : Nat) (gslugs : Nat) (gacts : Nat) (f26 : Nat → Int32) (f29 : Nat → Int32) (f30 : Nat → Int32) (f31 : Nat → Int32) (f32 : Nat → Int32) (p0 : Nat) (hghours : ghours ≤ 16) (hgrows : grows ≤ 4) (hgheads : gheads ≤ 12) (hgsayings : gsayings ≤ 8) (hgslugs : gslugs ≤ 4) (hgacts : gacts ≤ 30) (hp0 : p0 ≤ 1100001) : RO l yX7_circleEntry cX7_circleEntry 6 (some .int) 4 D k z [.ref (o 7), .int (nI p0)] [((o 7), .inr (7, [.ref (o 3), .ref (o 4), .ref (o 5)])), ((o 5), .inr (1, [.ref (o 3), .ref (o 4), .int clawNow, .int charder, .int ctold, .int creply, .int cwet, .ref (o 72)])), ((o 72), .inl (k 0, 17, .inl f72)), ((o 4), .inr (3, [.ref (o 69), .ref (o 70), .ref (o 71)])), ((o 69), .inl (k 0, 17, .inl f69)), ((o 70), .inl (k 0, 17, .inl f70)), ((o 71), .inl (k 0, 17, .inl f71)), ((o 3), .inr (2, [.int glines, .int (nI ghours), .int glaw, .int godds, .int (nI grows), .int (nI gheads), .int (nI gsayings), .int (nI gslugs), .int (nI gacts), .ref (o 26), .ref (o 27), .ref (o 28), .ref (o 29), .ref (o 30), .ref (o 31), .ref (o 32), .ref (o 33), .ref (o 34), .ref (o 35)])), ((o 26), .inl (k 0, 12, .inl f26)), ((o 29), .inl (k 0, 12, .inl f29)), ((o 30), .inl (k 0, 12, .inl f30)), ((o 31), .inl (k 0, 12, .inl f31)), ((o 32), .inl (k 0, 4, .inl f32))] (Qi (fun r : Int32 => True)) := by
  refine RO.of (by decide) (Nat.le_of_ble_eq_true rfl) ?_
  intro p e s m below meth c ls A B args Q S hr hlk hQ hK hP hDW hZ hAB hBA hA hS hl
  have hx := S.1
  have hb := S.2.1
  have hl : lv_has ls 6 [(0, .ref (o 7)), (1, .int (nI p0))] := hl
  refine lv_aload_n hx hb dX7_circleEntry_0 rfl (lv_at hl 0 rfl) ?_
  refine x_get S hK hP 0 rfl cfX7 2 lkX7_19 (by decide) rfl dX7_circleEntry_1 ?_
  refine x_roVi (As := []) S hK hP hDW hZ hAB hBA hS hA hl mwX1_lastState lkX7_85 (ctX1_lastState_c l D k z o clawNow charder ctold creply cwet f72 f69 f70 f71 glines ghours glaw godds grows gheads gsayings gslugs gacts f26 f30 f31 (by omega) (by omega) (by omega) (by omega) (by omega) (by omega)) [1, 2, 3, 4, 5, 6, 7, 8, 10, 11] rfl (by decide) rfl rfl rfl rfl rfl ⟨Nat.le_of_ble_eq_true rfl, Nat.le_of_ble_eq_true rfl, Nat.le_of_ble_eq_true rfl⟩ dX7_circleEntry_4 ⟨Nat.le_of_ble_eq_true rfl, Nat.le_of_ble_eq_true rfl⟩ (fun r_1 H locs hr_1 hP hS => ?_)
  refine lv_istore_n (lv' := [(2, .int r_1), (0, .ref (o 7)), (1, .int (nI p0))]) hx hb dX7_circleEntry_7 rfl hl (by decide) rfl (fun ls hl => ?_)
  refine lv_iload_n hx hb dX7_circleEntry_8 rfl (lv_at hl 0 rfl) ?_
  refine lv_istore_n (lv' := [(3, .int r_1), (2, .int r_1), (0, .ref (o 7)), (1, .int (nI p0))]) hx hb dX7_circleEntry_9 rfl hl (by decide) rfl (fun ls hl => ?_)
  refine lv_iconst (v := 0) hx hb dX7_circleEntry_10 (by decide) ?_
  refine lv_istore (lv' := [(4, .int 0), (3, .int r_1), (2, .int r_1), (0, .ref (o 7)), (1, .int (nI p0))]) hx hb dX7_circleEntry_11 hl (by decide) rfl (fun ls hl => ?_)
  have lp_15 : ∀ (nn j_13 : Nat) (x_14 : Int32) (H : Heap) (locs : List Loc) (ls : Array Slot), j_13 ≤ p0 → p0 - j_13 < nn → va_P D vwCl [((o 7), .inr (7, [.ref (o 3), .ref (o 4), .ref (o 5)])), ((o 5), .inr (1, [.ref (o 3), .ref (o 4), .int clawNow, .int charder, .int ctold, .int creply, .int cwet, .ref (o 72)])), ((o 72), .inl (k 0, 17, .inl f72)), ((o 4), .inr (3, [.ref (o 69), .ref (o 70), .ref (o 71)])), ((o 69), .inl (k 0, 17, .inl f69)), ((o 70), .inl (k 0, 17, .inl f70)), ((o 71), .inl (k 0, 17, .inl f71)), ((o 3), .inr (2, [.int glines, .int (nI ghours), .int glaw, .int godds, .int (nI grows), .int (nI gheads), .int (nI gsayings), .int (nI gslugs), .int (nI gacts), .ref (o 26), .ref (o 27), .ref (o 28), .ref (o 29), .ref (o 30), .ref (o 31), .ref (o 32), .ref (o 33), .ref (o 34), .ref (o 35)])), ((o 26), .inl (k 0, 12, .inl f26)), ((o 29), .inl (k 0, 12, .inl f29)), ((o 30), .inl (k 0, 12, .inl f30)), ((o 31), .inl (k 0, 12, .inl f31)), ((o 32), .inl (k 0, 4, .inl f32))] H → va_S A s.heap H locs → lv_has ls 6 [(4, .int (nI j_13)), (3, .int x_14), (2, .int r_1), (0, .ref (o 7)), (1, .int (nI p0))] → W p l e (Rm 4 0 0) s m args below meth c H locs 0 0 Q (F0 m 13 ls []) := by
    intro nn
    induction nn with
    | zero => intro j_13 x_14 H locs ls hjj_13 hnj_13; exact absurd hnj_13 (by omega)
    | succ nn ihj_13 =>
      intro j_13 x_14 H locs ls hjj_13 hnj_13 hP hS hl
      refine lv_iload hx hb dX7_circleEntry_13 (lv_at hl 0 rfl) ?_
      refine lv_iload_n hx hb dX7_circleEntry_15 rfl (lv_at hl 4 rfl) ?_
      refine lv_icmp_ge (tgt := 31) hx hb dX7_circleEntry_16 (by decide) (fun c_16 => ?_) (fun c_16 => ?_)
      · skip
        have c_16 : p0 ≤ j_13 := (ni_le rfl rfl (by omega) (by omega)).mp c_16
        refine lv_iconst (v := 0) hx hb dX7_circleEntry_31 (by decide) ?_
        refine lv_istore (lv' := [(4, .int 0), (3, .int x_14), (2, .int r_1), (0, .ref (o 7)), (1, .int (nI p0))]) hx hb dX7_circleEntry_32 hl (by decide) rfl (fun ls hl => ?_)
        refine lv_iconst (v := 0) hx hb dX7_circleEntry_34 (by decide) ?_
        refine lv_istore (lv' := [(5, .int 0), (4, .int 0), (3, .int x_14), (2, .int r_1), (0, .ref (o 7)), (1, .int (nI p0))]) hx hb dX7_circleEntry_35 hl (by decide) rfl (fun ls hl => ?_)
        have lp_39 : ∀ (nn j_35 : Nat) (x_36 : Int32) (x_37 : Int32) (x_38 : Int32) (H : Heap) (locs : List Loc) (ls : Array Slot), j_35 ≤ 1100000 → 1100000 - j_35 < nn → va_P D vwCl [((o 7), .inr (7, [.ref (o 3), .ref (o 4), .ref (o 5)])), ((o 5), .inr (1, [.ref (o 3), .ref (o 4), .int clawNow, .int charder, .int ctold, .int creply, .int cwet, .ref (o 72)])), ((o 72), .inl (k 0, 17, .inl f72)), ((o 4), .inr (3, [.ref (o 69), .ref (o 70), .ref (o 71)])), ((o 69), .inl (k 0, 17, .inl f69)), ((o 70), .inl (k 0, 17, .inl f70)), ((o 71), .inl (k 0, 17, .inl f71)), ((o 3), .inr (2, [.int glines, .int (nI ghours), .int glaw, .int godds, .int (nI grows), .int (nI gheads), .int (nI gsayings), .int (nI gslugs), .int (nI gacts), .ref (o 26), .ref (o 27), .ref (o 28), .ref (o 29), .ref (o 30), .ref (o 31), .ref (o 32), .ref (o 33), .ref (o 34), .ref (o 35)])), ((o 26), .inl (k 0, 12, .inl f26)), ((o 29), .inl (k 0, 12, .inl f29)), ((o 30), .inl (k 0, 12, .inl f30)), ((o 31), .inl (k 0, 12, .inl f31)), ((o 32), .inl (k 0, 4, .inl f32))] H → va_S A s.heap H locs → lv_has ls 6 [(5, .int (nI j_35)), (4, .int x_36), (3, .int x_37), (2, .int x_38), (0, .ref (o 7)), (1, .int (nI p0))] → W p l e (Rm 4 0 0) s m args below meth c H locs 0 0 Q (F0 m 37 ls []) := by
          intro nn
          induction nn with
          | zero => intro j_35 x_36 x_37 x_38 H locs ls hjj_35 hnj_35; exact absurd hnj_35 (by omega)
          | succ nn ihj_35 =>
            intro j_35 x_36 x_37 x_38 H locs ls hjj_35 hnj_35 hP hS hl
            refine lv_iload hx hb dX7_circleEntry_37 (lv_at hl 0 rfl) ?_
            refine lv_ldc hx hb S.2.2.2.1 (S.2.2.2.2 _ lkX7_91) dX7_circleEntry_39 ?_
            refine lv_icmp_ge (tgt := 70) hx hb dX7_circleEntry_41 (by decide) (fun c_40 => ?_) (fun c_40 => ?_)
            · skip
              have c_40 : 1100000 ≤ j_35 := (ni_le (by decide) rfl (by omega) (by omega)).mp c_40
              refine lv_iload hx hb dX7_circleEntry_70 (lv_at hl 1 rfl) ?_
              exact x_reti S hr hlk hQ hS () trivial x_T dX7_circleEntry_72
            · skip
              have c_40 : ¬ 1100000 ≤ j_35 := fun q => c_40 ((ni_le (by decide) rfl (by omega) (by omega)).mpr q)
              refine lv_iload_n hx hb dX7_circleEntry_44 rfl (lv_at hl 3 rfl) ?_
              refine lv_iload_n hx hb dX7_circleEntry_45 rfl (lv_at hl 2 rfl) ?_
              refine lv_icmp_eq (tgt := 70) hx hb dX7_circleEntry_46 (by decide) (fun c_41 => ?_) (fun c_41 => ?_)
              · skip
                refine lv_iload hx hb dX7_circleEntry_70 (lv_at hl 1 rfl) ?_
                exact x_reti S hr hlk hQ hS () trivial x_T dX7_circleEntry_72
              · skip
                refine lv_aload_n hx hb dX7_circleEntry_49 rfl (lv_at hl 4 rfl) ?_
                refine lv_iload_n hx hb dX7_circleEntry_50 rfl (lv_at hl 3 rfl) ?_
                refine x_roVi (As := [.int x_38]) S hK hP hDW hZ hAB hBA hS hA hl mwX7_passAfter lkX7_88 (ctX7_passAfter l D k z o clawNow charder ctold creply cwet f72 f69 f70 f71 glines ghours glaw godds grows gheads gsayings gslugs gacts f26 f29 f30 f31 f32 x_38 (by omega) (by omega) (by omega) (by omega) (by omega) (by omega)) [0, 1, 2, 3, 4, 5, 6, 7, 8, 9, 10, 11, 12] rfl (by decide) rfl rfl rfl rfl rfl ⟨Nat.le_of_ble_eq_true rfl, Nat.le_of_ble_eq_true rfl, Nat.le_of_ble_eq_true rfl⟩ dX7_circleEntry_51 ⟨Nat.le_of_ble_eq_true rfl, Nat.le_of_ble_eq_true rfl⟩ (fun r_42 H locs hr_42 hP hS => ?_)
                refine lv_istore_n (lv' := [(2, .int r_42), (5, .int (nI j_35)), (4, .int x_36), (3, .int x_37), (0, .ref (o 7)), (1, .int (nI p0))]) hx hb dX7_circleEntry_54 rfl hl (by decide) rfl (fun ls hl => ?_)
                refine lv_aload_n hx hb dX7_circleEntry_55 rfl (lv_at hl 4 rfl) ?_
                refine lv_iload_n hx hb dX7_circleEntry_56 rfl (lv_at hl 3 rfl) ?_
                refine x_roVi (As := [.int x_37]) S hK hP hDW hZ hAB hBA hS hA hl mwX7_passAfter lkX7_88 (ctX7_passAfter l D k z o clawNow charder ctold creply cwet f72 f69 f70 f71 glines ghours glaw godds grows gheads gsayings gslugs gacts f26 f29 f30 f31 f32 x_37 (by omega) (by omega) (by omega) (by omega) (by omega) (by omega)) [0, 1, 2, 3, 4, 5, 6, 7, 8, 9, 10, 11, 12] rfl (by decide) rfl rfl rfl rfl rfl ⟨Nat.le_of_ble_eq_true rfl, Nat.le_of_ble_eq_true rfl, Nat.le_of_ble_eq_true rfl⟩ dX7_circleEntry_57 ⟨Nat.le_of_ble_eq_true rfl, Nat.le_of_ble_eq_true rfl⟩ (fun r_44 H locs hr_44 hP hS => ?_)
                refine lv_istore_n (lv' := [(3, .int r_44), (2, .int r_42), (5, .int (nI j_35)), (4, .int x_36), (0, .ref (o 7)), (1, .int (nI p0))]) hx hb dX7_circleEntry_60 rfl hl (by decide) rfl (fun ls hl => ?_)
                obtain ⟨v_46, ev_46⟩ : ∃ y : Int32, y = x_36 + Int32.ofInt (1) := ⟨_, rfl⟩
                refine lv_iinc (v := v_46) (lv' := [(4, .int v_46), (3, .int r_44), (2, .int r_42), (5, .int (nI j_35)), (0, .ref (o 7)), (1, .int (nI p0))]) hx hb dX7_circleEntry_61 hl (k := 3) rfl ev_46.symm (by decide) rfl (fun ls hl => ?_)
                refine lv_iinc (v := (nI (j_35 + 1))) (lv' := [(5, .int (nI (j_35 + 1))), (4, .int v_46), (3, .int r_44), (2, .int r_42), (0, .ref (o 7)), (1, .int (nI p0))]) hx hb dX7_circleEntry_64 hl (k := 3) rfl (ni_inc _) (by decide) rfl (fun ls hl => ?_)
                refine lv_goto (tgt := 37) hx hb dX7_circleEntry_67 (by decide) ?_
                exact ihj_35 (j_35 + 1) v_46 r_44 r_42 _ _ _ (by omega) (by omega) hP hS (lv_sub hl [0, 1, 2, 3, 4, 5] rfl)
        exact lp_39 (1100000 + 1) 0 0 x_14 r_1 _ _ _ (by omega) (by omega) hP hS (lv_sub hl [0, 1, 2, 3, 4, 5] rfl)
      · skip
        have c_16 : ¬ p0 ≤ j_13 := fun q => c_16 ((ni_le rfl rfl (by omega) (by omega)).mpr q)
        refine lv_aload_n hx hb dX7_circleEntry_19 rfl (lv_at hl 3 rfl) ?_
        refine lv_iload_n hx hb dX7_circleEntry_20 rfl (lv_at hl 1 rfl) ?_
        refine x_roVi (As := [.int x_14]) S hK hP hDW hZ hAB hBA hS hA hl mwX7_passAfter lkX7_88 (ctX7_passAfter l D k z o clawNow charder ctold creply cwet f72 f69 f70 f71 glines ghours glaw godds grows gheads gsayings gslugs gacts f26 f29 f30 f31 f32 x_14 (by omega) (by omega) (by omega) (by omega) (by omega) (by omega)) [0, 1, 2, 3, 4, 5, 6, 7, 8, 9, 10, 11, 12] rfl (by decide) rfl rfl rfl rfl rfl ⟨Nat.le_of_ble_eq_true rfl, Nat.le_of_ble_eq_true rfl, Nat.le_of_ble_eq_true rfl⟩ dX7_circleEntry_21 ⟨Nat.le_of_ble_eq_true rfl, Nat.le_of_ble_eq_true rfl⟩ (fun r_47 H locs hr_47 hP hS => ?_)
        refine lv_istore_n (lv' := [(3, .int r_47), (4, .int (nI j_13)), (2, .int r_1), (0, .ref (o 7)), (1, .int (nI p0))]) hx hb dX7_circleEntry_24 rfl hl (by decide) rfl (fun ls hl => ?_)
        refine lv_iinc (v := (nI (j_13 + 1))) (lv' := [(4, .int (nI (j_13 + 1))), (3, .int r_47), (2, .int r_1), (0, .ref (o 7)), (1, .int (nI p0))]) hx hb dX7_circleEntry_25 hl (k := 1) rfl (ni_inc _) (by decide) rfl (fun ls hl => ?_)
        refine lv_goto (tgt := 13) hx hb dX7_circleEntry_28 (by decide) ?_
        exact ihj_13 (j_13 + 1) r_47 _ _ _ (by omega) (by omega) hP hS (lv_sub hl [0, 1, 2, 3, 4] rfl)
  exact lp_15 (p0 + 1) 0 r_1 _ _ _ (by omega) (by omega) hP hS (lv_sub hl [0, 1, 2, 3, 4] rfl)

set_option maxHeartbeats 4000000 in
set_option maxRecDepth 100000 in
theorem ctX7_leadOfOne (l : Launch) (D : va_G) (k : Nat → ClassId) (z : Nat → Nat) (o : Nat → Nat) (clawNow : Int32) (charder : Int32) (ctold : Int32) (creply : Int32) (cwet : Int32) (f72 : Nat → Int32) (f69 : Nat → Int32) (f70 : Nat → Int32) (f71 : Nat → Int32) (glines : Int32) (ghours : Nat) (glaw : Int32) (godds : Int32) (grows : Nat) (gheads : Nat) (gsayings : Nat) (gslugs : Nat) (gacts : Nat) (f26 : Nat → Int32) (f29 : Nat → Int32) (f30 : Nat → Int32) (f31 : Nat → Int32) (f32 : Nat → Int32) (p0 : Int32) (p1 : Nat) (hghours : ghours ≤ 16) (hgrows : grows ≤ 4) (hgheads : gheads ≤ 12) (hgsayings : gsayings ≤ 8) (hgslugs : gslugs ≤ 4) (hgacts : gacts ≤ 30) (hp1 : p1 ≤ 16) : RO l yX7_leadOfOne cX7_leadOfOne 3 (some .int) 2 D k z [.ref (o 7), .int p0, .int (nI p1)] [((o 7), .inr (7, [.ref (o 3), .ref (o 4), .ref (o 5)])), ((o 5), .inr (1, [.ref (o 3), .ref (o 4), .int clawNow, .int charder, .int ctold, .int creply, .int cwet, .ref (o 72)])), ((o 72), .inl (k 0, 17, .inl f72)), ((o 4), .inr (3, [.ref (o 69), .ref (o 70), .ref (o 71)])), ((o 69), .inl (k 0, 17, .inl f69)), ((o 70), .inl (k 0, 17, .inl f70)), ((o 71), .inl (k 0, 17, .inl f71)), ((o 3), .inr (2, [.int glines, .int (nI ghours), .int glaw, .int godds, .int (nI grows), .int (nI gheads), .int (nI gsayings), .int (nI gslugs), .int (nI gacts), .ref (o 26), .ref (o 27), .ref (o 28), .ref (o 29), .ref (o 30), .ref (o 31), .ref (o 32), .ref (o 33), .ref (o 34), .ref (o 35)])), ((o 26), .inl (k 0, 12, .inl f26)), ((o 29), .inl (k 0, 12, .inl f29)), ((o 30), .inl (k 0, 12, .inl f30)), ((o 31), .inl (k 0, 12, .inl f31)), ((o 32), .inl (k 0, 4, .inl f32))] (Qi (fun r : Int32 => True)) := by
  refine RO.of (by decide) (Nat.le_of_ble_eq_true rfl) ?_
  intro p e s m below meth c ls A B args Q S hr hlk hQ hK hP hDW hZ hAB hBA hA hS hl
  have hx := S.1
  have hb := S.2.1
  have hl : lv_has ls 3 [(0, .ref (o 7)), (1, .int p0), (2, .int (nI p1))] := hl
  refine lv_aload_n hx hb dX7_leadOfOne_0 rfl (lv_at hl 0 rfl) ?_
  refine x_get S hK hP 0 rfl cfX7 2 lkX7_19 (by decide) rfl dX7_leadOfOne_1 ?_
  refine x_get S hK hP 1 rfl cfX1 7 lkX7_44 (by decide) rfl dX7_leadOfOne_4 ?_
  refine lv_iload_n hx hb dX7_leadOfOne_7 rfl (lv_at hl 2 rfl) ?_
  refine x_iald S hK hP 2 rfl (vp_in_nI (by omega) (by decide)) dX7_leadOfOne_8 ?_
  refine lv_topi (fun v_1 ev_1 => ?_)
  refine lv_iload_n hx hb dX7_leadOfOne_9 rfl (lv_at hl 1 rfl) ?_
  refine x_roSNi (As := [.int v_1, .int p0]) S hK hP hDW hZ hAB hBA hS hA hl mwX10_leadIn lkX7_92 (ctX10_leadIn l D k z v_1 p0 ) [] rfl (by decide) rfl rfl ⟨Nat.le_of_ble_eq_true rfl, Nat.le_of_ble_eq_true rfl, Nat.le_of_ble_eq_true rfl⟩ dX7_leadOfOne_10 ⟨Nat.le_of_ble_eq_true rfl, Nat.le_of_ble_eq_true rfl⟩ (fun r_2 H locs hr_2 hP hS => ?_)
  exact x_reti S hr hlk hQ hS () trivial x_T dX7_leadOfOne_13

set_option maxHeartbeats 4000000 in
set_option maxRecDepth 100000 in
theorem ctX7_mindOf (l : Launch) (D : va_G) (k : Nat → ClassId) (z : Nat → Nat) (o : Nat → Nat) (clawNow : Int32) (charder : Int32) (ctold : Int32) (creply : Int32) (cwet : Int32) (f72 : Nat → Int32) (f69 : Nat → Int32) (f70 : Nat → Int32) (f71 : Nat → Int32) (glines : Int32) (ghours : Nat) (glaw : Int32) (godds : Int32) (grows : Nat) (gheads : Nat) (gsayings : Nat) (gslugs : Nat) (gacts : Nat) (f26 : Nat → Int32) (f29 : Nat → Int32) (f30 : Nat → Int32) (f31 : Nat → Int32) (f32 : Nat → Int32) (p0 : Nat) (p1 : Nat) (hghours : ghours ≤ 16) (hgrows : grows ≤ 4) (hgheads : gheads ≤ 12) (hgsayings : gsayings ≤ 8) (hgslugs : gslugs ≤ 4) (hgacts : gacts ≤ 30) (hp0 : p0 ≤ 3) (hp1 : p1 ≤ 16) : RO l yX7_mindOf cX7_mindOf 3 (some .int) 3 D k z [.ref (o 7), .int (nI p0), .int (nI p1)] [((o 7), .inr (7, [.ref (o 3), .ref (o 4), .ref (o 5)])), ((o 5), .inr (1, [.ref (o 3), .ref (o 4), .int clawNow, .int charder, .int ctold, .int creply, .int cwet, .ref (o 72)])), ((o 72), .inl (k 0, 17, .inl f72)), ((o 4), .inr (3, [.ref (o 69), .ref (o 70), .ref (o 71)])), ((o 69), .inl (k 0, 17, .inl f69)), ((o 70), .inl (k 0, 17, .inl f70)), ((o 71), .inl (k 0, 17, .inl f71)), ((o 3), .inr (2, [.int glines, .int (nI ghours), .int glaw, .int godds, .int (nI grows), .int (nI gheads), .int (nI gsayings), .int (nI gslugs), .int (nI gacts), .ref (o 26), .ref (o 27), .ref (o 28), .ref (o 29), .ref (o 30), .ref (o 31), .ref (o 32), .ref (o 33), .ref (o 34), .ref (o 35)])), ((o 26), .inl (k 0, 12, .inl f26)), ((o 29), .inl (k 0, 12, .inl f29)), ((o 30), .inl (k 0, 12, .inl f30)), ((o 31), .inl (k 0, 12, .inl f31)), ((o 32), .inl (k 0, 4, .inl f32))] (Qi (fun r : Int32 => True)) := by
  refine RO.of (by decide) (Nat.le_of_ble_eq_true rfl) ?_
  intro p e s m below meth c ls A B args Q S hr hlk hQ hK hP hDW hZ hAB hBA hA hS hl
  have hx := S.1
  have hb := S.2.1
  have hl : lv_has ls 3 [(0, .ref (o 7)), (1, .int (nI p0)), (2, .int (nI p1))] := hl
  refine lv_aload_n hx hb dX7_mindOf_0 rfl (lv_at hl 0 rfl) ?_
  refine lv_aload_n hx hb dX7_mindOf_1 rfl (lv_at hl 0 rfl) ?_
  refine x_get S hK hP 0 rfl cfX7 0 lkX7_9 (by decide) rfl dX7_mindOf_2 ?_
  refine x_get S hK hP 7 rfl cfX2 15 lkX7_95 (by decide) rfl dX7_mindOf_5 ?_
  refine lv_iload_n hx hb dX7_mindOf_8 rfl (lv_at hl 1 rfl) ?_
  refine x_iald S hK hP 12 rfl (vp_in_nI (by omega) (by decide)) dX7_mindOf_9 ?_
  refine lv_topi (fun v_1 ev_1 => ?_)
  refine lv_iload_n hx hb dX7_mindOf_10 rfl (lv_at hl 2 rfl) ?_
  refine x_roVi (As := [.int v_1, .int (nI p1)]) S hK hP hDW hZ hAB hBA hS hA hl mwX7_leadOfOne lkX7_98 (ctX7_leadOfOne l D k z o clawNow charder ctold creply cwet f72 f69 f70 f71 glines ghours glaw godds grows gheads gsayings gslugs gacts f26 f29 f30 f31 f32 v_1 p1 (by omega) (by omega) (by omega) (by omega) (by omega) (by omega) (by omega)) [0, 1, 2, 3, 4, 5, 6, 7, 8, 9, 10, 11, 12] rfl (by decide) rfl rfl rfl rfl rfl ⟨Nat.le_of_ble_eq_true rfl, Nat.le_of_ble_eq_true rfl, Nat.le_of_ble_eq_true rfl⟩ dX7_mindOf_11 ⟨Nat.le_of_ble_eq_true rfl, Nat.le_of_ble_eq_true rfl⟩ (fun r_2 H locs hr_2 hP hS => ?_)
  refine x_roSNi (As := [.int r_2]) S hK hP hDW hZ hAB hBA hS hA hl mwX10_viewOfLead lkX7_101 (ctX10_viewOfLead l D k z r_2 ) [] rfl (by decide) rfl rfl ⟨Nat.le_of_ble_eq_true rfl, Nat.le_of_ble_eq_true rfl, Nat.le_of_ble_eq_true rfl⟩ dX7_mindOf_14 ⟨Nat.le_of_ble_eq_true rfl, Nat.le_of_ble_eq_true rfl⟩ (fun r_4 H locs hr_4 hP hS => ?_)
  exact x_reti S hr hlk hQ hS () trivial x_T dX7_mindOf_17

set_option maxHeartbeats 4000000 in
set_option maxRecDepth 100000 in
theorem ctX7_rowsOfMind (l : Launch) (D : va_G) (k : Nat → ClassId) (z : Nat → Nat) (o : Nat → Nat) (clawNow : Int32) (charder : Int32) (ctold : Int32) (creply : Int32) (cwet : Int32) (f72 : Nat → Int32) (f69 : Nat → Int32) (f70 : Nat → Int32) (f71 : Nat → Int32) (glines : Int32) (ghours : Nat) (glaw : Int32) (godds : Int32) (grows : Nat) (gheads : Nat) (gsayings : Nat) (gslugs : Nat) (gacts : Nat) (f26 : Nat → Int32) (f29 : Nat → Int32) (f30 : Nat → Int32) (f31 : Nat → Int32) (f32 : Nat → Int32) (p0 : Int32) (p1 : Nat) (hghours : ghours ≤ 16) (hgrows : grows ≤ 4) (hgheads : gheads ≤ 12) (hgsayings : gsayings ≤ 8) (hgslugs : gslugs ≤ 4) (hgacts : gacts ≤ 30) (hp1 : p1 ≤ 16) : RO l yX7_rowsOfMind cX7_rowsOfMind 5 (some .int) 4 D k z [.ref (o 7), .int p0, .int (nI p1)] [((o 7), .inr (7, [.ref (o 3), .ref (o 4), .ref (o 5)])), ((o 5), .inr (1, [.ref (o 3), .ref (o 4), .int clawNow, .int charder, .int ctold, .int creply, .int cwet, .ref (o 72)])), ((o 72), .inl (k 0, 17, .inl f72)), ((o 4), .inr (3, [.ref (o 69), .ref (o 70), .ref (o 71)])), ((o 69), .inl (k 0, 17, .inl f69)), ((o 70), .inl (k 0, 17, .inl f70)), ((o 71), .inl (k 0, 17, .inl f71)), ((o 3), .inr (2, [.int glines, .int (nI ghours), .int glaw, .int godds, .int (nI grows), .int (nI gheads), .int (nI gsayings), .int (nI gslugs), .int (nI gacts), .ref (o 26), .ref (o 27), .ref (o 28), .ref (o 29), .ref (o 30), .ref (o 31), .ref (o 32), .ref (o 33), .ref (o 34), .ref (o 35)])), ((o 26), .inl (k 0, 12, .inl f26)), ((o 29), .inl (k 0, 12, .inl f29)), ((o 30), .inl (k 0, 12, .inl f30)), ((o 31), .inl (k 0, 12, .inl f31)), ((o 32), .inl (k 0, 4, .inl f32))] (Qi (fun r : Int32 => True)) := by
  refine RO.of (by decide) (Nat.le_of_ble_eq_true rfl) ?_
  intro p e s m below meth c ls A B args Q S hr hlk hQ hK hP hDW hZ hAB hBA hA hS hl
  have hx := S.1
  have hb := S.2.1
  have hl : lv_has ls 5 [(0, .ref (o 7)), (1, .int p0), (2, .int (nI p1))] := hl
  refine lv_iconst (v := 0) hx hb dX7_rowsOfMind_0 (by decide) ?_
  refine lv_istore_n (lv' := [(3, .int 0), (0, .ref (o 7)), (1, .int p0), (2, .int (nI p1))]) hx hb dX7_rowsOfMind_1 rfl hl (by decide) rfl (fun ls hl => ?_)
  refine lv_iconst (v := 0) hx hb dX7_rowsOfMind_2 (by decide) ?_
  refine lv_istore (lv' := [(4, .int 0), (3, .int 0), (0, .ref (o 7)), (1, .int p0), (2, .int (nI p1))]) hx hb dX7_rowsOfMind_3 hl (by decide) rfl (fun ls hl => ?_)
  have lp_19 : ∀ (nn j_17 : Nat) (x_18 : Int32) (H : Heap) (locs : List Loc) (ls : Array Slot), j_17 ≤ grows → grows - j_17 < nn → va_P D vwCl [((o 7), .inr (7, [.ref (o 3), .ref (o 4), .ref (o 5)])), ((o 5), .inr (1, [.ref (o 3), .ref (o 4), .int clawNow, .int charder, .int ctold, .int creply, .int cwet, .ref (o 72)])), ((o 72), .inl (k 0, 17, .inl f72)), ((o 4), .inr (3, [.ref (o 69), .ref (o 70), .ref (o 71)])), ((o 69), .inl (k 0, 17, .inl f69)), ((o 70), .inl (k 0, 17, .inl f70)), ((o 71), .inl (k 0, 17, .inl f71)), ((o 3), .inr (2, [.int glines, .int (nI ghours), .int glaw, .int godds, .int (nI grows), .int (nI gheads), .int (nI gsayings), .int (nI gslugs), .int (nI gacts), .ref (o 26), .ref (o 27), .ref (o 28), .ref (o 29), .ref (o 30), .ref (o 31), .ref (o 32), .ref (o 33), .ref (o 34), .ref (o 35)])), ((o 26), .inl (k 0, 12, .inl f26)), ((o 29), .inl (k 0, 12, .inl f29)), ((o 30), .inl (k 0, 12, .inl f30)), ((o 31), .inl (k 0, 12, .inl f31)), ((o 32), .inl (k 0, 4, .inl f32))] H → va_S A s.heap H locs → lv_has ls 5 [(4, .int (nI j_17)), (3, .int x_18), (0, .ref (o 7)), (1, .int p0), (2, .int (nI p1))] → W p l e (Rm 4 0 0) s m args below meth c H locs 0 0 Q (F0 m 5 ls []) := by
    intro nn
    induction nn with
    | zero => intro j_17 x_18 H locs ls hjj_17 hnj_17; exact absurd hnj_17 (by omega)
    | succ nn ihj_17 =>
      intro j_17 x_18 H locs ls hjj_17 hnj_17 hP hS hl
      refine lv_iload hx hb dX7_rowsOfMind_5 (lv_at hl 0 rfl) ?_
      refine lv_aload_n hx hb dX7_rowsOfMind_7 rfl (lv_at hl 2 rfl) ?_
      refine x_get S hK hP 0 rfl cfX7 0 lkX7_9 (by decide) rfl dX7_rowsOfMind_8 ?_
      refine x_get S hK hP 7 rfl cfX2 4 lkX7_104 (by decide) rfl dX7_rowsOfMind_11 ?_
      refine lv_icmp_ge (tgt := 41) hx hb dX7_rowsOfMind_14 (by decide) (fun c_20 => ?_) (fun c_20 => ?_)
      · skip
        have c_20 : grows ≤ j_17 := (ni_le rfl rfl (by omega) (by omega)).mp c_20
        refine lv_iload_n hx hb dX7_rowsOfMind_41 rfl (lv_at hl 1 rfl) ?_
        exact x_reti S hr hlk hQ hS () trivial x_T dX7_rowsOfMind_42
      · skip
        have c_20 : ¬ grows ≤ j_17 := fun q => c_20 ((ni_le rfl rfl (by omega) (by omega)).mpr q)
        refine lv_aload_n hx hb dX7_rowsOfMind_17 rfl (lv_at hl 2 rfl) ?_
        refine lv_iload hx hb dX7_rowsOfMind_18 (lv_at hl 0 rfl) ?_
        refine lv_iload_n hx hb dX7_rowsOfMind_20 rfl (lv_at hl 4 rfl) ?_
        refine x_roVi (As := [.int (nI j_17), .int (nI p1)]) S hK hP hDW hZ hAB hBA hS hA hl mwX7_mindOf lkX7_107 (ctX7_mindOf l D k z o clawNow charder ctold creply cwet f72 f69 f70 f71 glines ghours glaw godds grows gheads gsayings gslugs gacts f26 f29 f30 f31 f32 j_17 p1 (by omega) (by omega) (by omega) (by omega) (by omega) (by omega) (by omega) (by omega)) [0, 1, 2, 3, 4, 5, 6, 7, 8, 9, 10, 11, 12] rfl (by decide) rfl rfl rfl rfl rfl ⟨Nat.le_of_ble_eq_true rfl, Nat.le_of_ble_eq_true rfl, Nat.le_of_ble_eq_true rfl⟩ dX7_rowsOfMind_21 ⟨Nat.le_of_ble_eq_true rfl, Nat.le_of_ble_eq_true rfl⟩ (fun r_21 H locs hr_21 hP hS => ?_)
        refine lv_iload_n hx hb dX7_rowsOfMind_24 rfl (lv_at hl 3 rfl) ?_
        refine lv_icmp_ne (tgt := 35) hx hb dX7_rowsOfMind_25 (by decide) (fun c_23 => ?_) (fun c_23 => ?_)
        · skip
          refine lv_iinc (v := (nI (j_17 + 1))) (lv' := [(4, .int (nI (j_17 + 1))), (3, .int x_18), (0, .ref (o 7)), (1, .int p0), (2, .int (nI p1))]) hx hb dX7_rowsOfMind_35 hl (k := 0) rfl (ni_inc _) (by decide) rfl (fun ls hl => ?_)
          refine lv_goto (tgt := 5) hx hb dX7_rowsOfMind_38 (by decide) ?_
          exact ihj_17 (j_17 + 1) x_18 _ _ _ (by omega) (by omega) hP hS (lv_sub hl [0, 1, 2, 3, 4] rfl)
        · skip
          refine lv_iload_n hx hb dX7_rowsOfMind_28 rfl (lv_at hl 1 rfl) ?_
          refine lv_iconst (v := 1) hx hb dX7_rowsOfMind_29 (by decide) ?_
          refine lv_iload hx hb dX7_rowsOfMind_30 (lv_at hl 0 rfl) ?_
          refine lv_ishl hx hb dX7_rowsOfMind_32 ?_
          refine lv_topi (fun v_24 ev_24 => ?_)
          refine lv_ior hx hb dX7_rowsOfMind_33 ?_
          refine lv_topi (fun v_25 ev_25 => ?_)
          refine lv_istore_n (lv' := [(3, .int v_25), (4, .int (nI j_17)), (0, .ref (o 7)), (1, .int p0), (2, .int (nI p1))]) hx hb dX7_rowsOfMind_34 rfl hl (by decide) rfl (fun ls hl => ?_)
          refine lv_iinc (v := (nI (j_17 + 1))) (lv' := [(4, .int (nI (j_17 + 1))), (3, .int v_25), (0, .ref (o 7)), (1, .int p0), (2, .int (nI p1))]) hx hb dX7_rowsOfMind_35 hl (k := 1) rfl (ni_inc _) (by decide) rfl (fun ls hl => ?_)
          refine lv_goto (tgt := 5) hx hb dX7_rowsOfMind_38 (by decide) ?_
          exact ihj_17 (j_17 + 1) v_25 _ _ _ (by omega) (by omega) hP hS (lv_sub hl [0, 1, 2, 3, 4] rfl)
  exact lp_19 (grows + 1) 0 0 _ _ _ (by omega) (by omega) hP hS (lv_sub hl [0, 1, 2, 3, 4] rfl)

set_option maxHeartbeats 4000000 in
set_option maxRecDepth 100000 in
theorem ctX7_solidRows (l : Launch) (D : va_G) (k : Nat → ClassId) (z : Nat → Nat) (o : Nat → Nat) (clawNow : Int32) (charder : Int32) (ctold : Int32) (creply : Int32) (cwet : Int32) (f72 : Nat → Int32) (f69 : Nat → Int32) (f70 : Nat → Int32) (f71 : Nat → Int32) (glines : Int32) (ghours : Nat) (glaw : Int32) (godds : Int32) (grows : Nat) (gheads : Nat) (gsayings : Nat) (gslugs : Nat) (gacts : Nat) (f26 : Nat → Int32) (f29 : Nat → Int32) (f30 : Nat → Int32) (f31 : Nat → Int32) (f32 : Nat → Int32) (p0 : Nat) (hghours : ghours ≤ 16) (hgrows : grows ≤ 4) (hgheads : gheads ≤ 12) (hgsayings : gsayings ≤ 8) (hgslugs : gslugs ≤ 4) (hgacts : gacts ≤ 30) (hp0 : p0 ≤ 16) : RO l yX7_solidRows cX7_solidRows 4 (some .int) 3 D k z [.ref (o 7), .int (nI p0)] [((o 7), .inr (7, [.ref (o 3), .ref (o 4), .ref (o 5)])), ((o 5), .inr (1, [.ref (o 3), .ref (o 4), .int clawNow, .int charder, .int ctold, .int creply, .int cwet, .ref (o 72)])), ((o 72), .inl (k 0, 17, .inl f72)), ((o 4), .inr (3, [.ref (o 69), .ref (o 70), .ref (o 71)])), ((o 69), .inl (k 0, 17, .inl f69)), ((o 70), .inl (k 0, 17, .inl f70)), ((o 71), .inl (k 0, 17, .inl f71)), ((o 3), .inr (2, [.int glines, .int (nI ghours), .int glaw, .int godds, .int (nI grows), .int (nI gheads), .int (nI gsayings), .int (nI gslugs), .int (nI gacts), .ref (o 26), .ref (o 27), .ref (o 28), .ref (o 29), .ref (o 30), .ref (o 31), .ref (o 32), .ref (o 33), .ref (o 34), .ref (o 35)])), ((o 26), .inl (k 0, 12, .inl f26)), ((o 29), .inl (k 0, 12, .inl f29)), ((o 30), .inl (k 0, 12, .inl f30)), ((o 31), .inl (k 0, 12, .inl f31)), ((o 32), .inl (k 0, 4, .inl f32))] (Qi (fun r : Int32 => True)) := by
  refine RO.of (by decide) (Nat.le_of_ble_eq_true rfl) ?_
  intro p e s m below meth c ls A B args Q S hr hlk hQ hK hP hDW hZ hAB hBA hA hS hl
  have hx := S.1
  have hb := S.2.1
  have hl : lv_has ls 4 [(0, .ref (o 7)), (1, .int (nI p0))] := hl
  refine lv_iconst (v := 0) hx hb dX7_solidRows_0 (by decide) ?_
  refine lv_istore_n (lv' := [(2, .int 0), (0, .ref (o 7)), (1, .int (nI p0))]) hx hb dX7_solidRows_1 rfl hl (by decide) rfl (fun ls hl => ?_)
  refine lv_iconst (v := 0) hx hb dX7_solidRows_2 (by decide) ?_
  refine lv_istore_n (lv' := [(3, .int 0), (2, .int 0), (0, .ref (o 7)), (1, .int (nI p0))]) hx hb dX7_solidRows_3 rfl hl (by decide) rfl (fun ls hl => ?_)
  have lp_21 : ∀ (nn j_19 : Nat) (x_20 : Int32) (H : Heap) (locs : List Loc) (ls : Array Slot), j_19 ≤ grows → grows - j_19 < nn → va_P D vwCl [((o 7), .inr (7, [.ref (o 3), .ref (o 4), .ref (o 5)])), ((o 5), .inr (1, [.ref (o 3), .ref (o 4), .int clawNow, .int charder, .int ctold, .int creply, .int cwet, .ref (o 72)])), ((o 72), .inl (k 0, 17, .inl f72)), ((o 4), .inr (3, [.ref (o 69), .ref (o 70), .ref (o 71)])), ((o 69), .inl (k 0, 17, .inl f69)), ((o 70), .inl (k 0, 17, .inl f70)), ((o 71), .inl (k 0, 17, .inl f71)), ((o 3), .inr (2, [.int glines, .int (nI ghours), .int glaw, .int godds, .int (nI grows), .int (nI gheads), .int (nI gsayings), .int (nI gslugs), .int (nI gacts), .ref (o 26), .ref (o 27), .ref (o 28), .ref (o 29), .ref (o 30), .ref (o 31), .ref (o 32), .ref (o 33), .ref (o 34), .ref (o 35)])), ((o 26), .inl (k 0, 12, .inl f26)), ((o 29), .inl (k 0, 12, .inl f29)), ((o 30), .inl (k 0, 12, .inl f30)), ((o 31), .inl (k 0, 12, .inl f31)), ((o 32), .inl (k 0, 4, .inl f32))] H → va_S A s.heap H locs → lv_has ls 4 [(3, .int (nI j_19)), (2, .int x_20), (0, .ref (o 7)), (1, .int (nI p0))] → W p l e (Rm 3 0 0) s m args below meth c H locs 0 0 Q (F0 m 4 ls []) := by
    intro nn
    induction nn with
    | zero => intro j_19 x_20 H locs ls hjj_19 hnj_19; exact absurd hnj_19 (by omega)
    | succ nn ihj_19 =>
      intro j_19 x_20 H locs ls hjj_19 hnj_19 hP hS hl
      refine lv_iload_n hx hb dX7_solidRows_4 rfl (lv_at hl 0 rfl) ?_
      refine lv_aload_n hx hb dX7_solidRows_5 rfl (lv_at hl 2 rfl) ?_
      refine x_get S hK hP 0 rfl cfX7 0 lkX7_9 (by decide) rfl dX7_solidRows_6 ?_
      refine x_get S hK hP 7 rfl cfX2 4 lkX7_104 (by decide) rfl dX7_solidRows_9 ?_
      refine lv_icmp_ge (tgt := 44) hx hb dX7_solidRows_12 (by decide) (fun c_22 => ?_) (fun c_22 => ?_)
      · skip
        have c_22 : grows ≤ j_19 := (ni_le rfl rfl (by omega) (by omega)).mp c_22
        refine lv_iload_n hx hb dX7_solidRows_44 rfl (lv_at hl 1 rfl) ?_
        exact x_reti S hr hlk hQ hS () trivial x_T dX7_solidRows_45
      · skip
        have c_22 : ¬ grows ≤ j_19 := fun q => c_22 ((ni_le rfl rfl (by omega) (by omega)).mpr q)
        refine lv_aload_n hx hb dX7_solidRows_15 rfl (lv_at hl 2 rfl) ?_
        refine lv_aload_n hx hb dX7_solidRows_16 rfl (lv_at hl 2 rfl) ?_
        refine x_get S hK hP 0 rfl cfX7 0 lkX7_9 (by decide) rfl dX7_solidRows_17 ?_
        refine x_get S hK hP 7 rfl cfX2 15 lkX7_95 (by decide) rfl dX7_solidRows_20 ?_
        refine lv_iload_n hx hb dX7_solidRows_23 rfl (lv_at hl 0 rfl) ?_
        refine x_iald S hK hP 12 rfl (vp_in_nI (by omega) (by decide)) dX7_solidRows_24 ?_
        refine lv_topi (fun v_23 ev_23 => ?_)
        refine lv_iload_n hx hb dX7_solidRows_25 rfl (lv_at hl 3 rfl) ?_
        refine x_roVi (As := [.int v_23, .int (nI p0)]) S hK hP hDW hZ hAB hBA hS hA hl mwX7_isOfOneMind lkX7_73 (ctX7_isOfOneMind l D k z o clawNow charder ctold creply cwet f72 f69 f70 f71 glines ghours glaw godds grows gheads gsayings gslugs gacts f26 f29 f30 f31 f32 v_23 p0 (by omega) (by omega) (by omega) (by omega) (by omega) (by omega) (by omega)) [0, 1, 2, 3, 4, 5, 6, 7, 8, 9, 10, 11, 12] rfl (by decide) rfl rfl rfl rfl rfl ⟨Nat.le_of_ble_eq_true rfl, Nat.le_of_ble_eq_true rfl, Nat.le_of_ble_eq_true rfl⟩ dX7_solidRows_26 ⟨Nat.le_of_ble_eq_true rfl, Nat.le_of_ble_eq_true rfl⟩ (fun r_24 H locs hr_24 hP hS => ?_)
        refine lv_if_eq (tgt := 38) hx hb dX7_solidRows_29 (by decide) (fun c_26 => ?_) (fun c_26 => ?_)
        · skip
          refine lv_iinc (v := (nI (j_19 + 1))) (lv' := [(3, .int (nI (j_19 + 1))), (2, .int x_20), (0, .ref (o 7)), (1, .int (nI p0))]) hx hb dX7_solidRows_38 hl (k := 0) rfl (ni_inc _) (by decide) rfl (fun ls hl => ?_)
          refine lv_goto (tgt := 4) hx hb dX7_solidRows_41 (by decide) ?_
          exact ihj_19 (j_19 + 1) x_20 _ _ _ (by omega) (by omega) hP hS (lv_sub hl [0, 1, 2, 3] rfl)
        · skip
          refine lv_iload_n hx hb dX7_solidRows_32 rfl (lv_at hl 1 rfl) ?_
          refine lv_iconst (v := 1) hx hb dX7_solidRows_33 (by decide) ?_
          refine lv_iload_n hx hb dX7_solidRows_34 rfl (lv_at hl 0 rfl) ?_
          refine lv_ishl hx hb dX7_solidRows_35 ?_
          refine lv_topi (fun v_27 ev_27 => ?_)
          refine lv_ior hx hb dX7_solidRows_36 ?_
          refine lv_topi (fun v_28 ev_28 => ?_)
          refine lv_istore_n (lv' := [(2, .int v_28), (3, .int (nI j_19)), (0, .ref (o 7)), (1, .int (nI p0))]) hx hb dX7_solidRows_37 rfl hl (by decide) rfl (fun ls hl => ?_)
          refine lv_iinc (v := (nI (j_19 + 1))) (lv' := [(3, .int (nI (j_19 + 1))), (2, .int v_28), (0, .ref (o 7)), (1, .int (nI p0))]) hx hb dX7_solidRows_38 hl (k := 1) rfl (ni_inc _) (by decide) rfl (fun ls hl => ?_)
          refine lv_goto (tgt := 4) hx hb dX7_solidRows_41 (by decide) ?_
          exact ihj_19 (j_19 + 1) v_28 _ _ _ (by omega) (by omega) hP hS (lv_sub hl [0, 1, 2, 3] rfl)
  exact lp_21 (grows + 1) 0 0 _ _ _ (by omega) (by omega) hP hS (lv_sub hl [0, 1, 2, 3] rfl)

set_option maxHeartbeats 4000000 in
set_option maxRecDepth 100000 in
theorem ctX7_longestRun (l : Launch) (D : va_G) (k : Nat → ClassId) (z : Nat → Nat) (o : Nat → Nat) (clawNow : Int32) (charder : Int32) (ctold : Int32) (creply : Int32) (cwet : Int32) (f72 : Nat → Int32) (f69 : Nat → Int32) (f70 : Nat → Int32) (f71 : Nat → Int32) (glines : Int32) (ghours : Nat) (glaw : Int32) (godds : Int32) (grows : Nat) (gheads : Nat) (gsayings : Nat) (gslugs : Nat) (gacts : Nat) (f26 : Nat → Int32) (f29 : Nat → Int32) (f30 : Nat → Int32) (f31 : Nat → Int32) (f32 : Nat → Int32) (p0 : Int32) (p1 : Nat) (hghours : ghours ≤ 16) (hgrows : grows ≤ 4) (hgheads : gheads ≤ 12) (hgsayings : gsayings ≤ 8) (hgslugs : gslugs ≤ 4) (hgacts : gacts ≤ 30) (hp1 : p1 ≤ 16) : RO l yX7_longestRun cX7_longestRun 7 (some .int) 3 D k z [.ref (o 7), .int p0, .int (nI p1)] [((o 7), .inr (7, [.ref (o 3), .ref (o 4), .ref (o 5)])), ((o 5), .inr (1, [.ref (o 3), .ref (o 4), .int clawNow, .int charder, .int ctold, .int creply, .int cwet, .ref (o 72)])), ((o 72), .inl (k 0, 17, .inl f72)), ((o 4), .inr (3, [.ref (o 69), .ref (o 70), .ref (o 71)])), ((o 69), .inl (k 0, 17, .inl f69)), ((o 70), .inl (k 0, 17, .inl f70)), ((o 71), .inl (k 0, 17, .inl f71)), ((o 3), .inr (2, [.int glines, .int (nI ghours), .int glaw, .int godds, .int (nI grows), .int (nI gheads), .int (nI gsayings), .int (nI gslugs), .int (nI gacts), .ref (o 26), .ref (o 27), .ref (o 28), .ref (o 29), .ref (o 30), .ref (o 31), .ref (o 32), .ref (o 33), .ref (o 34), .ref (o 35)])), ((o 26), .inl (k 0, 12, .inl f26)), ((o 29), .inl (k 0, 12, .inl f29)), ((o 30), .inl (k 0, 12, .inl f30)), ((o 31), .inl (k 0, 12, .inl f31)), ((o 32), .inl (k 0, 4, .inl f32))] (Qi (fun r : Int32 => True)) := by
  refine RO.of (by decide) (Nat.le_of_ble_eq_true rfl) ?_
  intro p e s m below meth c ls A B args Q S hr hlk hQ hK hP hDW hZ hAB hBA hA hS hl
  have hx := S.1
  have hb := S.2.1
  have hl : lv_has ls 7 [(0, .ref (o 7)), (1, .int p0), (2, .int (nI p1))] := hl
  refine lv_aload_n hx hb dX7_longestRun_0 rfl (lv_at hl 0 rfl) ?_
  refine lv_iload_n hx hb dX7_longestRun_1 rfl (lv_at hl 1 rfl) ?_
  refine lv_iload_n hx hb dX7_longestRun_2 rfl (lv_at hl 2 rfl) ?_
  refine x_roVi (As := [.int p0, .int (nI p1)]) S hK hP hDW hZ hAB hBA hS hA hl mwX7_holdersAt lkX7_61 (ctX7_holdersAt l D k z o clawNow charder ctold creply cwet f72 f69 f70 f71 glines ghours glaw godds grows gheads gsayings gslugs gacts f26 f29 f30 f31 f32 p0 p1 (by omega) (by omega) (by omega) (by omega) (by omega) (by omega) (by omega)) [0, 1, 2, 3, 4, 5, 6, 7, 8, 9, 10, 11, 12] rfl (by decide) rfl rfl rfl rfl rfl ⟨Nat.le_of_ble_eq_true rfl, Nat.le_of_ble_eq_true rfl, Nat.le_of_ble_eq_true rfl⟩ dX7_longestRun_3 ⟨Nat.le_of_ble_eq_true rfl, Nat.le_of_ble_eq_true rfl⟩ (fun r_1 H locs hr_1 hP hS => ?_)
  refine lv_istore_n (lv' := [(3, .int r_1), (0, .ref (o 7)), (1, .int p0), (2, .int (nI p1))]) hx hb dX7_longestRun_6 rfl hl (by decide) rfl (fun ls hl => ?_)
  refine lv_iconst (v := 0) hx hb dX7_longestRun_7 (by decide) ?_
  refine lv_istore (lv' := [(4, .int 0), (3, .int r_1), (0, .ref (o 7)), (1, .int p0), (2, .int (nI p1))]) hx hb dX7_longestRun_8 hl (by decide) rfl (fun ls hl => ?_)
  refine lv_iconst (v := 0) hx hb dX7_longestRun_10 (by decide) ?_
  refine lv_istore (lv' := [(5, .int 0), (4, .int 0), (3, .int r_1), (0, .ref (o 7)), (1, .int p0), (2, .int (nI p1))]) hx hb dX7_longestRun_11 hl (by decide) rfl (fun ls hl => ?_)
  refine lv_iconst (v := 0) hx hb dX7_longestRun_13 (by decide) ?_
  refine lv_istore (lv' := [(6, .int 0), (5, .int 0), (4, .int 0), (3, .int r_1), (0, .ref (o 7)), (1, .int p0), (2, .int (nI p1))]) hx hb dX7_longestRun_14 hl (by decide) rfl (fun ls hl => ?_)
  have lp_42 : ∀ (nn j_39 : Nat) (x_40 : Int32) (x_41 : Int32) (H : Heap) (locs : List Loc) (ls : Array Slot), j_39 ≤ gheads → gheads - j_39 < nn → va_P D vwCl [((o 7), .inr (7, [.ref (o 3), .ref (o 4), .ref (o 5)])), ((o 5), .inr (1, [.ref (o 3), .ref (o 4), .int clawNow, .int charder, .int ctold, .int creply, .int cwet, .ref (o 72)])), ((o 72), .inl (k 0, 17, .inl f72)), ((o 4), .inr (3, [.ref (o 69), .ref (o 70), .ref (o 71)])), ((o 69), .inl (k 0, 17, .inl f69)), ((o 70), .inl (k 0, 17, .inl f70)), ((o 71), .inl (k 0, 17, .inl f71)), ((o 3), .inr (2, [.int glines, .int (nI ghours), .int glaw, .int godds, .int (nI grows), .int (nI gheads), .int (nI gsayings), .int (nI gslugs), .int (nI gacts), .ref (o 26), .ref (o 27), .ref (o 28), .ref (o 29), .ref (o 30), .ref (o 31), .ref (o 32), .ref (o 33), .ref (o 34), .ref (o 35)])), ((o 26), .inl (k 0, 12, .inl f26)), ((o 29), .inl (k 0, 12, .inl f29)), ((o 30), .inl (k 0, 12, .inl f30)), ((o 31), .inl (k 0, 12, .inl f31)), ((o 32), .inl (k 0, 4, .inl f32))] H → va_S A s.heap H locs → lv_has ls 7 [(6, .int (nI j_39)), (5, .int x_41), (4, .int x_40), (3, .int r_1), (0, .ref (o 7)), (1, .int p0), (2, .int (nI p1))] → W p l e (Rm 3 0 0) s m args below meth c H locs 0 0 Q (F0 m 16 ls []) := by
    intro nn
    induction nn with
    | zero => intro j_39 x_40 x_41 H locs ls hjj_39 hnj_39; exact absurd hnj_39 (by omega)
    | succ nn ihj_39 =>
      intro j_39 x_40 x_41 H locs ls hjj_39 hnj_39 hP hS hl
      refine lv_iload hx hb dX7_longestRun_16 (lv_at hl 0 rfl) ?_
      refine lv_aload_n hx hb dX7_longestRun_18 rfl (lv_at hl 4 rfl) ?_
      refine x_get S hK hP 0 rfl cfX7 0 lkX7_9 (by decide) rfl dX7_longestRun_19 ?_
      refine x_get S hK hP 7 rfl cfX2 5 lkX7_67 (by decide) rfl dX7_longestRun_22 ?_
      refine lv_icmp_ge (tgt := 78) hx hb dX7_longestRun_25 (by decide) (fun c_43 => ?_) (fun c_43 => ?_)
      · skip
        have c_43 : gheads ≤ j_39 := (ni_le rfl rfl (by omega) (by omega)).mp c_43
        refine lv_iload hx hb dX7_longestRun_78 (lv_at hl 2 rfl) ?_
        exact x_reti S hr hlk hQ hS () trivial x_T dX7_longestRun_80
      · skip
        have c_43 : ¬ gheads ≤ j_39 := fun q => c_43 ((ni_le rfl rfl (by omega) (by omega)).mpr q)
        refine lv_aload_n hx hb dX7_longestRun_28 rfl (lv_at hl 4 rfl) ?_
        refine x_get S hK hP 0 rfl cfX7 0 lkX7_9 (by decide) rfl dX7_longestRun_29 ?_
        refine x_get S hK hP 7 rfl cfX2 12 lkX7_110 (by decide) rfl dX7_longestRun_32 ?_
        refine lv_iload hx hb dX7_longestRun_35 (lv_at hl 0 rfl) ?_
        refine x_iald S hK hP 9 rfl (vp_in_nI (by omega) (by decide)) dX7_longestRun_37 ?_
        refine lv_topi (fun v_44 ev_44 => ?_)
        refine lv_if_ne (tgt := 44) hx hb dX7_longestRun_38 (by decide) (fun c_45 => ?_) (fun c_45 => ?_)
        · skip
          refine lv_iload_n hx hb dX7_longestRun_44 rfl (lv_at hl 3 rfl) ?_
          refine lv_iload hx hb dX7_longestRun_45 (lv_at hl 0 rfl) ?_
          refine lv_iushr hx hb dX7_longestRun_47 rfl ?_
          refine lv_topi (fun v_46 ev_46 => ?_)
          refine lv_iconst (v := 1) hx hb dX7_longestRun_48 (by decide) ?_
          refine lv_iand hx hb dX7_longestRun_49 ?_
          refine lv_topi (fun v_47 ev_47 => ?_)
          refine lv_if_eq (tgt := 60) hx hb dX7_longestRun_50 (by decide) (fun c_48 => ?_) (fun c_48 => ?_)
          · skip
            refine lv_iconst (v := 0) hx hb dX7_longestRun_60 (by decide) ?_
            refine lv_istore (lv' := [(5, .int 0), (6, .int (nI j_39)), (4, .int x_40), (3, .int r_1), (0, .ref (o 7)), (1, .int p0), (2, .int (nI p1))]) hx hb dX7_longestRun_61 hl (by decide) rfl (fun ls hl => ?_)
            refine lv_iload hx hb dX7_longestRun_63 (lv_at hl 2 rfl) ?_
            refine lv_iload hx hb dX7_longestRun_65 (lv_at hl 0 rfl) ?_
            refine x_mmax S hl lkX7_77 (Nat.le_of_ble_eq_true rfl) (Nat.le_of_ble_eq_true rfl) ⟨Nat.le_of_ble_eq_true rfl, Nat.le_of_ble_eq_true rfl⟩ dX7_longestRun_67 (fun v_49 ev_49 => ?_)
            refine lv_istore (lv' := [(4, .int v_49), (5, .int 0), (6, .int (nI j_39)), (3, .int r_1), (0, .ref (o 7)), (1, .int p0), (2, .int (nI p1))]) hx hb dX7_longestRun_70 hl (by decide) rfl (fun ls hl => ?_)
            refine lv_iinc (v := (nI (j_39 + 1))) (lv' := [(6, .int (nI (j_39 + 1))), (4, .int v_49), (5, .int 0), (3, .int r_1), (0, .ref (o 7)), (1, .int p0), (2, .int (nI p1))]) hx hb dX7_longestRun_72 hl (k := 2) rfl (ni_inc _) (by decide) rfl (fun ls hl => ?_)
            refine lv_goto (tgt := 16) hx hb dX7_longestRun_75 (by decide) ?_
            exact ihj_39 (j_39 + 1) v_49 0 _ _ _ (by omega) (by omega) hP hS (lv_sub hl [0, 2, 1, 3, 4, 5, 6] rfl)
          · skip
            refine lv_iload hx hb dX7_longestRun_53 (lv_at hl 1 rfl) ?_
            refine lv_iconst (v := 1) hx hb dX7_longestRun_55 (by decide) ?_
            refine lv_iadd hx hb dX7_longestRun_56 ?_
            refine lv_topi (fun v_50 ev_50 => ?_)
            refine lv_goto (tgt := 61) hx hb dX7_longestRun_57 (by decide) ?_
            refine lv_istore (lv' := [(5, .int v_50), (6, .int (nI j_39)), (4, .int x_40), (3, .int r_1), (0, .ref (o 7)), (1, .int p0), (2, .int (nI p1))]) hx hb dX7_longestRun_61 hl (by decide) rfl (fun ls hl => ?_)
            refine lv_iload hx hb dX7_longestRun_63 (lv_at hl 2 rfl) ?_
            refine lv_iload hx hb dX7_longestRun_65 (lv_at hl 0 rfl) ?_
            refine x_mmax S hl lkX7_77 (Nat.le_of_ble_eq_true rfl) (Nat.le_of_ble_eq_true rfl) ⟨Nat.le_of_ble_eq_true rfl, Nat.le_of_ble_eq_true rfl⟩ dX7_longestRun_67 (fun v_51 ev_51 => ?_)
            refine lv_istore (lv' := [(4, .int v_51), (5, .int v_50), (6, .int (nI j_39)), (3, .int r_1), (0, .ref (o 7)), (1, .int p0), (2, .int (nI p1))]) hx hb dX7_longestRun_70 hl (by decide) rfl (fun ls hl => ?_)
            refine lv_iinc (v := (nI (j_39 + 1))) (lv' := [(6, .int (nI (j_39 + 1))), (4, .int v_51), (5, .int v_50), (3, .int r_1), (0, .ref (o 7)), (1, .int p0), (2, .int (nI p1))]) hx hb dX7_longestRun_72 hl (k := 2) rfl (ni_inc _) (by decide) rfl (fun ls hl => ?_)
            refine lv_goto (tgt := 16) hx hb dX7_longestRun_75 (by decide) ?_
            exact ihj_39 (j_39 + 1) v_51 v_50 _ _ _ (by omega) (by omega) hP hS (lv_sub hl [0, 2, 1, 3, 4, 5, 6] rfl)
        · skip
          refine lv_iconst (v := 0) hx hb dX7_longestRun_41 (by decide) ?_
          refine lv_istore (lv' := [(5, .int 0), (6, .int (nI j_39)), (4, .int x_40), (3, .int r_1), (0, .ref (o 7)), (1, .int p0), (2, .int (nI p1))]) hx hb dX7_longestRun_42 hl (by decide) rfl (fun ls hl => ?_)
          refine lv_iload_n hx hb dX7_longestRun_44 rfl (lv_at hl 3 rfl) ?_
          refine lv_iload hx hb dX7_longestRun_45 (lv_at hl 1 rfl) ?_
          refine lv_iushr hx hb dX7_longestRun_47 rfl ?_
          refine lv_topi (fun v_52 ev_52 => ?_)
          refine lv_iconst (v := 1) hx hb dX7_longestRun_48 (by decide) ?_
          refine lv_iand hx hb dX7_longestRun_49 ?_
          refine lv_topi (fun v_53 ev_53 => ?_)
          refine lv_if_eq (tgt := 60) hx hb dX7_longestRun_50 (by decide) (fun c_54 => ?_) (fun c_54 => ?_)
          · skip
            refine lv_iconst (v := 0) hx hb dX7_longestRun_60 (by decide) ?_
            refine lv_istore (lv' := [(5, .int 0), (6, .int (nI j_39)), (4, .int x_40), (3, .int r_1), (0, .ref (o 7)), (1, .int p0), (2, .int (nI p1))]) hx hb dX7_longestRun_61 hl (by decide) rfl (fun ls hl => ?_)
            refine lv_iload hx hb dX7_longestRun_63 (lv_at hl 2 rfl) ?_
            refine lv_iload hx hb dX7_longestRun_65 (lv_at hl 0 rfl) ?_
            refine x_mmax S hl lkX7_77 (Nat.le_of_ble_eq_true rfl) (Nat.le_of_ble_eq_true rfl) ⟨Nat.le_of_ble_eq_true rfl, Nat.le_of_ble_eq_true rfl⟩ dX7_longestRun_67 (fun v_55 ev_55 => ?_)
            refine lv_istore (lv' := [(4, .int v_55), (5, .int 0), (6, .int (nI j_39)), (3, .int r_1), (0, .ref (o 7)), (1, .int p0), (2, .int (nI p1))]) hx hb dX7_longestRun_70 hl (by decide) rfl (fun ls hl => ?_)
            refine lv_iinc (v := (nI (j_39 + 1))) (lv' := [(6, .int (nI (j_39 + 1))), (4, .int v_55), (5, .int 0), (3, .int r_1), (0, .ref (o 7)), (1, .int p0), (2, .int (nI p1))]) hx hb dX7_longestRun_72 hl (k := 2) rfl (ni_inc _) (by decide) rfl (fun ls hl => ?_)
            refine lv_goto (tgt := 16) hx hb dX7_longestRun_75 (by decide) ?_
            exact ihj_39 (j_39 + 1) v_55 0 _ _ _ (by omega) (by omega) hP hS (lv_sub hl [0, 2, 1, 3, 4, 5, 6] rfl)
          · skip
            refine lv_iload hx hb dX7_longestRun_53 (lv_at hl 0 rfl) ?_
            refine lv_iconst (v := 1) hx hb dX7_longestRun_55 (by decide) ?_
            refine lv_iadd hx hb dX7_longestRun_56 ?_
            refine x_is 1 (by decide) ?_
            refine lv_goto (tgt := 61) hx hb dX7_longestRun_57 (by decide) ?_
            refine lv_istore (lv' := [(5, .int 1), (6, .int (nI j_39)), (4, .int x_40), (3, .int r_1), (0, .ref (o 7)), (1, .int p0), (2, .int (nI p1))]) hx hb dX7_longestRun_61 hl (by decide) rfl (fun ls hl => ?_)
            refine lv_iload hx hb dX7_longestRun_63 (lv_at hl 2 rfl) ?_
            refine lv_iload hx hb dX7_longestRun_65 (lv_at hl 0 rfl) ?_
            refine x_mmax S hl lkX7_77 (Nat.le_of_ble_eq_true rfl) (Nat.le_of_ble_eq_true rfl) ⟨Nat.le_of_ble_eq_true rfl, Nat.le_of_ble_eq_true rfl⟩ dX7_longestRun_67 (fun v_56 ev_56 => ?_)
            refine lv_istore (lv' := [(4, .int v_56), (5, .int 1), (6, .int (nI j_39)), (3, .int r_1), (0, .ref (o 7)), (1, .int p0), (2, .int (nI p1))]) hx hb dX7_longestRun_70 hl (by decide) rfl (fun ls hl => ?_)
            refine lv_iinc (v := (nI (j_39 + 1))) (lv' := [(6, .int (nI (j_39 + 1))), (4, .int v_56), (5, .int 1), (3, .int r_1), (0, .ref (o 7)), (1, .int p0), (2, .int (nI p1))]) hx hb dX7_longestRun_72 hl (k := 2) rfl (ni_inc _) (by decide) rfl (fun ls hl => ?_)
            refine lv_goto (tgt := 16) hx hb dX7_longestRun_75 (by decide) ?_
            exact ihj_39 (j_39 + 1) v_56 1 _ _ _ (by omega) (by omega) hP hS (lv_sub hl [0, 2, 1, 3, 4, 5, 6] rfl)
  exact lp_42 (gheads + 1) 0 0 0 _ _ _ (by omega) (by omega) hP hS (lv_sub hl [0, 1, 2, 3, 4, 5, 6] rfl)

set_option maxHeartbeats 4000000 in
set_option maxRecDepth 100000 in
theorem ctX7_tiedAt (l : Launch) (D : va_G) (k : Nat → ClassId) (z : Nat → Nat) (o : Nat → Nat) (clawNow : Int32) (charder : Int32) (ctold : Int32) (creply : Int32) (cwet : Int32) (f72 : Nat → Int32) (f69 : Nat → Int32) (f70 : Nat → Int32) (f71 : Nat → Int32) (glines : Int32) (ghours : Nat) (glaw : Int32) (godds : Int32) (grows : Nat) (gheads : Nat) (gsayings : Nat) (gslugs : Nat) (gacts : Nat) (f26 : Nat → Int32) (f29 : Nat → Int32) (f30 : Nat → Int32) (f31 : Nat → Int32) (f32 : Nat → Int32) (p0 : Nat) (hghours : ghours ≤ 16) (hgrows : grows ≤ 4) (hgheads : gheads ≤ 12) (hgsayings : gsayings ≤ 8) (hgslugs : gslugs ≤ 4) (hgacts : gacts ≤ 30) (hp0 : p0 ≤ 16) : RO l yX7_tiedAt cX7_tiedAt 5 (some .int) 2 D k z [.ref (o 7), .int (nI p0)] [((o 7), .inr (7, [.ref (o 3), .ref (o 4), .ref (o 5)])), ((o 5), .inr (1, [.ref (o 3), .ref (o 4), .int clawNow, .int charder, .int ctold, .int creply, .int cwet, .ref (o 72)])), ((o 72), .inl (k 0, 17, .inl f72)), ((o 4), .inr (3, [.ref (o 69), .ref (o 70), .ref (o 71)])), ((o 69), .inl (k 0, 17, .inl f69)), ((o 70), .inl (k 0, 17, .inl f70)), ((o 71), .inl (k 0, 17, .inl f71)), ((o 3), .inr (2, [.int glines, .int (nI ghours), .int glaw, .int godds, .int (nI grows), .int (nI gheads), .int (nI gsayings), .int (nI gslugs), .int (nI gacts), .ref (o 26), .ref (o 27), .ref (o 28), .ref (o 29), .ref (o 30), .ref (o 31), .ref (o 32), .ref (o 33), .ref (o 34), .ref (o 35)])), ((o 26), .inl (k 0, 12, .inl f26)), ((o 29), .inl (k 0, 12, .inl f29)), ((o 30), .inl (k 0, 12, .inl f30)), ((o 31), .inl (k 0, 12, .inl f31)), ((o 32), .inl (k 0, 4, .inl f32))] (Qi (fun r : Int32 => True)) := by
  refine RO.of (by decide) (Nat.le_of_ble_eq_true rfl) ?_
  intro p e s m below meth c ls A B args Q S hr hlk hQ hK hP hDW hZ hAB hBA hA hS hl
  have hx := S.1
  have hb := S.2.1
  have hl : lv_has ls 5 [(0, .ref (o 7)), (1, .int (nI p0))] := hl
  refine lv_aload_n hx hb dX7_tiedAt_0 rfl (lv_at hl 0 rfl) ?_
  refine lv_iload_n hx hb dX7_tiedAt_1 rfl (lv_at hl 1 rfl) ?_
  refine x_roVi (As := [.int (nI p0)]) S hK hP hDW hZ hAB hBA hS hA hl mwX7_aliveAt lkX7_35 (ctX7_aliveAt l D k z o clawNow charder ctold creply cwet f72 f69 f70 f71 glines ghours glaw godds grows gheads gsayings gslugs gacts f26 f29 f30 f31 f32 p0 (by omega) (by omega) (by omega) (by omega) (by omega) (by omega) (by omega)) [0, 1, 2, 3, 4, 5, 6, 7, 8, 9, 10, 11, 12] rfl (by decide) rfl rfl rfl rfl rfl ⟨Nat.le_of_ble_eq_true rfl, Nat.le_of_ble_eq_true rfl, Nat.le_of_ble_eq_true rfl⟩ dX7_tiedAt_2 ⟨Nat.le_of_ble_eq_true rfl, Nat.le_of_ble_eq_true rfl⟩ (fun r_1 H locs hr_1 hP hS => ?_)
  refine lv_istore_n (lv' := [(2, .int r_1), (0, .ref (o 7)), (1, .int (nI p0))]) hx hb dX7_tiedAt_5 rfl hl (by decide) rfl (fun ls hl => ?_)
  refine lv_iconst (v := 0) hx hb dX7_tiedAt_6 (by decide) ?_
  refine lv_istore_n (lv' := [(3, .int 0), (2, .int r_1), (0, .ref (o 7)), (1, .int (nI p0))]) hx hb dX7_tiedAt_7 rfl hl (by decide) rfl (fun ls hl => ?_)
  refine lv_iconst (v := 0) hx hb dX7_tiedAt_8 (by decide) ?_
  refine lv_istore (lv' := [(4, .int 0), (3, .int 0), (2, .int r_1), (0, .ref (o 7)), (1, .int (nI p0))]) hx hb dX7_tiedAt_9 hl (by decide) rfl (fun ls hl => ?_)
  have lp_29 : ∀ (nn j_27 : Nat) (x_28 : Int32) (H : Heap) (locs : List Loc) (ls : Array Slot), j_27 ≤ gheads → gheads - j_27 < nn → va_P D vwCl [((o 7), .inr (7, [.ref (o 3), .ref (o 4), .ref (o 5)])), ((o 5), .inr (1, [.ref (o 3), .ref (o 4), .int clawNow, .int charder, .int ctold, .int creply, .int cwet, .ref (o 72)])), ((o 72), .inl (k 0, 17, .inl f72)), ((o 4), .inr (3, [.ref (o 69), .ref (o 70), .ref (o 71)])), ((o 69), .inl (k 0, 17, .inl f69)), ((o 70), .inl (k 0, 17, .inl f70)), ((o 71), .inl (k 0, 17, .inl f71)), ((o 3), .inr (2, [.int glines, .int (nI ghours), .int glaw, .int godds, .int (nI grows), .int (nI gheads), .int (nI gsayings), .int (nI gslugs), .int (nI gacts), .ref (o 26), .ref (o 27), .ref (o 28), .ref (o 29), .ref (o 30), .ref (o 31), .ref (o 32), .ref (o 33), .ref (o 34), .ref (o 35)])), ((o 26), .inl (k 0, 12, .inl f26)), ((o 29), .inl (k 0, 12, .inl f29)), ((o 30), .inl (k 0, 12, .inl f30)), ((o 31), .inl (k 0, 12, .inl f31)), ((o 32), .inl (k 0, 4, .inl f32))] H → va_S A s.heap H locs → lv_has ls 5 [(4, .int (nI j_27)), (3, .int x_28), (2, .int r_1), (0, .ref (o 7)), (1, .int (nI p0))] → W p l e (Rm 2 0 0) s m args below meth c H locs 0 0 Q (F0 m 11 ls []) := by
    intro nn
    induction nn with
    | zero => intro j_27 x_28 H locs ls hjj_27 hnj_27; exact absurd hnj_27 (by omega)
    | succ nn ihj_27 =>
      intro j_27 x_28 H locs ls hjj_27 hnj_27 hP hS hl
      refine lv_iload hx hb dX7_tiedAt_11 (lv_at hl 0 rfl) ?_
      refine lv_aload_n hx hb dX7_tiedAt_13 rfl (lv_at hl 3 rfl) ?_
      refine x_get S hK hP 0 rfl cfX7 0 lkX7_9 (by decide) rfl dX7_tiedAt_14 ?_
      refine x_get S hK hP 7 rfl cfX2 5 lkX7_67 (by decide) rfl dX7_tiedAt_17 ?_
      refine lv_icmp_ge (tgt := 66) hx hb dX7_tiedAt_20 (by decide) (fun c_30 => ?_) (fun c_30 => ?_)
      · skip
        have c_30 : gheads ≤ j_27 := (ni_le rfl rfl (by omega) (by omega)).mp c_30
        refine lv_iload_n hx hb dX7_tiedAt_66 rfl (lv_at hl 1 rfl) ?_
        exact x_reti S hr hlk hQ hS () trivial x_T dX7_tiedAt_67
      · skip
        have c_30 : ¬ gheads ≤ j_27 := fun q => c_30 ((ni_le rfl rfl (by omega) (by omega)).mpr q)
        refine lv_iload_n hx hb dX7_tiedAt_23 rfl (lv_at hl 2 rfl) ?_
        refine lv_iload hx hb dX7_tiedAt_24 (lv_at hl 0 rfl) ?_
        refine lv_iushr hx hb dX7_tiedAt_26 rfl ?_
        refine lv_topi (fun v_31 ev_31 => ?_)
        refine lv_iconst (v := 1) hx hb dX7_tiedAt_27 (by decide) ?_
        refine lv_iand hx hb dX7_tiedAt_28 ?_
        refine lv_topi (fun v_32 ev_32 => ?_)
        refine lv_if_eq (tgt := 60) hx hb dX7_tiedAt_29 (by decide) (fun c_33 => ?_) (fun c_33 => ?_)
        · skip
          refine lv_iinc (v := (nI (j_27 + 1))) (lv' := [(4, .int (nI (j_27 + 1))), (3, .int x_28), (2, .int r_1), (0, .ref (o 7)), (1, .int (nI p0))]) hx hb dX7_tiedAt_60 hl (k := 0) rfl (ni_inc _) (by decide) rfl (fun ls hl => ?_)
          refine lv_goto (tgt := 11) hx hb dX7_tiedAt_63 (by decide) ?_
          exact ihj_27 (j_27 + 1) x_28 _ _ _ (by omega) (by omega) hP hS (lv_sub hl [0, 1, 2, 3, 4] rfl)
        · skip
          refine lv_aload_n hx hb dX7_tiedAt_32 rfl (lv_at hl 3 rfl) ?_
          refine x_get S hK hP 0 rfl cfX7 2 lkX7_19 (by decide) rfl dX7_tiedAt_33 ?_
          refine lv_iload hx hb dX7_tiedAt_36 (lv_at hl 0 rfl) ?_
          refine lv_aload_n hx hb dX7_tiedAt_38 rfl (lv_at hl 3 rfl) ?_
          refine x_get S hK hP 0 rfl cfX7 2 lkX7_19 (by decide) rfl dX7_tiedAt_39 ?_
          refine x_get S hK hP 1 rfl cfX1 7 lkX7_44 (by decide) rfl dX7_tiedAt_42 ?_
          refine lv_iload_n hx hb dX7_tiedAt_45 rfl (lv_at hl 4 rfl) ?_
          refine x_iald S hK hP 2 rfl (vp_in_nI (by omega) (by decide)) dX7_tiedAt_46 ?_
          refine lv_topi (fun v_34 ev_34 => ?_)
          refine x_roVi (As := [.int (nI j_27), .int v_34]) S hK hP hDW hZ hAB hBA hS hA hl mwX1_lean lkX7_113 (ctX1_lean_c l D k z o clawNow charder ctold creply cwet f72 f69 f70 f71 glines ghours glaw godds grows gheads gsayings gslugs gacts f26 f30 f31 j_27 v_34 (by omega) (by omega) (by omega) (by omega) (by omega) (by omega) (by omega)) [1, 2, 3, 4, 5, 6, 7, 8, 10, 11] rfl (by decide) rfl rfl rfl rfl rfl ⟨Nat.le_of_ble_eq_true rfl, Nat.le_of_ble_eq_true rfl, Nat.le_of_ble_eq_true rfl⟩ dX7_tiedAt_47 ⟨Nat.le_of_ble_eq_true rfl, Nat.le_of_ble_eq_true rfl⟩ (fun r_35 H locs hr_35 hP hS => ?_)
          refine lv_if_ne (tgt := 60) hx hb dX7_tiedAt_50 (by decide) (fun c_37 => ?_) (fun c_37 => ?_)
          · skip
            refine lv_iinc (v := (nI (j_27 + 1))) (lv' := [(4, .int (nI (j_27 + 1))), (3, .int x_28), (2, .int r_1), (0, .ref (o 7)), (1, .int (nI p0))]) hx hb dX7_tiedAt_60 hl (k := 0) rfl (ni_inc _) (by decide) rfl (fun ls hl => ?_)
            refine lv_goto (tgt := 11) hx hb dX7_tiedAt_63 (by decide) ?_
            exact ihj_27 (j_27 + 1) x_28 _ _ _ (by omega) (by omega) hP hS (lv_sub hl [0, 1, 2, 3, 4] rfl)
          · skip
            refine lv_iload_n hx hb dX7_tiedAt_53 rfl (lv_at hl 1 rfl) ?_
            refine lv_iconst (v := 1) hx hb dX7_tiedAt_54 (by decide) ?_
            refine lv_iload hx hb dX7_tiedAt_55 (lv_at hl 0 rfl) ?_
            refine lv_ishl hx hb dX7_tiedAt_57 ?_
            refine lv_topi (fun v_38 ev_38 => ?_)
            refine lv_ior hx hb dX7_tiedAt_58 ?_
            refine lv_topi (fun v_39 ev_39 => ?_)
            refine lv_istore_n (lv' := [(3, .int v_39), (4, .int (nI j_27)), (2, .int r_1), (0, .ref (o 7)), (1, .int (nI p0))]) hx hb dX7_tiedAt_59 rfl hl (by decide) rfl (fun ls hl => ?_)
            refine lv_iinc (v := (nI (j_27 + 1))) (lv' := [(4, .int (nI (j_27 + 1))), (3, .int v_39), (2, .int r_1), (0, .ref (o 7)), (1, .int (nI p0))]) hx hb dX7_tiedAt_60 hl (k := 1) rfl (ni_inc _) (by decide) rfl (fun ls hl => ?_)
            refine lv_goto (tgt := 11) hx hb dX7_tiedAt_63 (by decide) ?_
            exact ihj_27 (j_27 + 1) v_39 _ _ _ (by omega) (by omega) hP hS (lv_sub hl [0, 1, 2, 3, 4] rfl)
  exact lp_29 (gheads + 1) 0 0 _ _ _ (by omega) (by omega) hP hS (lv_sub hl [0, 1, 2, 3, 4] rfl)

set_option maxHeartbeats 4000000 in
set_option maxRecDepth 100000 in
theorem ctX7_steadySince (l : Launch) (D : va_G) (k : Nat → ClassId) (z : Nat → Nat) (o : Nat → Nat) (clawNow : Int32) (charder : Int32) (ctold : Int32) (creply : Int32) (cwet : Int32) (f72 : Nat → Int32) (f69 : Nat → Int32) (f70 : Nat → Int32) (f71 : Nat → Int32) (glines : Int32) (ghours : Nat) (glaw : Int32) (godds : Int32) (grows : Nat) (gheads : Nat) (gsayings : Nat) (gslugs : Nat) (gacts : Nat) (f26 : Nat → Int32) (f29 : Nat → Int32) (f30 : Nat → Int32) (f31 : Nat → Int32) (f32 : Nat → Int32) (p0 : Int32) (hghours : ghours ≤ 16) (hgrows : grows ≤ 4) (hgheads : gheads ≤ 12) (hgsayings : gsayings ≤ 8) (hgslugs : gslugs ≤ 4) (hgacts : gacts ≤ 30) : RO l yX7_steadySince cX7_steadySince 3 (some .int) 1 D k z [.ref (o 7), .int p0] [((o 7), .inr (7, [.ref (o 3), .ref (o 4), .ref (o 5)])), ((o 5), .inr (1, [.ref (o 3), .ref (o 4), .int clawNow, .int charder, .int ctold, .int creply, .int cwet, .ref (o 72)])), ((o 72), .inl (k 0, 17, .inl f72)), ((o 4), .inr (3, [.ref (o 69), .ref (o 70), .ref (o 71)])), ((o 69), .inl (k 0, 17, .inl f69)), ((o 70), .inl (k 0, 17, .inl f70)), ((o 71), .inl (k 0, 17, .inl f71)), ((o 3), .inr (2, [.int glines, .int (nI ghours), .int glaw, .int godds, .int (nI grows), .int (nI gheads), .int (nI gsayings), .int (nI gslugs), .int (nI gacts), .ref (o 26), .ref (o 27), .ref (o 28), .ref (o 29), .ref (o 30), .ref (o 31), .ref (o 32), .ref (o 33), .ref (o 34), .ref (o 35)])), ((o 26), .inl (k 0, 12, .inl f26)), ((o 29), .inl (k 0, 12, .inl f29)), ((o 30), .inl (k 0, 12, .inl f30)), ((o 31), .inl (k 0, 12, .inl f31)), ((o 32), .inl (k 0, 4, .inl f32))] (Qi (fun r : Int32 => True)) := by
  refine RO.of (by decide) (Nat.le_of_ble_eq_true rfl) ?_
  intro p e s m below meth c ls A B args Q S hr hlk hQ hK hP hDW hZ hAB hBA hA hS hl
  have hx := S.1
  have hb := S.2.1
  have hl : lv_has ls 3 [(0, .ref (o 7)), (1, .int p0)] := hl
  refine lv_aload_n hx hb dX7_steadySince_0 rfl (lv_at hl 0 rfl) ?_
  refine x_get S hK hP 0 rfl cfX7 0 lkX7_9 (by decide) rfl dX7_steadySince_1 ?_
  refine x_get S hK hP 7 rfl cfX2 1 lkX7_54 (by decide) rfl dX7_steadySince_4 ?_
  refine lv_istore_n (lv' := [(2, .int (nI ghours)), (0, .ref (o 7)), (1, .int p0)]) hx hb dX7_steadySince_7 rfl hl (by decide) rfl (fun ls hl => ?_)
  have lp_9 : ∀ (nn j_8 : Nat)  (H : Heap) (locs : List Loc) (ls : Array Slot), j_8 ≤ 16 → j_8 < nn → va_P D vwCl [((o 7), .inr (7, [.ref (o 3), .ref (o 4), .ref (o 5)])), ((o 5), .inr (1, [.ref (o 3), .ref (o 4), .int clawNow, .int charder, .int ctold, .int creply, .int cwet, .ref (o 72)])), ((o 72), .inl (k 0, 17, .inl f72)), ((o 4), .inr (3, [.ref (o 69), .ref (o 70), .ref (o 71)])), ((o 69), .inl (k 0, 17, .inl f69)), ((o 70), .inl (k 0, 17, .inl f70)), ((o 71), .inl (k 0, 17, .inl f71)), ((o 3), .inr (2, [.int glines, .int (nI ghours), .int glaw, .int godds, .int (nI grows), .int (nI gheads), .int (nI gsayings), .int (nI gslugs), .int (nI gacts), .ref (o 26), .ref (o 27), .ref (o 28), .ref (o 29), .ref (o 30), .ref (o 31), .ref (o 32), .ref (o 33), .ref (o 34), .ref (o 35)])), ((o 26), .inl (k 0, 12, .inl f26)), ((o 29), .inl (k 0, 12, .inl f29)), ((o 30), .inl (k 0, 12, .inl f30)), ((o 31), .inl (k 0, 12, .inl f31)), ((o 32), .inl (k 0, 4, .inl f32))] H → va_S A s.heap H locs → lv_has ls 3 [(2, .int (nI j_8)), (0, .ref (o 7)), (1, .int p0)] → W p l e (Rm 1 0 0) s m args below meth c H locs 0 0 Q (F0 m 8 ls []) := by
    intro nn
    induction nn with
    | zero => intro j_8  H locs ls hjj_8 hnj_8; exact absurd hnj_8 (by omega)
    | succ nn ihj_8 =>
      intro j_8  H locs ls hjj_8 hnj_8 hP hS hl
      refine lv_iload_n hx hb dX7_steadySince_8 rfl (lv_at hl 0 rfl) ?_
      refine lv_if_le (tgt := 30) hx hb dX7_steadySince_9 (by decide) (fun c_10 => ?_) (fun c_10 => ?_)
      · skip
        have c_10 : j_8 ≤ 0 := (ni_le rfl (by decide) (by omega) (by omega)).mp c_10
        refine lv_iload_n hx hb dX7_steadySince_30 rfl (lv_at hl 0 rfl) ?_
        exact x_reti S hr hlk hQ hS () trivial x_T dX7_steadySince_31
      · skip
        have c_10 : ¬ j_8 ≤ 0 := fun q => c_10 ((ni_le rfl (by decide) (by omega) (by omega)).mpr q)
        refine lv_aload_n hx hb dX7_steadySince_12 rfl (lv_at hl 1 rfl) ?_
        refine lv_iload_n hx hb dX7_steadySince_13 rfl (lv_at hl 0 rfl) ?_
        refine x_roVi (As := [.int (nI j_8)]) S hK hP hDW hZ hAB hBA hS hA hl mwX7_turnedAt lkX7_58 (ctX7_turnedAt l D k z o clawNow charder ctold creply cwet f72 f69 f70 f71 glines ghours glaw godds grows gheads gsayings gslugs gacts f26 f29 f30 f31 f32 j_8 (by omega) (by omega) (by omega) (by omega) (by omega) (by omega) (by omega)) [0, 1, 2, 3, 4, 5, 6, 7, 8, 9, 10, 11, 12] rfl (by decide) rfl rfl rfl rfl rfl ⟨Nat.le_of_ble_eq_true rfl, Nat.le_of_ble_eq_true rfl, Nat.le_of_ble_eq_true rfl⟩ dX7_steadySince_14 ⟨Nat.le_of_ble_eq_true rfl, Nat.le_of_ble_eq_true rfl⟩ (fun r_11 H locs hr_11 hP hS => ?_)
        refine lv_iload_n hx hb dX7_steadySince_17 rfl (lv_at hl 2 rfl) ?_
        refine lv_iushr hx hb dX7_steadySince_18 rfl ?_
        refine lv_topi (fun v_13 ev_13 => ?_)
        refine lv_iconst (v := 1) hx hb dX7_steadySince_19 (by decide) ?_
        refine lv_iand hx hb dX7_steadySince_20 ?_
        refine lv_topi (fun v_14 ev_14 => ?_)
        refine lv_if_ne (tgt := 30) hx hb dX7_steadySince_21 (by decide) (fun c_15 => ?_) (fun c_15 => ?_)
        · skip
          refine lv_iload_n hx hb dX7_steadySince_30 rfl (lv_at hl 0 rfl) ?_
          exact x_reti S hr hlk hQ hS () trivial x_T dX7_steadySince_31
        · skip
          refine lv_iinc (v := (nI (j_8 - 1))) (lv' := [(2, .int (nI (j_8 - 1))), (0, .ref (o 7)), (1, .int p0)]) hx hb dX7_steadySince_24 hl (k := 0) rfl (ni_dec (by omega)) (by decide) rfl (fun ls hl => ?_)
          refine lv_goto (tgt := 8) hx hb dX7_steadySince_27 (by decide) ?_
          exact ihj_8 (j_8 - 1)  _ _ _ (by omega) (by omega) hP hS (lv_sub hl [0, 1, 2] rfl)
  exact lp_9 (ghours + 1) ghours  _ _ _ (by omega) (by omega) hP hS (lv_sub hl [0, 1, 2] rfl)

set_option maxHeartbeats 4000000 in
set_option maxRecDepth 100000 in
theorem ctX7_longestHeld (l : Launch) (D : va_G) (k : Nat → ClassId) (z : Nat → Nat) (o : Nat → Nat) (clawNow : Int32) (charder : Int32) (ctold : Int32) (creply : Int32) (cwet : Int32) (f72 : Nat → Int32) (f69 : Nat → Int32) (f70 : Nat → Int32) (f71 : Nat → Int32) (glines : Int32) (ghours : Nat) (glaw : Int32) (godds : Int32) (grows : Nat) (gheads : Nat) (gsayings : Nat) (gslugs : Nat) (gacts : Nat) (f26 : Nat → Int32) (f29 : Nat → Int32) (f30 : Nat → Int32) (f31 : Nat → Int32) (f32 : Nat → Int32) (p0 : Int32) (hghours : ghours ≤ 16) (hgrows : grows ≤ 4) (hgheads : gheads ≤ 12) (hgsayings : gsayings ≤ 8) (hgslugs : gslugs ≤ 4) (hgacts : gacts ≤ 30) : RO l yX7_longestHeld cX7_longestHeld 7 (some .int) 2 D k z [.ref (o 7), .int p0] [((o 7), .inr (7, [.ref (o 3), .ref (o 4), .ref (o 5)])), ((o 5), .inr (1, [.ref (o 3), .ref (o 4), .int clawNow, .int charder, .int ctold, .int creply, .int cwet, .ref (o 72)])), ((o 72), .inl (k 0, 17, .inl f72)), ((o 4), .inr (3, [.ref (o 69), .ref (o 70), .ref (o 71)])), ((o 69), .inl (k 0, 17, .inl f69)), ((o 70), .inl (k 0, 17, .inl f70)), ((o 71), .inl (k 0, 17, .inl f71)), ((o 3), .inr (2, [.int glines, .int (nI ghours), .int glaw, .int godds, .int (nI grows), .int (nI gheads), .int (nI gsayings), .int (nI gslugs), .int (nI gacts), .ref (o 26), .ref (o 27), .ref (o 28), .ref (o 29), .ref (o 30), .ref (o 31), .ref (o 32), .ref (o 33), .ref (o 34), .ref (o 35)])), ((o 26), .inl (k 0, 12, .inl f26)), ((o 29), .inl (k 0, 12, .inl f29)), ((o 30), .inl (k 0, 12, .inl f30)), ((o 31), .inl (k 0, 12, .inl f31)), ((o 32), .inl (k 0, 4, .inl f32))] (Qi (fun r : Int32 => True)) := by
  refine RO.of (by decide) (Nat.le_of_ble_eq_true rfl) ?_
  intro p e s m below meth c ls A B args Q S hr hlk hQ hK hP hDW hZ hAB hBA hA hS hl
  have hx := S.1
  have hb := S.2.1
  have hl : lv_has ls 7 [(0, .ref (o 7)), (1, .int p0)] := hl
  refine lv_iconst (v := 0) hx hb dX7_longestHeld_0 (by decide) ?_
  refine lv_istore_n (lv' := [(2, .int 0), (0, .ref (o 7)), (1, .int p0)]) hx hb dX7_longestHeld_1 rfl hl (by decide) rfl (fun ls hl => ?_)
  refine lv_iconst (v := 0) hx hb dX7_longestHeld_2 (by decide) ?_
  refine lv_istore_n (lv' := [(3, .int 0), (2, .int 0), (0, .ref (o 7)), (1, .int p0)]) hx hb dX7_longestHeld_3 rfl hl (by decide) rfl (fun ls hl => ?_)
  refine lv_iconst (v := 0) hx hb dX7_longestHeld_4 (by decide) ?_
  refine lv_istore (lv' := [(4, .int 0), (3, .int 0), (2, .int 0), (0, .ref (o 7)), (1, .int p0)]) hx hb dX7_longestHeld_5 hl (by decide) rfl (fun ls hl => ?_)
  have lp_58 : ∀ (nn j_55 : Nat) (x_56 : Int32) (x_57 : Int32) (H : Heap) (locs : List Loc) (ls : Array Slot), j_55 ≤ ghours + 1 → ghours + 1 - j_55 < nn → va_P D vwCl [((o 7), .inr (7, [.ref (o 3), .ref (o 4), .ref (o 5)])), ((o 5), .inr (1, [.ref (o 3), .ref (o 4), .int clawNow, .int charder, .int ctold, .int creply, .int cwet, .ref (o 72)])), ((o 72), .inl (k 0, 17, .inl f72)), ((o 4), .inr (3, [.ref (o 69), .ref (o 70), .ref (o 71)])), ((o 69), .inl (k 0, 17, .inl f69)), ((o 70), .inl (k 0, 17, .inl f70)), ((o 71), .inl (k 0, 17, .inl f71)), ((o 3), .inr (2, [.int glines, .int (nI ghours), .int glaw, .int godds, .int (nI grows), .int (nI gheads), .int (nI gsayings), .int (nI gslugs), .int (nI gacts), .ref (o 26), .ref (o 27), .ref (o 28), .ref (o 29), .ref (o 30), .ref (o 31), .ref (o 32), .ref (o 33), .ref (o 34), .ref (o 35)])), ((o 26), .inl (k 0, 12, .inl f26)), ((o 29), .inl (k 0, 12, .inl f29)), ((o 30), .inl (k 0, 12, .inl f30)), ((o 31), .inl (k 0, 12, .inl f31)), ((o 32), .inl (k 0, 4, .inl f32))] H → va_S A s.heap H locs → lv_has ls 7 [(4, .int (nI j_55)), (3, .int x_57), (2, .int x_56), (0, .ref (o 7)), (1, .int p0)] → W p l e (Rm 2 0 0) s m args below meth c H locs 0 0 Q (F0 m 7 ls []) := by
    intro nn
    induction nn with
    | zero => intro j_55 x_56 x_57 H locs ls hjj_55 hnj_55; exact absurd hnj_55 (by omega)
    | succ nn ihj_55 =>
      intro j_55 x_56 x_57 H locs ls hjj_55 hnj_55 hP hS hl
      refine lv_iload hx hb dX7_longestHeld_7 (lv_at hl 0 rfl) ?_
      refine lv_aload_n hx hb dX7_longestHeld_9 rfl (lv_at hl 3 rfl) ?_
      refine x_get S hK hP 0 rfl cfX7 0 lkX7_9 (by decide) rfl dX7_longestHeld_10 ?_
      refine x_get S hK hP 7 rfl cfX2 1 lkX7_54 (by decide) rfl dX7_longestHeld_13 ?_
      refine lv_icmp_gt (tgt := 93) hx hb dX7_longestHeld_16 (by decide) (fun c_59 => ?_) (fun c_59 => ?_)
      · skip
        have c_59 : ghours < j_55 := (ni_lt rfl rfl (by omega) (by omega)).mp c_59
        refine lv_iload_n hx hb dX7_longestHeld_93 rfl (lv_at hl 2 rfl) ?_
        exact x_reti S hr hlk hQ hS () trivial x_T dX7_longestHeld_94
      · skip
        have c_59 : ¬ ghours < j_55 := fun q => c_59 ((ni_lt rfl rfl (by omega) (by omega)).mpr q)
        refine lv_aload_n hx hb dX7_longestHeld_19 rfl (lv_at hl 3 rfl) ?_
        refine lv_iload hx hb dX7_longestHeld_20 (lv_at hl 0 rfl) ?_
        refine x_roVi (As := [.int (nI j_55)]) S hK hP hDW hZ hAB hBA hS hA hl mwX7_turnedAt lkX7_58 (ctX7_turnedAt l D k z o clawNow charder ctold creply cwet f72 f69 f70 f71 glines ghours glaw godds grows gheads gsayings gslugs gacts f26 f29 f30 f31 f32 j_55 (by omega) (by omega) (by omega) (by omega) (by omega) (by omega) (by omega)) [0, 1, 2, 3, 4, 5, 6, 7, 8, 9, 10, 11, 12] rfl (by decide) rfl rfl rfl rfl rfl ⟨Nat.le_of_ble_eq_true rfl, Nat.le_of_ble_eq_true rfl, Nat.le_of_ble_eq_true rfl⟩ dX7_longestHeld_22 ⟨Nat.le_of_ble_eq_true rfl, Nat.le_of_ble_eq_true rfl⟩ (fun r_60 H locs hr_60 hP hS => ?_)
        refine lv_iload_n hx hb dX7_longestHeld_25 rfl (lv_at hl 4 rfl) ?_
        refine lv_iushr hx hb dX7_longestHeld_26 rfl ?_
        refine lv_topi (fun v_62 ev_62 => ?_)
        refine lv_iconst (v := 1) hx hb dX7_longestHeld_27 (by decide) ?_
        refine lv_iand hx hb dX7_longestHeld_28 ?_
        refine lv_topi (fun v_63 ev_63 => ?_)
        refine lv_if_ne (tgt := 36) hx hb dX7_longestHeld_29 (by decide) (fun c_64 => ?_) (fun c_64 => ?_)
        · skip
          refine lv_iconst (v := 0) hx hb dX7_longestHeld_36 (by decide) ?_
          refine lv_istore (lv' := [(5, .int 0), (4, .int (nI j_55)), (3, .int x_57), (2, .int x_56), (0, .ref (o 7)), (1, .int p0)]) hx hb dX7_longestHeld_37 hl (by decide) rfl (fun ls hl => ?_)
          refine lv_aload_n hx hb dX7_longestHeld_39 rfl (lv_at hl 4 rfl) ?_
          refine x_get S hK hP 0 rfl cfX7 2 lkX7_19 (by decide) rfl dX7_longestHeld_40 ?_
          refine lv_iload_n hx hb dX7_longestHeld_43 rfl (lv_at hl 5 rfl) ?_
          refine lv_iload hx hb dX7_longestHeld_44 (lv_at hl 1 rfl) ?_
          refine x_roVi (As := [.int p0, .int (nI j_55)]) S hK hP hDW hZ hAB hBA hS hA hl mwX1_viewAt lkX7_64 (ctX1_viewAt_c l D k z o clawNow charder ctold creply cwet f72 f69 f70 f71 glines ghours glaw godds grows gheads gsayings gslugs gacts f26 f30 f31 p0 j_55 (by omega) (by omega) (by omega) (by omega) (by omega) (by omega) (by omega)) [1, 2, 3, 4, 5, 6, 7, 8, 10, 11] rfl (by decide) rfl rfl rfl rfl rfl ⟨Nat.le_of_ble_eq_true rfl, Nat.le_of_ble_eq_true rfl, Nat.le_of_ble_eq_true rfl⟩ dX7_longestHeld_46 ⟨Nat.le_of_ble_eq_true rfl, Nat.le_of_ble_eq_true rfl⟩ (fun r_65 H locs hr_65 hP hS => ?_)
          refine lv_if_eq (tgt := 56) hx hb dX7_longestHeld_49 (by decide) (fun c_67 => ?_) (fun c_67 => ?_)
          · skip
            refine lv_iconst (v := 0) hx hb dX7_longestHeld_56 (by decide) ?_
            refine lv_istore (lv' := [(6, .int 0), (5, .int 0), (4, .int (nI j_55)), (3, .int x_57), (2, .int x_56), (0, .ref (o 7)), (1, .int p0)]) hx hb dX7_longestHeld_57 hl (by decide) rfl (fun ls hl => ?_)
            refine lv_iload hx hb dX7_longestHeld_59 (lv_at hl 0 rfl) ?_
            refine lv_if_eq (tgt := 79) hx hb dX7_longestHeld_61 (by decide) (fun c_68 => ?_) (fun c_68 => absurd (by decide) c_68)
            refine lv_iconst (v := 0) hx hb dX7_longestHeld_79 (by decide) ?_
            refine lv_istore_n (lv' := [(3, .int 0), (6, .int 0), (5, .int 0), (4, .int (nI j_55)), (2, .int x_56), (0, .ref (o 7)), (1, .int p0)]) hx hb dX7_longestHeld_80 rfl hl (by decide) rfl (fun ls hl => ?_)
            refine lv_iload_n hx hb dX7_longestHeld_81 rfl (lv_at hl 4 rfl) ?_
            refine lv_iload_n hx hb dX7_longestHeld_82 rfl (lv_at hl 0 rfl) ?_
            refine x_mmax S hl lkX7_77 (Nat.le_of_ble_eq_true rfl) (Nat.le_of_ble_eq_true rfl) ⟨Nat.le_of_ble_eq_true rfl, Nat.le_of_ble_eq_true rfl⟩ dX7_longestHeld_83 (fun v_69 ev_69 => ?_)
            refine lv_istore_n (lv' := [(2, .int v_69), (3, .int 0), (6, .int 0), (5, .int 0), (4, .int (nI j_55)), (0, .ref (o 7)), (1, .int p0)]) hx hb dX7_longestHeld_86 rfl hl (by decide) rfl (fun ls hl => ?_)
            refine lv_iinc (v := (nI (j_55 + 1))) (lv' := [(4, .int (nI (j_55 + 1))), (2, .int v_69), (3, .int 0), (6, .int 0), (5, .int 0), (0, .ref (o 7)), (1, .int p0)]) hx hb dX7_longestHeld_87 hl (k := 4) rfl (ni_inc _) (by decide) rfl (fun ls hl => ?_)
            refine lv_goto (tgt := 7) hx hb dX7_longestHeld_90 (by decide) ?_
            exact ihj_55 (j_55 + 1) v_69 0 _ _ _ (by omega) (by omega) hP hS (lv_sub hl [0, 2, 1, 5, 6] rfl)
          · skip
            refine lv_iconst (v := 1) hx hb dX7_longestHeld_52 (by decide) ?_
            refine lv_goto (tgt := 57) hx hb dX7_longestHeld_53 (by decide) ?_
            refine lv_istore (lv' := [(6, .int 1), (5, .int 0), (4, .int (nI j_55)), (3, .int x_57), (2, .int x_56), (0, .ref (o 7)), (1, .int p0)]) hx hb dX7_longestHeld_57 hl (by decide) rfl (fun ls hl => ?_)
            refine lv_iload hx hb dX7_longestHeld_59 (lv_at hl 0 rfl) ?_
            refine lv_if_eq (tgt := 79) hx hb dX7_longestHeld_61 (by decide) (fun c_70 => absurd c_70 (by decide)) (fun c_70 => ?_)
            refine lv_iload hx hb dX7_longestHeld_64 (lv_at hl 1 rfl) ?_
            refine lv_if_eq (tgt := 75) hx hb dX7_longestHeld_66 (by decide) (fun c_71 => ?_) (fun c_71 => absurd (by decide) c_71)
            refine lv_iconst (v := 1) hx hb dX7_longestHeld_75 (by decide) ?_
            refine lv_goto (tgt := 80) hx hb dX7_longestHeld_76 (by decide) ?_
            refine lv_istore_n (lv' := [(3, .int 1), (6, .int 1), (5, .int 0), (4, .int (nI j_55)), (2, .int x_56), (0, .ref (o 7)), (1, .int p0)]) hx hb dX7_longestHeld_80 rfl hl (by decide) rfl (fun ls hl => ?_)
            refine lv_iload_n hx hb dX7_longestHeld_81 rfl (lv_at hl 4 rfl) ?_
            refine lv_iload_n hx hb dX7_longestHeld_82 rfl (lv_at hl 0 rfl) ?_
            refine x_mmax S hl lkX7_77 (Nat.le_of_ble_eq_true rfl) (Nat.le_of_ble_eq_true rfl) ⟨Nat.le_of_ble_eq_true rfl, Nat.le_of_ble_eq_true rfl⟩ dX7_longestHeld_83 (fun v_72 ev_72 => ?_)
            refine lv_istore_n (lv' := [(2, .int v_72), (3, .int 1), (6, .int 1), (5, .int 0), (4, .int (nI j_55)), (0, .ref (o 7)), (1, .int p0)]) hx hb dX7_longestHeld_86 rfl hl (by decide) rfl (fun ls hl => ?_)
            refine lv_iinc (v := (nI (j_55 + 1))) (lv' := [(4, .int (nI (j_55 + 1))), (2, .int v_72), (3, .int 1), (6, .int 1), (5, .int 0), (0, .ref (o 7)), (1, .int p0)]) hx hb dX7_longestHeld_87 hl (k := 4) rfl (ni_inc _) (by decide) rfl (fun ls hl => ?_)
            refine lv_goto (tgt := 7) hx hb dX7_longestHeld_90 (by decide) ?_
            exact ihj_55 (j_55 + 1) v_72 1 _ _ _ (by omega) (by omega) hP hS (lv_sub hl [0, 2, 1, 5, 6] rfl)
        · skip
          refine lv_iconst (v := 1) hx hb dX7_longestHeld_32 (by decide) ?_
          refine lv_goto (tgt := 37) hx hb dX7_longestHeld_33 (by decide) ?_
          refine lv_istore (lv' := [(5, .int 1), (4, .int (nI j_55)), (3, .int x_57), (2, .int x_56), (0, .ref (o 7)), (1, .int p0)]) hx hb dX7_longestHeld_37 hl (by decide) rfl (fun ls hl => ?_)
          refine lv_aload_n hx hb dX7_longestHeld_39 rfl (lv_at hl 4 rfl) ?_
          refine x_get S hK hP 0 rfl cfX7 2 lkX7_19 (by decide) rfl dX7_longestHeld_40 ?_
          refine lv_iload_n hx hb dX7_longestHeld_43 rfl (lv_at hl 5 rfl) ?_
          refine lv_iload hx hb dX7_longestHeld_44 (lv_at hl 1 rfl) ?_
          refine x_roVi (As := [.int p0, .int (nI j_55)]) S hK hP hDW hZ hAB hBA hS hA hl mwX1_viewAt lkX7_64 (ctX1_viewAt_c l D k z o clawNow charder ctold creply cwet f72 f69 f70 f71 glines ghours glaw godds grows gheads gsayings gslugs gacts f26 f30 f31 p0 j_55 (by omega) (by omega) (by omega) (by omega) (by omega) (by omega) (by omega)) [1, 2, 3, 4, 5, 6, 7, 8, 10, 11] rfl (by decide) rfl rfl rfl rfl rfl ⟨Nat.le_of_ble_eq_true rfl, Nat.le_of_ble_eq_true rfl, Nat.le_of_ble_eq_true rfl⟩ dX7_longestHeld_46 ⟨Nat.le_of_ble_eq_true rfl, Nat.le_of_ble_eq_true rfl⟩ (fun r_73 H locs hr_73 hP hS => ?_)
          refine lv_if_eq (tgt := 56) hx hb dX7_longestHeld_49 (by decide) (fun c_75 => ?_) (fun c_75 => ?_)
          · skip
            refine lv_iconst (v := 0) hx hb dX7_longestHeld_56 (by decide) ?_
            refine lv_istore (lv' := [(6, .int 0), (5, .int 1), (4, .int (nI j_55)), (3, .int x_57), (2, .int x_56), (0, .ref (o 7)), (1, .int p0)]) hx hb dX7_longestHeld_57 hl (by decide) rfl (fun ls hl => ?_)
            refine lv_iload hx hb dX7_longestHeld_59 (lv_at hl 0 rfl) ?_
            refine lv_if_eq (tgt := 79) hx hb dX7_longestHeld_61 (by decide) (fun c_76 => ?_) (fun c_76 => absurd (by decide) c_76)
            refine lv_iconst (v := 0) hx hb dX7_longestHeld_79 (by decide) ?_
            refine lv_istore_n (lv' := [(3, .int 0), (6, .int 0), (5, .int 1), (4, .int (nI j_55)), (2, .int x_56), (0, .ref (o 7)), (1, .int p0)]) hx hb dX7_longestHeld_80 rfl hl (by decide) rfl (fun ls hl => ?_)
            refine lv_iload_n hx hb dX7_longestHeld_81 rfl (lv_at hl 4 rfl) ?_
            refine lv_iload_n hx hb dX7_longestHeld_82 rfl (lv_at hl 0 rfl) ?_
            refine x_mmax S hl lkX7_77 (Nat.le_of_ble_eq_true rfl) (Nat.le_of_ble_eq_true rfl) ⟨Nat.le_of_ble_eq_true rfl, Nat.le_of_ble_eq_true rfl⟩ dX7_longestHeld_83 (fun v_77 ev_77 => ?_)
            refine lv_istore_n (lv' := [(2, .int v_77), (3, .int 0), (6, .int 0), (5, .int 1), (4, .int (nI j_55)), (0, .ref (o 7)), (1, .int p0)]) hx hb dX7_longestHeld_86 rfl hl (by decide) rfl (fun ls hl => ?_)
            refine lv_iinc (v := (nI (j_55 + 1))) (lv' := [(4, .int (nI (j_55 + 1))), (2, .int v_77), (3, .int 0), (6, .int 0), (5, .int 1), (0, .ref (o 7)), (1, .int p0)]) hx hb dX7_longestHeld_87 hl (k := 4) rfl (ni_inc _) (by decide) rfl (fun ls hl => ?_)
            refine lv_goto (tgt := 7) hx hb dX7_longestHeld_90 (by decide) ?_
            exact ihj_55 (j_55 + 1) v_77 0 _ _ _ (by omega) (by omega) hP hS (lv_sub hl [0, 2, 1, 5, 6] rfl)
          · skip
            refine lv_iconst (v := 1) hx hb dX7_longestHeld_52 (by decide) ?_
            refine lv_goto (tgt := 57) hx hb dX7_longestHeld_53 (by decide) ?_
            refine lv_istore (lv' := [(6, .int 1), (5, .int 1), (4, .int (nI j_55)), (3, .int x_57), (2, .int x_56), (0, .ref (o 7)), (1, .int p0)]) hx hb dX7_longestHeld_57 hl (by decide) rfl (fun ls hl => ?_)
            refine lv_iload hx hb dX7_longestHeld_59 (lv_at hl 0 rfl) ?_
            refine lv_if_eq (tgt := 79) hx hb dX7_longestHeld_61 (by decide) (fun c_78 => absurd c_78 (by decide)) (fun c_78 => ?_)
            refine lv_iload hx hb dX7_longestHeld_64 (lv_at hl 1 rfl) ?_
            refine lv_if_eq (tgt := 75) hx hb dX7_longestHeld_66 (by decide) (fun c_79 => absurd c_79 (by decide)) (fun c_79 => ?_)
            refine lv_iload_n hx hb dX7_longestHeld_69 rfl (lv_at hl 3 rfl) ?_
            refine lv_iconst (v := 1) hx hb dX7_longestHeld_70 (by decide) ?_
            refine lv_iadd hx hb dX7_longestHeld_71 ?_
            refine lv_topi (fun v_80 ev_80 => ?_)
            refine lv_goto (tgt := 80) hx hb dX7_longestHeld_72 (by decide) ?_
            refine lv_istore_n (lv' := [(3, .int v_80), (6, .int 1), (5, .int 1), (4, .int (nI j_55)), (2, .int x_56), (0, .ref (o 7)), (1, .int p0)]) hx hb dX7_longestHeld_80 rfl hl (by decide) rfl (fun ls hl => ?_)
            refine lv_iload_n hx hb dX7_longestHeld_81 rfl (lv_at hl 4 rfl) ?_
            refine lv_iload_n hx hb dX7_longestHeld_82 rfl (lv_at hl 0 rfl) ?_
            refine x_mmax S hl lkX7_77 (Nat.le_of_ble_eq_true rfl) (Nat.le_of_ble_eq_true rfl) ⟨Nat.le_of_ble_eq_true rfl, Nat.le_of_ble_eq_true rfl⟩ dX7_longestHeld_83 (fun v_81 ev_81 => ?_)
            refine lv_istore_n (lv' := [(2, .int v_81), (3, .int v_80), (6, .int 1), (5, .int 1), (4, .int (nI j_55)), (0, .ref (o 7)), (1, .int p0)]) hx hb dX7_longestHeld_86 rfl hl (by decide) rfl (fun ls hl => ?_)
            refine lv_iinc (v := (nI (j_55 + 1))) (lv' := [(4, .int (nI (j_55 + 1))), (2, .int v_81), (3, .int v_80), (6, .int 1), (5, .int 1), (0, .ref (o 7)), (1, .int p0)]) hx hb dX7_longestHeld_87 hl (k := 4) rfl (ni_inc _) (by decide) rfl (fun ls hl => ?_)
            refine lv_goto (tgt := 7) hx hb dX7_longestHeld_90 (by decide) ?_
            exact ihj_55 (j_55 + 1) v_81 v_80 _ _ _ (by omega) (by omega) hP hS (lv_sub hl [0, 2, 1, 5, 6] rfl)
  exact lp_58 (ghours + 1 + 1) 0 0 0 _ _ _ (by omega) (by omega) hP hS (lv_sub hl [0, 1, 2, 3, 4] rfl)

set_option maxHeartbeats 4000000 in
set_option maxRecDepth 100000 in
theorem ctX7_hushAt (l : Launch) (D : va_G) (k : Nat → ClassId) (z : Nat → Nat) (o : Nat → Nat) (clawNow : Int32) (charder : Int32) (ctold : Int32) (creply : Int32) (cwet : Int32) (f72 : Nat → Int32) (f69 : Nat → Int32) (f70 : Nat → Int32) (f71 : Nat → Int32) (glines : Int32) (ghours : Nat) (glaw : Int32) (godds : Int32) (grows : Nat) (gheads : Nat) (gsayings : Nat) (gslugs : Nat) (gacts : Nat) (f26 : Nat → Int32) (f29 : Nat → Int32) (f30 : Nat → Int32) (f31 : Nat → Int32) (f32 : Nat → Int32) (p0 : Nat) (hghours : ghours ≤ 16) (hgrows : grows ≤ 4) (hgheads : gheads ≤ 12) (hgsayings : gsayings ≤ 8) (hgslugs : gslugs ≤ 4) (hgacts : gacts ≤ 30) (hp0 : p0 ≤ 16) : RO l yX7_hushAt cX7_hushAt 6 (some .int) 3 D k z [.ref (o 7), .int (nI p0)] [((o 7), .inr (7, [.ref (o 3), .ref (o 4), .ref (o 5)])), ((o 5), .inr (1, [.ref (o 3), .ref (o 4), .int clawNow, .int charder, .int ctold, .int creply, .int cwet, .ref (o 72)])), ((o 72), .inl (k 0, 17, .inl f72)), ((o 4), .inr (3, [.ref (o 69), .ref (o 70), .ref (o 71)])), ((o 69), .inl (k 0, 17, .inl f69)), ((o 70), .inl (k 0, 17, .inl f70)), ((o 71), .inl (k 0, 17, .inl f71)), ((o 3), .inr (2, [.int glines, .int (nI ghours), .int glaw, .int godds, .int (nI grows), .int (nI gheads), .int (nI gsayings), .int (nI gslugs), .int (nI gacts), .ref (o 26), .ref (o 27), .ref (o 28), .ref (o 29), .ref (o 30), .ref (o 31), .ref (o 32), .ref (o 33), .ref (o 34), .ref (o 35)])), ((o 26), .inl (k 0, 12, .inl f26)), ((o 29), .inl (k 0, 12, .inl f29)), ((o 30), .inl (k 0, 12, .inl f30)), ((o 31), .inl (k 0, 12, .inl f31)), ((o 32), .inl (k 0, 4, .inl f32))] (Qi (fun r : Int32 => True)) := by
  refine RO.of (by decide) (Nat.le_of_ble_eq_true rfl) ?_
  intro p e s m below meth c ls A B args Q S hr hlk hQ hK hP hDW hZ hAB hBA hA hS hl
  have hx := S.1
  have hb := S.2.1
  have hl : lv_has ls 6 [(0, .ref (o 7)), (1, .int (nI p0))] := hl
  refine lv_aload_n hx hb dX7_hushAt_0 rfl (lv_at hl 0 rfl) ?_
  refine lv_iconst (v := 0) hx hb dX7_hushAt_1 (by decide) ?_
  refine lv_iload_n hx hb dX7_hushAt_2 rfl (lv_at hl 1 rfl) ?_
  refine x_roVi (As := [.int 0, .int (nI p0)]) S hK hP hDW hZ hAB hBA hS hA hl mwX7_holdersAt lkX7_61 (ctX7_holdersAt l D k z o clawNow charder ctold creply cwet f72 f69 f70 f71 glines ghours glaw godds grows gheads gsayings gslugs gacts f26 f29 f30 f31 f32 0 p0 (by omega) (by omega) (by omega) (by omega) (by omega) (by omega) (by omega)) [0, 1, 2, 3, 4, 5, 6, 7, 8, 9, 10, 11, 12] rfl (by decide) rfl rfl rfl rfl rfl ⟨Nat.le_of_ble_eq_true rfl, Nat.le_of_ble_eq_true rfl, Nat.le_of_ble_eq_true rfl⟩ dX7_hushAt_3 ⟨Nat.le_of_ble_eq_true rfl, Nat.le_of_ble_eq_true rfl⟩ (fun r_1 H locs hr_1 hP hS => ?_)
  refine lv_istore_n (lv' := [(2, .int r_1), (0, .ref (o 7)), (1, .int (nI p0))]) hx hb dX7_hushAt_6 rfl hl (by decide) rfl (fun ls hl => ?_)
  refine lv_iconst (v := 0) hx hb dX7_hushAt_7 (by decide) ?_
  refine lv_istore_n (lv' := [(3, .int 0), (2, .int r_1), (0, .ref (o 7)), (1, .int (nI p0))]) hx hb dX7_hushAt_8 rfl hl (by decide) rfl (fun ls hl => ?_)
  refine lv_iconst (v := 0) hx hb dX7_hushAt_9 (by decide) ?_
  refine lv_istore (lv' := [(4, .int 0), (3, .int 0), (2, .int r_1), (0, .ref (o 7)), (1, .int (nI p0))]) hx hb dX7_hushAt_10 hl (by decide) rfl (fun ls hl => ?_)
  have lp_43 : ∀ (nn j_41 : Nat) (x_42 : Int32) (H : Heap) (locs : List Loc) (ls : Array Slot), j_41 ≤ gheads → gheads - j_41 < nn → va_P D vwCl [((o 7), .inr (7, [.ref (o 3), .ref (o 4), .ref (o 5)])), ((o 5), .inr (1, [.ref (o 3), .ref (o 4), .int clawNow, .int charder, .int ctold, .int creply, .int cwet, .ref (o 72)])), ((o 72), .inl (k 0, 17, .inl f72)), ((o 4), .inr (3, [.ref (o 69), .ref (o 70), .ref (o 71)])), ((o 69), .inl (k 0, 17, .inl f69)), ((o 70), .inl (k 0, 17, .inl f70)), ((o 71), .inl (k 0, 17, .inl f71)), ((o 3), .inr (2, [.int glines, .int (nI ghours), .int glaw, .int godds, .int (nI grows), .int (nI gheads), .int (nI gsayings), .int (nI gslugs), .int (nI gacts), .ref (o 26), .ref (o 27), .ref (o 28), .ref (o 29), .ref (o 30), .ref (o 31), .ref (o 32), .ref (o 33), .ref (o 34), .ref (o 35)])), ((o 26), .inl (k 0, 12, .inl f26)), ((o 29), .inl (k 0, 12, .inl f29)), ((o 30), .inl (k 0, 12, .inl f30)), ((o 31), .inl (k 0, 12, .inl f31)), ((o 32), .inl (k 0, 4, .inl f32))] H → va_S A s.heap H locs → lv_has ls 6 [(4, .int (nI j_41)), (3, .int x_42), (2, .int r_1), (0, .ref (o 7)), (1, .int (nI p0))] → W p l e (Rm 3 0 0) s m args below meth c H locs 0 0 Q (F0 m 12 ls []) := by
    intro nn
    induction nn with
    | zero => intro j_41 x_42 H locs ls hjj_41 hnj_41; exact absurd hnj_41 (by omega)
    | succ nn ihj_41 =>
      intro j_41 x_42 H locs ls hjj_41 hnj_41 hP hS hl
      refine lv_iload hx hb dX7_hushAt_12 (lv_at hl 0 rfl) ?_
      refine lv_aload_n hx hb dX7_hushAt_14 rfl (lv_at hl 3 rfl) ?_
      refine x_get S hK hP 0 rfl cfX7 0 lkX7_9 (by decide) rfl dX7_hushAt_15 ?_
      refine x_get S hK hP 7 rfl cfX2 5 lkX7_67 (by decide) rfl dX7_hushAt_18 ?_
      refine lv_icmp_ge (tgt := 84) hx hb dX7_hushAt_21 (by decide) (fun c_44 => ?_) (fun c_44 => ?_)
      · skip
        have c_44 : gheads ≤ j_41 := (ni_le rfl rfl (by omega) (by omega)).mp c_44
        refine lv_iload_n hx hb dX7_hushAt_84 rfl (lv_at hl 1 rfl) ?_
        exact x_reti S hr hlk hQ hS () trivial x_T dX7_hushAt_85
      · skip
        have c_44 : ¬ gheads ≤ j_41 := fun q => c_44 ((ni_le rfl rfl (by omega) (by omega)).mpr q)
        refine lv_aload_n hx hb dX7_hushAt_24 rfl (lv_at hl 3 rfl) ?_
        refine x_get S hK hP 0 rfl cfX7 2 lkX7_19 (by decide) rfl dX7_hushAt_25 ?_
        refine x_get S hK hP 1 rfl cfX1 7 lkX7_44 (by decide) rfl dX7_hushAt_28 ?_
        refine lv_iload_n hx hb dX7_hushAt_31 rfl (lv_at hl 4 rfl) ?_
        refine x_iald S hK hP 2 rfl (vp_in_nI (by omega) (by decide)) dX7_hushAt_32 ?_
        refine lv_topi (fun v_45 ev_45 => ?_)
        refine lv_aload_n hx hb dX7_hushAt_33 rfl (lv_at hl 3 rfl) ?_
        refine x_get S hK hP 0 rfl cfX7 0 lkX7_9 (by decide) rfl dX7_hushAt_34 ?_
        refine x_get S hK hP 7 rfl cfX2 13 lkX7_116 (by decide) rfl dX7_hushAt_37 ?_
        refine lv_iload hx hb dX7_hushAt_40 (lv_at hl 0 rfl) ?_
        refine x_iald S hK hP 10 rfl (vp_in_nI (by omega) (by decide)) dX7_hushAt_42 ?_
        refine lv_topi (fun v_46 ev_46 => ?_)
        refine x_roSNi (As := [.int v_46]) S hK hP hDW hZ hAB hBA hS hA hl mwX10_inBoth lkX7_119 (ctX10_inBoth l D k z v_46 ) [] rfl (by decide) rfl rfl ⟨Nat.le_of_ble_eq_true rfl, Nat.le_of_ble_eq_true rfl, Nat.le_of_ble_eq_true rfl⟩ dX7_hushAt_43 ⟨Nat.le_of_ble_eq_true rfl, Nat.le_of_ble_eq_true rfl⟩ (fun r_47 H locs hr_47 hP hS => ?_)
        refine lv_iand hx hb dX7_hushAt_46 ?_
        refine lv_topi (fun v_49 ev_49 => ?_)
        refine lv_if_ne (tgt := 54) hx hb dX7_hushAt_47 (by decide) (fun c_50 => ?_) (fun c_50 => ?_)
        · skip
          refine lv_iconst (v := 0) hx hb dX7_hushAt_54 (by decide) ?_
          refine lv_istore (lv' := [(5, .int 0), (4, .int (nI j_41)), (3, .int x_42), (2, .int r_1), (0, .ref (o 7)), (1, .int (nI p0))]) hx hb dX7_hushAt_55 hl (by decide) rfl (fun ls hl => ?_)
          refine lv_iload_n hx hb dX7_hushAt_57 rfl (lv_at hl 3 rfl) ?_
          refine lv_iload hx hb dX7_hushAt_58 (lv_at hl 1 rfl) ?_
          refine lv_iushr hx hb dX7_hushAt_60 rfl ?_
          refine lv_topi (fun v_51 ev_51 => ?_)
          refine lv_iconst (v := 1) hx hb dX7_hushAt_61 (by decide) ?_
          refine lv_iand hx hb dX7_hushAt_62 ?_
          refine lv_topi (fun v_52 ev_52 => ?_)
          refine lv_if_eq (tgt := 78) hx hb dX7_hushAt_63 (by decide) (fun c_53 => ?_) (fun c_53 => ?_)
          · skip
            refine lv_iinc (v := (nI (j_41 + 1))) (lv' := [(4, .int (nI (j_41 + 1))), (5, .int 0), (3, .int x_42), (2, .int r_1), (0, .ref (o 7)), (1, .int (nI p0))]) hx hb dX7_hushAt_78 hl (k := 1) rfl (ni_inc _) (by decide) rfl (fun ls hl => ?_)
            refine lv_goto (tgt := 12) hx hb dX7_hushAt_81 (by decide) ?_
            exact ihj_41 (j_41 + 1) x_42 _ _ _ (by omega) (by omega) hP hS (lv_sub hl [0, 2, 3, 4, 5] rfl)
          · skip
            refine lv_iload hx hb dX7_hushAt_66 (lv_at hl 0 rfl) ?_
            refine lv_if_eq (tgt := 78) hx hb dX7_hushAt_68 (by decide) (fun c_54 => ?_) (fun c_54 => absurd (by decide) c_54)
            refine lv_iinc (v := (nI (j_41 + 1))) (lv' := [(4, .int (nI (j_41 + 1))), (5, .int 0), (3, .int x_42), (2, .int r_1), (0, .ref (o 7)), (1, .int (nI p0))]) hx hb dX7_hushAt_78 hl (k := 1) rfl (ni_inc _) (by decide) rfl (fun ls hl => ?_)
            refine lv_goto (tgt := 12) hx hb dX7_hushAt_81 (by decide) ?_
            exact ihj_41 (j_41 + 1) x_42 _ _ _ (by omega) (by omega) hP hS (lv_sub hl [0, 2, 3, 4, 5] rfl)
        · skip
          refine lv_iconst (v := 1) hx hb dX7_hushAt_50 (by decide) ?_
          refine lv_goto (tgt := 55) hx hb dX7_hushAt_51 (by decide) ?_
          refine lv_istore (lv' := [(5, .int 1), (4, .int (nI j_41)), (3, .int x_42), (2, .int r_1), (0, .ref (o 7)), (1, .int (nI p0))]) hx hb dX7_hushAt_55 hl (by decide) rfl (fun ls hl => ?_)
          refine lv_iload_n hx hb dX7_hushAt_57 rfl (lv_at hl 3 rfl) ?_
          refine lv_iload hx hb dX7_hushAt_58 (lv_at hl 1 rfl) ?_
          refine lv_iushr hx hb dX7_hushAt_60 rfl ?_
          refine lv_topi (fun v_55 ev_55 => ?_)
          refine lv_iconst (v := 1) hx hb dX7_hushAt_61 (by decide) ?_
          refine lv_iand hx hb dX7_hushAt_62 ?_
          refine lv_topi (fun v_56 ev_56 => ?_)
          refine lv_if_eq (tgt := 78) hx hb dX7_hushAt_63 (by decide) (fun c_57 => ?_) (fun c_57 => ?_)
          · skip
            refine lv_iinc (v := (nI (j_41 + 1))) (lv' := [(4, .int (nI (j_41 + 1))), (5, .int 1), (3, .int x_42), (2, .int r_1), (0, .ref (o 7)), (1, .int (nI p0))]) hx hb dX7_hushAt_78 hl (k := 1) rfl (ni_inc _) (by decide) rfl (fun ls hl => ?_)
            refine lv_goto (tgt := 12) hx hb dX7_hushAt_81 (by decide) ?_
            exact ihj_41 (j_41 + 1) x_42 _ _ _ (by omega) (by omega) hP hS (lv_sub hl [0, 2, 3, 4, 5] rfl)
          · skip
            refine lv_iload hx hb dX7_hushAt_66 (lv_at hl 0 rfl) ?_
            refine lv_if_eq (tgt := 78) hx hb dX7_hushAt_68 (by decide) (fun c_58 => absurd c_58 (by decide)) (fun c_58 => ?_)
            refine lv_iload_n hx hb dX7_hushAt_71 rfl (lv_at hl 2 rfl) ?_
            refine lv_iconst (v := 1) hx hb dX7_hushAt_72 (by decide) ?_
            refine lv_iload hx hb dX7_hushAt_73 (lv_at hl 1 rfl) ?_
            refine lv_ishl hx hb dX7_hushAt_75 ?_
            refine lv_topi (fun v_59 ev_59 => ?_)
            refine lv_ior hx hb dX7_hushAt_76 ?_
            refine lv_topi (fun v_60 ev_60 => ?_)
            refine lv_istore_n (lv' := [(3, .int v_60), (5, .int 1), (4, .int (nI j_41)), (2, .int r_1), (0, .ref (o 7)), (1, .int (nI p0))]) hx hb dX7_hushAt_77 rfl hl (by decide) rfl (fun ls hl => ?_)
            refine lv_iinc (v := (nI (j_41 + 1))) (lv' := [(4, .int (nI (j_41 + 1))), (3, .int v_60), (5, .int 1), (2, .int r_1), (0, .ref (o 7)), (1, .int (nI p0))]) hx hb dX7_hushAt_78 hl (k := 2) rfl (ni_inc _) (by decide) rfl (fun ls hl => ?_)
            refine lv_goto (tgt := 12) hx hb dX7_hushAt_81 (by decide) ?_
            exact ihj_41 (j_41 + 1) v_60 _ _ _ (by omega) (by omega) hP hS (lv_sub hl [0, 1, 3, 4, 5] rfl)
  exact lp_43 (gheads + 1) 0 0 _ _ _ (by omega) (by omega) hP hS (lv_sub hl [0, 1, 2, 3, 4] rfl)

set_option maxHeartbeats 4000000 in
set_option maxRecDepth 100000 in
theorem ctX7_lonelyAt (l : Launch) (D : va_G) (k : Nat → ClassId) (z : Nat → Nat) (o : Nat → Nat) (clawNow : Int32) (charder : Int32) (ctold : Int32) (creply : Int32) (cwet : Int32) (f72 : Nat → Int32) (f69 : Nat → Int32) (f70 : Nat → Int32) (f71 : Nat → Int32) (glines : Int32) (ghours : Nat) (glaw : Int32) (godds : Int32) (grows : Nat) (gheads : Nat) (gsayings : Nat) (gslugs : Nat) (gacts : Nat) (f26 : Nat → Int32) (f29 : Nat → Int32) (f30 : Nat → Int32) (f31 : Nat → Int32) (f32 : Nat → Int32) (p0 : Nat) (hghours : ghours ≤ 16) (hgrows : grows ≤ 4) (hgheads : gheads ≤ 12) (hgsayings : gsayings ≤ 8) (hgslugs : gslugs ≤ 4) (hgacts : gacts ≤ 30) (hp0 : p0 ≤ 16) : RO l yX7_lonelyAt cX7_lonelyAt 5 (some .int) 3 D k z [.ref (o 7), .int (nI p0)] [((o 7), .inr (7, [.ref (o 3), .ref (o 4), .ref (o 5)])), ((o 5), .inr (1, [.ref (o 3), .ref (o 4), .int clawNow, .int charder, .int ctold, .int creply, .int cwet, .ref (o 72)])), ((o 72), .inl (k 0, 17, .inl f72)), ((o 4), .inr (3, [.ref (o 69), .ref (o 70), .ref (o 71)])), ((o 69), .inl (k 0, 17, .inl f69)), ((o 70), .inl (k 0, 17, .inl f70)), ((o 71), .inl (k 0, 17, .inl f71)), ((o 3), .inr (2, [.int glines, .int (nI ghours), .int glaw, .int godds, .int (nI grows), .int (nI gheads), .int (nI gsayings), .int (nI gslugs), .int (nI gacts), .ref (o 26), .ref (o 27), .ref (o 28), .ref (o 29), .ref (o 30), .ref (o 31), .ref (o 32), .ref (o 33), .ref (o 34), .ref (o 35)])), ((o 26), .inl (k 0, 12, .inl f26)), ((o 29), .inl (k 0, 12, .inl f29)), ((o 30), .inl (k 0, 12, .inl f30)), ((o 31), .inl (k 0, 12, .inl f31)), ((o 32), .inl (k 0, 4, .inl f32))] (Qi (fun r : Int32 => True)) := by
  refine RO.of (by decide) (Nat.le_of_ble_eq_true rfl) ?_
  intro p e s m below meth c ls A B args Q S hr hlk hQ hK hP hDW hZ hAB hBA hA hS hl
  have hx := S.1
  have hb := S.2.1
  have hl : lv_has ls 5 [(0, .ref (o 7)), (1, .int (nI p0))] := hl
  refine lv_iconst (v := 0) hx hb dX7_lonelyAt_0 (by decide) ?_
  refine lv_istore_n (lv' := [(2, .int 0), (0, .ref (o 7)), (1, .int (nI p0))]) hx hb dX7_lonelyAt_1 rfl hl (by decide) rfl (fun ls hl => ?_)
  refine lv_iconst (v := 0) hx hb dX7_lonelyAt_2 (by decide) ?_
  refine lv_istore_n (lv' := [(3, .int 0), (2, .int 0), (0, .ref (o 7)), (1, .int (nI p0))]) hx hb dX7_lonelyAt_3 rfl hl (by decide) rfl (fun ls hl => ?_)
  have lp_29 : ∀ (nn j_27 : Nat) (x_28 : Int32) (H : Heap) (locs : List Loc) (ls : Array Slot), j_27 ≤ gheads → gheads - j_27 < nn → va_P D vwCl [((o 7), .inr (7, [.ref (o 3), .ref (o 4), .ref (o 5)])), ((o 5), .inr (1, [.ref (o 3), .ref (o 4), .int clawNow, .int charder, .int ctold, .int creply, .int cwet, .ref (o 72)])), ((o 72), .inl (k 0, 17, .inl f72)), ((o 4), .inr (3, [.ref (o 69), .ref (o 70), .ref (o 71)])), ((o 69), .inl (k 0, 17, .inl f69)), ((o 70), .inl (k 0, 17, .inl f70)), ((o 71), .inl (k 0, 17, .inl f71)), ((o 3), .inr (2, [.int glines, .int (nI ghours), .int glaw, .int godds, .int (nI grows), .int (nI gheads), .int (nI gsayings), .int (nI gslugs), .int (nI gacts), .ref (o 26), .ref (o 27), .ref (o 28), .ref (o 29), .ref (o 30), .ref (o 31), .ref (o 32), .ref (o 33), .ref (o 34), .ref (o 35)])), ((o 26), .inl (k 0, 12, .inl f26)), ((o 29), .inl (k 0, 12, .inl f29)), ((o 30), .inl (k 0, 12, .inl f30)), ((o 31), .inl (k 0, 12, .inl f31)), ((o 32), .inl (k 0, 4, .inl f32))] H → va_S A s.heap H locs → lv_has ls 5 [(3, .int (nI j_27)), (2, .int x_28), (0, .ref (o 7)), (1, .int (nI p0))] → W p l e (Rm 3 0 0) s m args below meth c H locs 0 0 Q (F0 m 4 ls []) := by
    intro nn
    induction nn with
    | zero => intro j_27 x_28 H locs ls hjj_27 hnj_27; exact absurd hnj_27 (by omega)
    | succ nn ihj_27 =>
      intro j_27 x_28 H locs ls hjj_27 hnj_27 hP hS hl
      refine lv_iload_n hx hb dX7_lonelyAt_4 rfl (lv_at hl 0 rfl) ?_
      refine lv_aload_n hx hb dX7_lonelyAt_5 rfl (lv_at hl 2 rfl) ?_
      refine x_get S hK hP 0 rfl cfX7 0 lkX7_9 (by decide) rfl dX7_lonelyAt_6 ?_
      refine x_get S hK hP 7 rfl cfX2 5 lkX7_67 (by decide) rfl dX7_lonelyAt_9 ?_
      refine lv_icmp_ge (tgt := 63) hx hb dX7_lonelyAt_12 (by decide) (fun c_30 => ?_) (fun c_30 => ?_)
      · skip
        have c_30 : gheads ≤ j_27 := (ni_le rfl rfl (by omega) (by omega)).mp c_30
        refine lv_iload_n hx hb dX7_lonelyAt_63 rfl (lv_at hl 1 rfl) ?_
        exact x_reti S hr hlk hQ hS () trivial x_T dX7_lonelyAt_64
      · skip
        have c_30 : ¬ gheads ≤ j_27 := fun q => c_30 ((ni_le rfl rfl (by omega) (by omega)).mpr q)
        refine lv_aload_n hx hb dX7_lonelyAt_15 rfl (lv_at hl 2 rfl) ?_
        refine x_get S hK hP 0 rfl cfX7 2 lkX7_19 (by decide) rfl dX7_lonelyAt_16 ?_
        refine lv_iload_n hx hb dX7_lonelyAt_19 rfl (lv_at hl 0 rfl) ?_
        refine lv_iload_n hx hb dX7_lonelyAt_20 rfl (lv_at hl 3 rfl) ?_
        refine x_roVi (As := [.int (nI j_27), .int (nI p0)]) S hK hP hDW hZ hAB hBA hS hA hl mwX1_viewAt lkX7_64 (ctX1_viewAt_c l D k z o clawNow charder ctold creply cwet f72 f69 f70 f71 glines ghours glaw godds grows gheads gsayings gslugs gacts f26 f30 f31 (nI j_27) p0 (by omega) (by omega) (by omega) (by omega) (by omega) (by omega) (by omega)) [1, 2, 3, 4, 5, 6, 7, 8, 10, 11] rfl (by decide) rfl rfl rfl rfl rfl ⟨Nat.le_of_ble_eq_true rfl, Nat.le_of_ble_eq_true rfl, Nat.le_of_ble_eq_true rfl⟩ dX7_lonelyAt_21 ⟨Nat.le_of_ble_eq_true rfl, Nat.le_of_ble_eq_true rfl⟩ (fun r_31 H locs hr_31 hP hS => ?_)
        refine lv_istore (lv' := [(4, .int r_31), (3, .int (nI j_27)), (2, .int x_28), (0, .ref (o 7)), (1, .int (nI p0))]) hx hb dX7_lonelyAt_24 hl (by decide) rfl (fun ls hl => ?_)
        refine lv_iload hx hb dX7_lonelyAt_26 (lv_at hl 0 rfl) ?_
        refine lv_if_eq (tgt := 57) hx hb dX7_lonelyAt_28 (by decide) (fun c_33 => ?_) (fun c_33 => ?_)
        · skip
          refine lv_iinc (v := (nI (j_27 + 1))) (lv' := [(3, .int (nI (j_27 + 1))), (4, .int r_31), (2, .int x_28), (0, .ref (o 7)), (1, .int (nI p0))]) hx hb dX7_lonelyAt_57 hl (k := 1) rfl (ni_inc _) (by decide) rfl (fun ls hl => ?_)
          refine lv_goto (tgt := 4) hx hb dX7_lonelyAt_60 (by decide) ?_
          exact ihj_27 (j_27 + 1) x_28 _ _ _ (by omega) (by omega) hP hS (lv_sub hl [0, 2, 3, 4] rfl)
        · skip
          refine lv_aload_n hx hb dX7_lonelyAt_31 rfl (lv_at hl 3 rfl) ?_
          refine lv_iload hx hb dX7_lonelyAt_32 (lv_at hl 0 rfl) ?_
          refine lv_iload_n hx hb dX7_lonelyAt_34 rfl (lv_at hl 4 rfl) ?_
          refine x_roVi (As := [.int r_31, .int (nI p0)]) S hK hP hDW hZ hAB hBA hS hA hl mwX7_holdersAt lkX7_61 (ctX7_holdersAt l D k z o clawNow charder ctold creply cwet f72 f69 f70 f71 glines ghours glaw godds grows gheads gsayings gslugs gacts f26 f29 f30 f31 f32 r_31 p0 (by omega) (by omega) (by omega) (by omega) (by omega) (by omega) (by omega)) [0, 1, 2, 3, 4, 5, 6, 7, 8, 9, 10, 11, 12] rfl (by decide) rfl rfl rfl rfl rfl ⟨Nat.le_of_ble_eq_true rfl, Nat.le_of_ble_eq_true rfl, Nat.le_of_ble_eq_true rfl⟩ dX7_lonelyAt_35 ⟨Nat.le_of_ble_eq_true rfl, Nat.le_of_ble_eq_true rfl⟩ (fun r_34 H locs hr_34 hP hS => ?_)
          refine lv_aload_n hx hb dX7_lonelyAt_38 rfl (lv_at hl 3 rfl) ?_
          refine x_get S hK hP 0 rfl cfX7 0 lkX7_9 (by decide) rfl dX7_lonelyAt_39 ?_
          refine x_get S hK hP 7 rfl cfX2 13 lkX7_116 (by decide) rfl dX7_lonelyAt_42 ?_
          refine lv_iload_n hx hb dX7_lonelyAt_45 rfl (lv_at hl 1 rfl) ?_
          refine x_iald S hK hP 10 rfl (vp_in_nI (by omega) (by decide)) dX7_lonelyAt_46 ?_
          refine lv_topi (fun v_36 ev_36 => ?_)
          refine lv_iand hx hb dX7_lonelyAt_47 ?_
          refine lv_topi (fun v_37 ev_37 => ?_)
          refine lv_if_ne (tgt := 57) hx hb dX7_lonelyAt_48 (by decide) (fun c_38 => ?_) (fun c_38 => ?_)
          · skip
            refine lv_iinc (v := (nI (j_27 + 1))) (lv' := [(3, .int (nI (j_27 + 1))), (4, .int r_31), (2, .int x_28), (0, .ref (o 7)), (1, .int (nI p0))]) hx hb dX7_lonelyAt_57 hl (k := 1) rfl (ni_inc _) (by decide) rfl (fun ls hl => ?_)
            refine lv_goto (tgt := 4) hx hb dX7_lonelyAt_60 (by decide) ?_
            exact ihj_27 (j_27 + 1) x_28 _ _ _ (by omega) (by omega) hP hS (lv_sub hl [0, 2, 3, 4] rfl)
          · skip
            refine lv_iload_n hx hb dX7_lonelyAt_51 rfl (lv_at hl 2 rfl) ?_
            refine lv_iconst (v := 1) hx hb dX7_lonelyAt_52 (by decide) ?_
            refine lv_iload_n hx hb dX7_lonelyAt_53 rfl (lv_at hl 1 rfl) ?_
            refine lv_ishl hx hb dX7_lonelyAt_54 ?_
            refine lv_topi (fun v_39 ev_39 => ?_)
            refine lv_ior hx hb dX7_lonelyAt_55 ?_
            refine lv_topi (fun v_40 ev_40 => ?_)
            refine lv_istore_n (lv' := [(2, .int v_40), (4, .int r_31), (3, .int (nI j_27)), (0, .ref (o 7)), (1, .int (nI p0))]) hx hb dX7_lonelyAt_56 rfl hl (by decide) rfl (fun ls hl => ?_)
            refine lv_iinc (v := (nI (j_27 + 1))) (lv' := [(3, .int (nI (j_27 + 1))), (2, .int v_40), (4, .int r_31), (0, .ref (o 7)), (1, .int (nI p0))]) hx hb dX7_lonelyAt_57 hl (k := 2) rfl (ni_inc _) (by decide) rfl (fun ls hl => ?_)
            refine lv_goto (tgt := 4) hx hb dX7_lonelyAt_60 (by decide) ?_
            exact ihj_27 (j_27 + 1) v_40 _ _ _ (by omega) (by omega) hP hS (lv_sub hl [0, 1, 3, 4] rfl)
  exact lp_29 (gheads + 1) 0 0 _ _ _ (by omega) (by omega) hP hS (lv_sub hl [0, 1, 2, 3] rfl)

set_option maxHeartbeats 4000000 in
set_option maxRecDepth 100000 in
theorem ctX7_quarrelsAt (l : Launch) (D : va_G) (k : Nat → ClassId) (z : Nat → Nat) (o : Nat → Nat) (clawNow : Int32) (charder : Int32) (ctold : Int32) (creply : Int32) (cwet : Int32) (f72 : Nat → Int32) (f69 : Nat → Int32) (f70 : Nat → Int32) (f71 : Nat → Int32) (glines : Int32) (ghours : Nat) (glaw : Int32) (godds : Int32) (grows : Nat) (gheads : Nat) (gsayings : Nat) (gslugs : Nat) (gacts : Nat) (f26 : Nat → Int32) (f29 : Nat → Int32) (f30 : Nat → Int32) (f31 : Nat → Int32) (f32 : Nat → Int32) (p0 : Nat) (hghours : ghours ≤ 16) (hgrows : grows ≤ 4) (hgheads : gheads ≤ 12) (hgsayings : gsayings ≤ 8) (hgslugs : gslugs ≤ 4) (hgacts : gacts ≤ 30) (hp0 : p0 ≤ 16) : RO l yX7_quarrelsAt cX7_quarrelsAt 6 (some .int) 3 D k z [.ref (o 7), .int (nI p0)] [((o 7), .inr (7, [.ref (o 3), .ref (o 4), .ref (o 5)])), ((o 5), .inr (1, [.ref (o 3), .ref (o 4), .int clawNow, .int charder, .int ctold, .int creply, .int cwet, .ref (o 72)])), ((o 72), .inl (k 0, 17, .inl f72)), ((o 4), .inr (3, [.ref (o 69), .ref (o 70), .ref (o 71)])), ((o 69), .inl (k 0, 17, .inl f69)), ((o 70), .inl (k 0, 17, .inl f70)), ((o 71), .inl (k 0, 17, .inl f71)), ((o 3), .inr (2, [.int glines, .int (nI ghours), .int glaw, .int godds, .int (nI grows), .int (nI gheads), .int (nI gsayings), .int (nI gslugs), .int (nI gacts), .ref (o 26), .ref (o 27), .ref (o 28), .ref (o 29), .ref (o 30), .ref (o 31), .ref (o 32), .ref (o 33), .ref (o 34), .ref (o 35)])), ((o 26), .inl (k 0, 12, .inl f26)), ((o 29), .inl (k 0, 12, .inl f29)), ((o 30), .inl (k 0, 12, .inl f30)), ((o 31), .inl (k 0, 12, .inl f31)), ((o 32), .inl (k 0, 4, .inl f32))] (Qi (fun r : Int32 => True)) := by
  refine RO.of (by decide) (Nat.le_of_ble_eq_true rfl) ?_
  intro p e s m below meth c ls A B args Q S hr hlk hQ hK hP hDW hZ hAB hBA hA hS hl
  have hx := S.1
  have hb := S.2.1
  have hl : lv_has ls 6 [(0, .ref (o 7)), (1, .int (nI p0))] := hl
  refine lv_aload_n hx hb dX7_quarrelsAt_0 rfl (lv_at hl 0 rfl) ?_
  refine lv_iconst (v := 1) hx hb dX7_quarrelsAt_1 (by decide) ?_
  refine lv_iload_n hx hb dX7_quarrelsAt_2 rfl (lv_at hl 1 rfl) ?_
  refine x_roVi (As := [.int 1, .int (nI p0)]) S hK hP hDW hZ hAB hBA hS hA hl mwX7_holdersAt lkX7_61 (ctX7_holdersAt l D k z o clawNow charder ctold creply cwet f72 f69 f70 f71 glines ghours glaw godds grows gheads gsayings gslugs gacts f26 f29 f30 f31 f32 1 p0 (by omega) (by omega) (by omega) (by omega) (by omega) (by omega) (by omega)) [0, 1, 2, 3, 4, 5, 6, 7, 8, 9, 10, 11, 12] rfl (by decide) rfl rfl rfl rfl rfl ⟨Nat.le_of_ble_eq_true rfl, Nat.le_of_ble_eq_true rfl, Nat.le_of_ble_eq_true rfl⟩ dX7_quarrelsAt_3 ⟨Nat.le_of_ble_eq_true rfl, Nat.le_of_ble_eq_true rfl⟩ (fun r_1 H locs hr_1 hP hS => ?_)
  refine lv_istore_n (lv' := [(2, .int r_1), (0, .ref (o 7)), (1, .int (nI p0))]) hx hb dX7_quarrelsAt_6 rfl hl (by decide) rfl (fun ls hl => ?_)
  refine lv_aload_n hx hb dX7_quarrelsAt_7 rfl (lv_at hl 1 rfl) ?_
  refine lv_iconst (v := 2) hx hb dX7_quarrelsAt_8 (by decide) ?_
  refine lv_iload_n hx hb dX7_quarrelsAt_9 rfl (lv_at hl 2 rfl) ?_
  refine x_roVi (As := [.int 2, .int (nI p0)]) S hK hP hDW hZ hAB hBA hS hA hl mwX7_holdersAt lkX7_61 (ctX7_holdersAt l D k z o clawNow charder ctold creply cwet f72 f69 f70 f71 glines ghours glaw godds grows gheads gsayings gslugs gacts f26 f29 f30 f31 f32 2 p0 (by omega) (by omega) (by omega) (by omega) (by omega) (by omega) (by omega)) [0, 1, 2, 3, 4, 5, 6, 7, 8, 9, 10, 11, 12] rfl (by decide) rfl rfl rfl rfl rfl ⟨Nat.le_of_ble_eq_true rfl, Nat.le_of_ble_eq_true rfl, Nat.le_of_ble_eq_true rfl⟩ dX7_quarrelsAt_10 ⟨Nat.le_of_ble_eq_true rfl, Nat.le_of_ble_eq_true rfl⟩ (fun r_3 H locs hr_3 hP hS => ?_)
  refine lv_istore_n (lv' := [(3, .int r_3), (2, .int r_1), (0, .ref (o 7)), (1, .int (nI p0))]) hx hb dX7_quarrelsAt_13 rfl hl (by decide) rfl (fun ls hl => ?_)
  refine lv_iconst (v := 0) hx hb dX7_quarrelsAt_14 (by decide) ?_
  refine lv_istore (lv' := [(4, .int 0), (3, .int r_3), (2, .int r_1), (0, .ref (o 7)), (1, .int (nI p0))]) hx hb dX7_quarrelsAt_15 hl (by decide) rfl (fun ls hl => ?_)
  refine lv_iconst (v := 0) hx hb dX7_quarrelsAt_17 (by decide) ?_
  refine lv_istore (lv' := [(5, .int 0), (4, .int 0), (3, .int r_3), (2, .int r_1), (0, .ref (o 7)), (1, .int (nI p0))]) hx hb dX7_quarrelsAt_18 hl (by decide) rfl (fun ls hl => ?_)
  have lp_30 : ∀ (nn j_28 : Nat) (x_29 : Int32) (H : Heap) (locs : List Loc) (ls : Array Slot), j_28 ≤ gheads → gheads - j_28 < nn → va_P D vwCl [((o 7), .inr (7, [.ref (o 3), .ref (o 4), .ref (o 5)])), ((o 5), .inr (1, [.ref (o 3), .ref (o 4), .int clawNow, .int charder, .int ctold, .int creply, .int cwet, .ref (o 72)])), ((o 72), .inl (k 0, 17, .inl f72)), ((o 4), .inr (3, [.ref (o 69), .ref (o 70), .ref (o 71)])), ((o 69), .inl (k 0, 17, .inl f69)), ((o 70), .inl (k 0, 17, .inl f70)), ((o 71), .inl (k 0, 17, .inl f71)), ((o 3), .inr (2, [.int glines, .int (nI ghours), .int glaw, .int godds, .int (nI grows), .int (nI gheads), .int (nI gsayings), .int (nI gslugs), .int (nI gacts), .ref (o 26), .ref (o 27), .ref (o 28), .ref (o 29), .ref (o 30), .ref (o 31), .ref (o 32), .ref (o 33), .ref (o 34), .ref (o 35)])), ((o 26), .inl (k 0, 12, .inl f26)), ((o 29), .inl (k 0, 12, .inl f29)), ((o 30), .inl (k 0, 12, .inl f30)), ((o 31), .inl (k 0, 12, .inl f31)), ((o 32), .inl (k 0, 4, .inl f32))] H → va_S A s.heap H locs → lv_has ls 6 [(5, .int (nI j_28)), (4, .int x_29), (3, .int r_3), (2, .int r_1), (0, .ref (o 7)), (1, .int (nI p0))] → W p l e (Rm 3 0 0) s m args below meth c H locs 0 0 Q (F0 m 20 ls []) := by
    intro nn
    induction nn with
    | zero => intro j_28 x_29 H locs ls hjj_28 hnj_28; exact absurd hnj_28 (by omega)
    | succ nn ihj_28 =>
      intro j_28 x_29 H locs ls hjj_28 hnj_28 hP hS hl
      refine lv_iload hx hb dX7_quarrelsAt_20 (lv_at hl 0 rfl) ?_
      refine lv_aload_n hx hb dX7_quarrelsAt_22 rfl (lv_at hl 4 rfl) ?_
      refine x_get S hK hP 0 rfl cfX7 0 lkX7_9 (by decide) rfl dX7_quarrelsAt_23 ?_
      refine x_get S hK hP 7 rfl cfX2 5 lkX7_67 (by decide) rfl dX7_quarrelsAt_26 ?_
      refine lv_icmp_ge (tgt := 67) hx hb dX7_quarrelsAt_29 (by decide) (fun c_31 => ?_) (fun c_31 => ?_)
      · skip
        have c_31 : gheads ≤ j_28 := (ni_le rfl rfl (by omega) (by omega)).mp c_31
        refine lv_iload hx hb dX7_quarrelsAt_67 (lv_at hl 1 rfl) ?_
        exact x_reti S hr hlk hQ hS () trivial x_T dX7_quarrelsAt_69
      · skip
        have c_31 : ¬ gheads ≤ j_28 := fun q => c_31 ((ni_le rfl rfl (by omega) (by omega)).mpr q)
        refine lv_iload_n hx hb dX7_quarrelsAt_32 rfl (lv_at hl 3 rfl) ?_
        refine lv_iload hx hb dX7_quarrelsAt_33 (lv_at hl 0 rfl) ?_
        refine lv_iushr hx hb dX7_quarrelsAt_35 rfl ?_
        refine lv_topi (fun v_32 ev_32 => ?_)
        refine lv_iconst (v := 1) hx hb dX7_quarrelsAt_36 (by decide) ?_
        refine lv_iand hx hb dX7_quarrelsAt_37 ?_
        refine lv_topi (fun v_33 ev_33 => ?_)
        refine lv_if_eq (tgt := 61) hx hb dX7_quarrelsAt_38 (by decide) (fun c_34 => ?_) (fun c_34 => ?_)
        · skip
          refine lv_iinc (v := (nI (j_28 + 1))) (lv' := [(5, .int (nI (j_28 + 1))), (4, .int x_29), (3, .int r_3), (2, .int r_1), (0, .ref (o 7)), (1, .int (nI p0))]) hx hb dX7_quarrelsAt_61 hl (k := 0) rfl (ni_inc _) (by decide) rfl (fun ls hl => ?_)
          refine lv_goto (tgt := 20) hx hb dX7_quarrelsAt_64 (by decide) ?_
          exact ihj_28 (j_28 + 1) x_29 _ _ _ (by omega) (by omega) hP hS (lv_sub hl [0, 1, 2, 3, 4, 5] rfl)
        · skip
          refine lv_iload hx hb dX7_quarrelsAt_41 (lv_at hl 1 rfl) ?_
          refine lv_aload_n hx hb dX7_quarrelsAt_43 rfl (lv_at hl 4 rfl) ?_
          refine x_get S hK hP 0 rfl cfX7 0 lkX7_9 (by decide) rfl dX7_quarrelsAt_44 ?_
          refine x_get S hK hP 7 rfl cfX2 13 lkX7_116 (by decide) rfl dX7_quarrelsAt_47 ?_
          refine lv_iload hx hb dX7_quarrelsAt_50 (lv_at hl 0 rfl) ?_
          refine x_iald S hK hP 10 rfl (vp_in_nI (by omega) (by decide)) dX7_quarrelsAt_52 ?_
          refine lv_topi (fun v_35 ev_35 => ?_)
          refine lv_iload_n hx hb dX7_quarrelsAt_53 rfl (lv_at hl 2 rfl) ?_
          refine lv_iand hx hb dX7_quarrelsAt_54 ?_
          refine lv_topi (fun v_36 ev_36 => ?_)
          refine x_roSi (As := [.int v_36]) S hK hP hDW hZ hAB hBA hS hA hl mwJ6_bitCount_0f7a4 lkX7_39 (ctJ6_bitCount_0f7a4 l D k z v_36 ) [] rfl (by decide) rfl rfl ⟨Nat.le_of_ble_eq_true rfl, Nat.le_of_ble_eq_true rfl, Nat.le_of_ble_eq_true rfl⟩ dX7_quarrelsAt_55 ⟨Nat.le_of_ble_eq_true rfl, Nat.le_of_ble_eq_true rfl⟩ (fun r_37 H locs hr_37 hP hS => ?_)
          obtain ⟨n_39, rfl, hn_39⟩ := hr_37
          refine lv_iadd hx hb dX7_quarrelsAt_58 ?_
          refine lv_topi (fun v_40 ev_40 => ?_)
          refine lv_istore (lv' := [(4, .int v_40), (5, .int (nI j_28)), (3, .int r_3), (2, .int r_1), (0, .ref (o 7)), (1, .int (nI p0))]) hx hb dX7_quarrelsAt_59 hl (by decide) rfl (fun ls hl => ?_)
          refine lv_iinc (v := (nI (j_28 + 1))) (lv' := [(5, .int (nI (j_28 + 1))), (4, .int v_40), (3, .int r_3), (2, .int r_1), (0, .ref (o 7)), (1, .int (nI p0))]) hx hb dX7_quarrelsAt_61 hl (k := 1) rfl (ni_inc _) (by decide) rfl (fun ls hl => ?_)
          refine lv_goto (tgt := 20) hx hb dX7_quarrelsAt_64 (by decide) ?_
          exact ihj_28 (j_28 + 1) v_40 _ _ _ (by omega) (by omega) hP hS (lv_sub hl [0, 1, 2, 3, 4, 5] rfl)
  exact lp_30 (gheads + 1) 0 0 _ _ _ (by omega) (by omega) hP hS (lv_sub hl [0, 1, 2, 3, 4, 5] rfl)

set_option maxHeartbeats 4000000 in
set_option maxRecDepth 100000 in
theorem ctX7_neverHeld (l : Launch) (D : va_G) (k : Nat → ClassId) (z : Nat → Nat) (o : Nat → Nat) (clawNow : Int32) (charder : Int32) (ctold : Int32) (creply : Int32) (cwet : Int32) (f72 : Nat → Int32) (f69 : Nat → Int32) (f70 : Nat → Int32) (f71 : Nat → Int32) (glines : Int32) (ghours : Nat) (glaw : Int32) (godds : Int32) (grows : Nat) (gheads : Nat) (gsayings : Nat) (gslugs : Nat) (gacts : Nat) (f26 : Nat → Int32) (f29 : Nat → Int32) (f30 : Nat → Int32) (f31 : Nat → Int32) (f32 : Nat → Int32) (p0 : Int32) (hghours : ghours ≤ 16) (hgrows : grows ≤ 4) (hgheads : gheads ≤ 12) (hgsayings : gsayings ≤ 8) (hgslugs : gslugs ≤ 4) (hgacts : gacts ≤ 30) : RO l yX7_neverHeld cX7_neverHeld 4 (some .int) 3 D k z [.ref (o 7), .int p0] [((o 7), .inr (7, [.ref (o 3), .ref (o 4), .ref (o 5)])), ((o 5), .inr (1, [.ref (o 3), .ref (o 4), .int clawNow, .int charder, .int ctold, .int creply, .int cwet, .ref (o 72)])), ((o 72), .inl (k 0, 17, .inl f72)), ((o 4), .inr (3, [.ref (o 69), .ref (o 70), .ref (o 71)])), ((o 69), .inl (k 0, 17, .inl f69)), ((o 70), .inl (k 0, 17, .inl f70)), ((o 71), .inl (k 0, 17, .inl f71)), ((o 3), .inr (2, [.int glines, .int (nI ghours), .int glaw, .int godds, .int (nI grows), .int (nI gheads), .int (nI gsayings), .int (nI gslugs), .int (nI gacts), .ref (o 26), .ref (o 27), .ref (o 28), .ref (o 29), .ref (o 30), .ref (o 31), .ref (o 32), .ref (o 33), .ref (o 34), .ref (o 35)])), ((o 26), .inl (k 0, 12, .inl f26)), ((o 29), .inl (k 0, 12, .inl f29)), ((o 30), .inl (k 0, 12, .inl f30)), ((o 31), .inl (k 0, 12, .inl f31)), ((o 32), .inl (k 0, 4, .inl f32))] (Qi (fun r : Int32 => True)) := by
  refine RO.of (by decide) (Nat.le_of_ble_eq_true rfl) ?_
  intro p e s m below meth c ls A B args Q S hr hlk hQ hK hP hDW hZ hAB hBA hA hS hl
  have hx := S.1
  have hb := S.2.1
  have hl : lv_has ls 4 [(0, .ref (o 7)), (1, .int p0)] := hl
  refine lv_aload_n hx hb dX7_neverHeld_0 rfl (lv_at hl 0 rfl) ?_
  refine x_get S hK hP 0 rfl cfX7 0 lkX7_9 (by decide) rfl dX7_neverHeld_1 ?_
  refine x_roVi (As := []) S hK hP hDW hZ hAB hBA hS hA hl mwX2_everyone lkX7_23 (ctX2_everyone l D k z o glines ghours glaw godds grows gheads gsayings gslugs gacts (by omega) (by omega) (by omega) (by omega) (by omega) (by omega)) [7] rfl (by decide) rfl rfl rfl rfl rfl ⟨Nat.le_of_ble_eq_true rfl, Nat.le_of_ble_eq_true rfl, Nat.le_of_ble_eq_true rfl⟩ dX7_neverHeld_4 ⟨Nat.le_of_ble_eq_true rfl, Nat.le_of_ble_eq_true rfl⟩ (fun r_1 H locs hr_1 hP hS => ?_)
  obtain rfl := hr_1
  refine lv_istore_n (lv' := [(2, .int (nI (2 ^ gheads - 1))), (0, .ref (o 7)), (1, .int p0)]) hx hb dX7_neverHeld_7 rfl hl (by decide) rfl (fun ls hl => ?_)
  refine lv_iconst (v := 0) hx hb dX7_neverHeld_8 (by decide) ?_
  refine lv_istore_n (lv' := [(3, .int 0), (2, .int (nI (2 ^ gheads - 1))), (0, .ref (o 7)), (1, .int p0)]) hx hb dX7_neverHeld_9 rfl hl (by decide) rfl (fun ls hl => ?_)
  have lp_19 : ∀ (nn j_17 : Nat) (x_18 : Int32) (H : Heap) (locs : List Loc) (ls : Array Slot), j_17 ≤ ghours + 1 → ghours + 1 - j_17 < nn → va_P D vwCl [((o 7), .inr (7, [.ref (o 3), .ref (o 4), .ref (o 5)])), ((o 5), .inr (1, [.ref (o 3), .ref (o 4), .int clawNow, .int charder, .int ctold, .int creply, .int cwet, .ref (o 72)])), ((o 72), .inl (k 0, 17, .inl f72)), ((o 4), .inr (3, [.ref (o 69), .ref (o 70), .ref (o 71)])), ((o 69), .inl (k 0, 17, .inl f69)), ((o 70), .inl (k 0, 17, .inl f70)), ((o 71), .inl (k 0, 17, .inl f71)), ((o 3), .inr (2, [.int glines, .int (nI ghours), .int glaw, .int godds, .int (nI grows), .int (nI gheads), .int (nI gsayings), .int (nI gslugs), .int (nI gacts), .ref (o 26), .ref (o 27), .ref (o 28), .ref (o 29), .ref (o 30), .ref (o 31), .ref (o 32), .ref (o 33), .ref (o 34), .ref (o 35)])), ((o 26), .inl (k 0, 12, .inl f26)), ((o 29), .inl (k 0, 12, .inl f29)), ((o 30), .inl (k 0, 12, .inl f30)), ((o 31), .inl (k 0, 12, .inl f31)), ((o 32), .inl (k 0, 4, .inl f32))] H → va_S A s.heap H locs → lv_has ls 4 [(3, .int (nI j_17)), (2, .int x_18), (0, .ref (o 7)), (1, .int p0)] → W p l e (Rm 3 0 0) s m args below meth c H locs 0 0 Q (F0 m 10 ls []) := by
    intro nn
    induction nn with
    | zero => intro j_17 x_18 H locs ls hjj_17 hnj_17; exact absurd hnj_17 (by omega)
    | succ nn ihj_17 =>
      intro j_17 x_18 H locs ls hjj_17 hnj_17 hP hS hl
      refine lv_iload_n hx hb dX7_neverHeld_10 rfl (lv_at hl 0 rfl) ?_
      refine lv_aload_n hx hb dX7_neverHeld_11 rfl (lv_at hl 2 rfl) ?_
      refine x_get S hK hP 0 rfl cfX7 0 lkX7_9 (by decide) rfl dX7_neverHeld_12 ?_
      refine x_get S hK hP 7 rfl cfX2 1 lkX7_54 (by decide) rfl dX7_neverHeld_15 ?_
      refine lv_icmp_gt (tgt := 38) hx hb dX7_neverHeld_18 (by decide) (fun c_20 => ?_) (fun c_20 => ?_)
      · skip
        have c_20 : ghours < j_17 := (ni_lt rfl rfl (by omega) (by omega)).mp c_20
        refine lv_iload_n hx hb dX7_neverHeld_38 rfl (lv_at hl 1 rfl) ?_
        exact x_reti S hr hlk hQ hS () trivial x_T dX7_neverHeld_39
      · skip
        have c_20 : ¬ ghours < j_17 := fun q => c_20 ((ni_lt rfl rfl (by omega) (by omega)).mpr q)
        refine lv_iload_n hx hb dX7_neverHeld_21 rfl (lv_at hl 1 rfl) ?_
        refine lv_aload_n hx hb dX7_neverHeld_22 rfl (lv_at hl 2 rfl) ?_
        refine lv_iload_n hx hb dX7_neverHeld_23 rfl (lv_at hl 3 rfl) ?_
        refine lv_iload_n hx hb dX7_neverHeld_24 rfl (lv_at hl 0 rfl) ?_
        refine x_roVi (As := [.int p0, .int (nI j_17)]) S hK hP hDW hZ hAB hBA hS hA hl mwX7_holdersAt lkX7_61 (ctX7_holdersAt l D k z o clawNow charder ctold creply cwet f72 f69 f70 f71 glines ghours glaw godds grows gheads gsayings gslugs gacts f26 f29 f30 f31 f32 p0 j_17 (by omega) (by omega) (by omega) (by omega) (by omega) (by omega) (by omega)) [0, 1, 2, 3, 4, 5, 6, 7, 8, 9, 10, 11, 12] rfl (by decide) rfl rfl rfl rfl rfl ⟨Nat.le_of_ble_eq_true rfl, Nat.le_of_ble_eq_true rfl, Nat.le_of_ble_eq_true rfl⟩ dX7_neverHeld_25 ⟨Nat.le_of_ble_eq_true rfl, Nat.le_of_ble_eq_true rfl⟩ (fun r_21 H locs hr_21 hP hS => ?_)
        refine lv_iconst (v := (-1)) hx hb dX7_neverHeld_28 (by decide) ?_
        refine lv_ixor hx hb dX7_neverHeld_29 ?_
        refine lv_topi (fun v_23 ev_23 => ?_)
        refine lv_iand hx hb dX7_neverHeld_30 ?_
        refine lv_topi (fun v_24 ev_24 => ?_)
        refine lv_istore_n (lv' := [(2, .int v_24), (3, .int (nI j_17)), (0, .ref (o 7)), (1, .int p0)]) hx hb dX7_neverHeld_31 rfl hl (by decide) rfl (fun ls hl => ?_)
        refine lv_iinc (v := (nI (j_17 + 1))) (lv' := [(3, .int (nI (j_17 + 1))), (2, .int v_24), (0, .ref (o 7)), (1, .int p0)]) hx hb dX7_neverHeld_32 hl (k := 1) rfl (ni_inc _) (by decide) rfl (fun ls hl => ?_)
        refine lv_goto (tgt := 10) hx hb dX7_neverHeld_35 (by decide) ?_
        exact ihj_17 (j_17 + 1) v_24 _ _ _ (by omega) (by omega) hP hS (lv_sub hl [0, 1, 2, 3] rfl)
  exact lp_19 (ghours + 1 + 1) 0 (nI (2 ^ gheads - 1)) _ _ _ (by omega) (by omega) hP hS (lv_sub hl [0, 1, 2, 3] rfl)

set_option maxHeartbeats 4000000 in
set_option maxRecDepth 100000 in
theorem ctX7_fullestHour (l : Launch) (D : va_G) (k : Nat → ClassId) (z : Nat → Nat) (o : Nat → Nat) (clawNow : Int32) (charder : Int32) (ctold : Int32) (creply : Int32) (cwet : Int32) (f72 : Nat → Int32) (f69 : Nat → Int32) (f70 : Nat → Int32) (f71 : Nat → Int32) (glines : Int32) (ghours : Nat) (glaw : Int32) (godds : Int32) (grows : Nat) (gheads : Nat) (gsayings : Nat) (gslugs : Nat) (gacts : Nat) (f26 : Nat → Int32) (f29 : Nat → Int32) (f30 : Nat → Int32) (f31 : Nat → Int32) (f32 : Nat → Int32) (p0 : Int32) (hghours : ghours ≤ 16) (hgrows : grows ≤ 4) (hgheads : gheads ≤ 12) (hgsayings : gsayings ≤ 8) (hgslugs : gslugs ≤ 4) (hgacts : gacts ≤ 30) : RO l yX7_fullestHour cX7_fullestHour 6 (some .int) 3 D k z [.ref (o 7), .int p0] [((o 7), .inr (7, [.ref (o 3), .ref (o 4), .ref (o 5)])), ((o 5), .inr (1, [.ref (o 3), .ref (o 4), .int clawNow, .int charder, .int ctold, .int creply, .int cwet, .ref (o 72)])), ((o 72), .inl (k 0, 17, .inl f72)), ((o 4), .inr (3, [.ref (o 69), .ref (o 70), .ref (o 71)])), ((o 69), .inl (k 0, 17, .inl f69)), ((o 70), .inl (k 0, 17, .inl f70)), ((o 71), .inl (k 0, 17, .inl f71)), ((o 3), .inr (2, [.int glines, .int (nI ghours), .int glaw, .int godds, .int (nI grows), .int (nI gheads), .int (nI gsayings), .int (nI gslugs), .int (nI gacts), .ref (o 26), .ref (o 27), .ref (o 28), .ref (o 29), .ref (o 30), .ref (o 31), .ref (o 32), .ref (o 33), .ref (o 34), .ref (o 35)])), ((o 26), .inl (k 0, 12, .inl f26)), ((o 29), .inl (k 0, 12, .inl f29)), ((o 30), .inl (k 0, 12, .inl f30)), ((o 31), .inl (k 0, 12, .inl f31)), ((o 32), .inl (k 0, 4, .inl f32))] (Qi (fun r : Int32 => True)) := by
  refine RO.of (by decide) (Nat.le_of_ble_eq_true rfl) ?_
  intro p e s m below meth c ls A B args Q S hr hlk hQ hK hP hDW hZ hAB hBA hA hS hl
  have hx := S.1
  have hb := S.2.1
  have hl : lv_has ls 6 [(0, .ref (o 7)), (1, .int p0)] := hl
  refine lv_iconst (v := 0) hx hb dX7_fullestHour_0 (by decide) ?_
  refine lv_istore_n (lv' := [(2, .int 0), (0, .ref (o 7)), (1, .int p0)]) hx hb dX7_fullestHour_1 rfl hl (by decide) rfl (fun ls hl => ?_)
  refine lv_iconst (v := 0) hx hb dX7_fullestHour_2 (by decide) ?_
  refine lv_istore_n (lv' := [(3, .int 0), (2, .int 0), (0, .ref (o 7)), (1, .int p0)]) hx hb dX7_fullestHour_3 rfl hl (by decide) rfl (fun ls hl => ?_)
  refine lv_iconst (v := 0) hx hb dX7_fullestHour_4 (by decide) ?_
  refine lv_istore (lv' := [(4, .int 0), (3, .int 0), (2, .int 0), (0, .ref (o 7)), (1, .int p0)]) hx hb dX7_fullestHour_5 hl (by decide) rfl (fun ls hl => ?_)
  have lp_23 : ∀ (nn j_20 : Nat) (x_21 : Int32) (x_22 : Int32) (H : Heap) (locs : List Loc) (ls : Array Slot), j_20 ≤ ghours + 1 → ghours + 1 - j_20 < nn → va_P D vwCl [((o 7), .inr (7, [.ref (o 3), .ref (o 4), .ref (o 5)])), ((o 5), .inr (1, [.ref (o 3), .ref (o 4), .int clawNow, .int charder, .int ctold, .int creply, .int cwet, .ref (o 72)])), ((o 72), .inl (k 0, 17, .inl f72)), ((o 4), .inr (3, [.ref (o 69), .ref (o 70), .ref (o 71)])), ((o 69), .inl (k 0, 17, .inl f69)), ((o 70), .inl (k 0, 17, .inl f70)), ((o 71), .inl (k 0, 17, .inl f71)), ((o 3), .inr (2, [.int glines, .int (nI ghours), .int glaw, .int godds, .int (nI grows), .int (nI gheads), .int (nI gsayings), .int (nI gslugs), .int (nI gacts), .ref (o 26), .ref (o 27), .ref (o 28), .ref (o 29), .ref (o 30), .ref (o 31), .ref (o 32), .ref (o 33), .ref (o 34), .ref (o 35)])), ((o 26), .inl (k 0, 12, .inl f26)), ((o 29), .inl (k 0, 12, .inl f29)), ((o 30), .inl (k 0, 12, .inl f30)), ((o 31), .inl (k 0, 12, .inl f31)), ((o 32), .inl (k 0, 4, .inl f32))] H → va_S A s.heap H locs → lv_has ls 6 [(4, .int (nI j_20)), (3, .int x_21), (2, .int x_22), (0, .ref (o 7)), (1, .int p0)] → W p l e (Rm 3 0 0) s m args below meth c H locs 0 0 Q (F0 m 7 ls []) := by
    intro nn
    induction nn with
    | zero => intro j_20 x_21 x_22 H locs ls hjj_20 hnj_20; exact absurd hnj_20 (by omega)
    | succ nn ihj_20 =>
      intro j_20 x_21 x_22 H locs ls hjj_20 hnj_20 hP hS hl
      refine lv_iload hx hb dX7_fullestHour_7 (lv_at hl 0 rfl) ?_
      refine lv_aload_n hx hb dX7_fullestHour_9 rfl (lv_at hl 3 rfl) ?_
      refine x_get S hK hP 0 rfl cfX7 0 lkX7_9 (by decide) rfl dX7_fullestHour_10 ?_
      refine x_get S hK hP 7 rfl cfX2 1 lkX7_54 (by decide) rfl dX7_fullestHour_13 ?_
      refine lv_icmp_gt (tgt := 49) hx hb dX7_fullestHour_16 (by decide) (fun c_24 => ?_) (fun c_24 => ?_)
      · skip
        have c_24 : ghours < j_20 := (ni_lt rfl rfl (by omega) (by omega)).mp c_24
        refine lv_iload_n hx hb dX7_fullestHour_49 rfl (lv_at hl 2 rfl) ?_
        exact x_reti S hr hlk hQ hS () trivial x_T dX7_fullestHour_50
      · skip
        have c_24 : ¬ ghours < j_20 := fun q => c_24 ((ni_lt rfl rfl (by omega) (by omega)).mpr q)
        refine lv_aload_n hx hb dX7_fullestHour_19 rfl (lv_at hl 3 rfl) ?_
        refine lv_iload_n hx hb dX7_fullestHour_20 rfl (lv_at hl 4 rfl) ?_
        refine lv_iload hx hb dX7_fullestHour_21 (lv_at hl 0 rfl) ?_
        refine x_roVi (As := [.int p0, .int (nI j_20)]) S hK hP hDW hZ hAB hBA hS hA hl mwX7_holdersAt lkX7_61 (ctX7_holdersAt l D k z o clawNow charder ctold creply cwet f72 f69 f70 f71 glines ghours glaw godds grows gheads gsayings gslugs gacts f26 f29 f30 f31 f32 p0 j_20 (by omega) (by omega) (by omega) (by omega) (by omega) (by omega) (by omega)) [0, 1, 2, 3, 4, 5, 6, 7, 8, 9, 10, 11, 12] rfl (by decide) rfl rfl rfl rfl rfl ⟨Nat.le_of_ble_eq_true rfl, Nat.le_of_ble_eq_true rfl, Nat.le_of_ble_eq_true rfl⟩ dX7_fullestHour_23 ⟨Nat.le_of_ble_eq_true rfl, Nat.le_of_ble_eq_true rfl⟩ (fun r_25 H locs hr_25 hP hS => ?_)
        refine x_roSi (As := [.int r_25]) S hK hP hDW hZ hAB hBA hS hA hl mwJ6_bitCount_0f7a4 lkX7_39 (ctJ6_bitCount_0f7a4 l D k z r_25 ) [] rfl (by decide) rfl rfl ⟨Nat.le_of_ble_eq_true rfl, Nat.le_of_ble_eq_true rfl, Nat.le_of_ble_eq_true rfl⟩ dX7_fullestHour_26 ⟨Nat.le_of_ble_eq_true rfl, Nat.le_of_ble_eq_true rfl⟩ (fun r_27 H locs hr_27 hP hS => ?_)
        obtain ⟨n_29, rfl, hn_29⟩ := hr_27
        refine lv_istore (lv' := [(5, .int (nI n_29)), (4, .int (nI j_20)), (3, .int x_21), (2, .int x_22), (0, .ref (o 7)), (1, .int p0)]) hx hb dX7_fullestHour_29 hl (by decide) rfl (fun ls hl => ?_)
        refine lv_iload hx hb dX7_fullestHour_31 (lv_at hl 0 rfl) ?_
        refine lv_iload_n hx hb dX7_fullestHour_33 rfl (lv_at hl 2 rfl) ?_
        refine lv_icmp_le (tgt := 43) hx hb dX7_fullestHour_34 (by decide) (fun c_30 => ?_) (fun c_30 => ?_)
        · skip
          refine lv_iinc (v := (nI (j_20 + 1))) (lv' := [(4, .int (nI (j_20 + 1))), (5, .int (nI n_29)), (3, .int x_21), (2, .int x_22), (0, .ref (o 7)), (1, .int p0)]) hx hb dX7_fullestHour_43 hl (k := 1) rfl (ni_inc _) (by decide) rfl (fun ls hl => ?_)
          refine lv_goto (tgt := 7) hx hb dX7_fullestHour_46 (by decide) ?_
          exact ihj_20 (j_20 + 1) x_21 x_22 _ _ _ (by omega) (by omega) hP hS (lv_sub hl [0, 2, 3, 4, 5] rfl)
        · skip
          refine lv_iload hx hb dX7_fullestHour_37 (lv_at hl 0 rfl) ?_
          refine lv_istore_n (lv' := [(3, .int (nI n_29)), (5, .int (nI n_29)), (4, .int (nI j_20)), (2, .int x_22), (0, .ref (o 7)), (1, .int p0)]) hx hb dX7_fullestHour_39 rfl hl (by decide) rfl (fun ls hl => ?_)
          refine lv_iload hx hb dX7_fullestHour_40 (lv_at hl 2 rfl) ?_
          refine lv_istore_n (lv' := [(2, .int (nI j_20)), (3, .int (nI n_29)), (5, .int (nI n_29)), (4, .int (nI j_20)), (0, .ref (o 7)), (1, .int p0)]) hx hb dX7_fullestHour_42 rfl hl (by decide) rfl (fun ls hl => ?_)
          refine lv_iinc (v := (nI (j_20 + 1))) (lv' := [(4, .int (nI (j_20 + 1))), (2, .int (nI j_20)), (3, .int (nI n_29)), (5, .int (nI n_29)), (0, .ref (o 7)), (1, .int p0)]) hx hb dX7_fullestHour_43 hl (k := 3) rfl (ni_inc _) (by decide) rfl (fun ls hl => ?_)
          refine lv_goto (tgt := 7) hx hb dX7_fullestHour_46 (by decide) ?_
          exact ihj_20 (j_20 + 1) (nI n_29) (nI j_20) _ _ _ (by omega) (by omega) hP hS (lv_sub hl [0, 2, 1, 4, 5] rfl)
  exact lp_23 (ghours + 1 + 1) 0 0 0 _ _ _ (by omega) (by omega) hP hS (lv_sub hl [0, 1, 2, 3, 4] rfl)

set_option maxHeartbeats 4000000 in
set_option maxRecDepth 100000 in
theorem ctX7_samplesForOne (l : Launch) (D : va_G) (k : Nat → ClassId) (z : Nat → Nat) (o : Nat → Nat) (clawNow : Int32) (charder : Int32) (ctold : Int32) (creply : Int32) (cwet : Int32) (f72 : Nat → Int32) (f69 : Nat → Int32) (f70 : Nat → Int32) (f71 : Nat → Int32) (glines : Int32) (ghours : Nat) (glaw : Int32) (godds : Int32) (grows : Nat) (gheads : Nat) (gsayings : Nat) (gslugs : Nat) (gacts : Nat) (f26 : Nat → Int32) (f29 : Nat → Int32) (f30 : Nat → Int32) (f31 : Nat → Int32) (f32 : Nat → Int32) (p0 : Nat) (p1 : Int32) (hghours : ghours ≤ 16) (hgrows : grows ≤ 4) (hgheads : gheads ≤ 12) (hgsayings : gsayings ≤ 8) (hgslugs : gslugs ≤ 4) (hgacts : gacts ≤ 30) (hp0 : p0 ≤ 16) : RO l yX7_samplesForOne cX7_samplesForOne 10 (some .long) 3 D k z [.ref (o 7), .int (nI p0), .int p1] [((o 7), .inr (7, [.ref (o 3), .ref (o 4), .ref (o 5)])), ((o 5), .inr (1, [.ref (o 3), .ref (o 4), .int clawNow, .int charder, .int ctold, .int creply, .int cwet, .ref (o 72)])), ((o 72), .inl (k 0, 17, .inl f72)), ((o 4), .inr (3, [.ref (o 69), .ref (o 70), .ref (o 71)])), ((o 69), .inl (k 0, 17, .inl f69)), ((o 70), .inl (k 0, 17, .inl f70)), ((o 71), .inl (k 0, 17, .inl f71)), ((o 3), .inr (2, [.int glines, .int (nI ghours), .int glaw, .int godds, .int (nI grows), .int (nI gheads), .int (nI gsayings), .int (nI gslugs), .int (nI gacts), .ref (o 26), .ref (o 27), .ref (o 28), .ref (o 29), .ref (o 30), .ref (o 31), .ref (o 32), .ref (o 33), .ref (o 34), .ref (o 35)])), ((o 26), .inl (k 0, 12, .inl f26)), ((o 29), .inl (k 0, 12, .inl f29)), ((o 30), .inl (k 0, 12, .inl f30)), ((o 31), .inl (k 0, 12, .inl f31)), ((o 32), .inl (k 0, 4, .inl f32))] (Ql (fun r : Int64 => True)) := by
  refine RO.of (by decide) (Nat.le_of_ble_eq_true rfl) ?_
  intro p e s m below meth c ls A B args Q S hr hlk hQ hK hP hDW hZ hAB hBA hA hS hl
  have hx := S.1
  have hb := S.2.1
  have hl : lv_has ls 10 [(0, .ref (o 7)), (1, .int (nI p0)), (2, .int p1)] := hl
  refine lv_aload_n hx hb dX7_samplesForOne_0 rfl (lv_at hl 0 rfl) ?_
  refine lv_iconst (v := 1) hx hb dX7_samplesForOne_1 (by decide) ?_
  refine lv_iload_n hx hb dX7_samplesForOne_2 rfl (lv_at hl 1 rfl) ?_
  refine x_roVi (As := [.int 1, .int (nI p0)]) S hK hP hDW hZ hAB hBA hS hA hl mwX7_holdersAt lkX7_61 (ctX7_holdersAt l D k z o clawNow charder ctold creply cwet f72 f69 f70 f71 glines ghours glaw godds grows gheads gsayings gslugs gacts f26 f29 f30 f31 f32 1 p0 (by omega) (by omega) (by omega) (by omega) (by omega) (by omega) (by omega)) [0, 1, 2, 3, 4, 5, 6, 7, 8, 9, 10, 11, 12] rfl (by decide) rfl rfl rfl rfl rfl ⟨Nat.le_of_ble_eq_true rfl, Nat.le_of_ble_eq_true rfl, Nat.le_of_ble_eq_true rfl⟩ dX7_samplesForOne_3 ⟨Nat.le_of_ble_eq_true rfl, Nat.le_of_ble_eq_true rfl⟩ (fun r_1 H locs hr_1 hP hS => ?_)
  refine x_roSi (As := [.int r_1]) S hK hP hDW hZ hAB hBA hS hA hl mwJ6_bitCount_0f7a4 lkX7_39 (ctJ6_bitCount_0f7a4 l D k z r_1 ) [] rfl (by decide) rfl rfl ⟨Nat.le_of_ble_eq_true rfl, Nat.le_of_ble_eq_true rfl, Nat.le_of_ble_eq_true rfl⟩ dX7_samplesForOne_6 ⟨Nat.le_of_ble_eq_true rfl, Nat.le_of_ble_eq_true rfl⟩ (fun r_3 H locs hr_3 hP hS => ?_)
  obtain ⟨n_5, rfl, hn_5⟩ := hr_3
  refine lv_istore_n (lv' := [(3, .int (nI n_5)), (0, .ref (o 7)), (1, .int (nI p0)), (2, .int p1)]) hx hb dX7_samplesForOne_9 rfl hl (by decide) rfl (fun ls hl => ?_)
  refine lv_aload_n hx hb dX7_samplesForOne_10 rfl (lv_at hl 1 rfl) ?_
  refine lv_iconst (v := 2) hx hb dX7_samplesForOne_11 (by decide) ?_
  refine lv_iload_n hx hb dX7_samplesForOne_12 rfl (lv_at hl 2 rfl) ?_
  refine x_roVi (As := [.int 2, .int (nI p0)]) S hK hP hDW hZ hAB hBA hS hA hl mwX7_holdersAt lkX7_61 (ctX7_holdersAt l D k z o clawNow charder ctold creply cwet f72 f69 f70 f71 glines ghours glaw godds grows gheads gsayings gslugs gacts f26 f29 f30 f31 f32 2 p0 (by omega) (by omega) (by omega) (by omega) (by omega) (by omega) (by omega)) [0, 1, 2, 3, 4, 5, 6, 7, 8, 9, 10, 11, 12] rfl (by decide) rfl rfl rfl rfl rfl ⟨Nat.le_of_ble_eq_true rfl, Nat.le_of_ble_eq_true rfl, Nat.le_of_ble_eq_true rfl⟩ dX7_samplesForOne_13 ⟨Nat.le_of_ble_eq_true rfl, Nat.le_of_ble_eq_true rfl⟩ (fun r_6 H locs hr_6 hP hS => ?_)
  refine x_roSi (As := [.int r_6]) S hK hP hDW hZ hAB hBA hS hA hl mwJ6_bitCount_0f7a4 lkX7_39 (ctJ6_bitCount_0f7a4 l D k z r_6 ) [] rfl (by decide) rfl rfl ⟨Nat.le_of_ble_eq_true rfl, Nat.le_of_ble_eq_true rfl, Nat.le_of_ble_eq_true rfl⟩ dX7_samplesForOne_16 ⟨Nat.le_of_ble_eq_true rfl, Nat.le_of_ble_eq_true rfl⟩ (fun r_8 H locs hr_8 hP hS => ?_)
  obtain ⟨n_10, rfl, hn_10⟩ := hr_8
  refine lv_istore (lv' := [(4, .int (nI n_10)), (3, .int (nI n_5)), (0, .ref (o 7)), (1, .int (nI p0)), (2, .int p1)]) hx hb dX7_samplesForOne_19 hl (by decide) rfl (fun ls hl => ?_)
  refine lv_aload_n hx hb dX7_samplesForOne_21 rfl (lv_at hl 2 rfl) ?_
  refine lv_iload_n hx hb dX7_samplesForOne_22 rfl (lv_at hl 3 rfl) ?_
  refine x_roVi (As := [.int (nI p0)]) S hK hP hDW hZ hAB hBA hS hA hl mwX7_living lkX7_122 (ctX7_living l D k z o clawNow charder ctold creply cwet f72 f69 f70 f71 glines ghours glaw godds grows gheads gsayings gslugs gacts f26 f29 f30 f31 f32 p0 (by omega) (by omega) (by omega) (by omega) (by omega) (by omega) (by omega)) [0, 1, 2, 3, 4, 5, 6, 7, 8, 9, 10, 11, 12] rfl (by decide) rfl rfl rfl rfl rfl ⟨Nat.le_of_ble_eq_true rfl, Nat.le_of_ble_eq_true rfl, Nat.le_of_ble_eq_true rfl⟩ dX7_samplesForOne_23 ⟨Nat.le_of_ble_eq_true rfl, Nat.le_of_ble_eq_true rfl⟩ (fun r_11 H locs hr_11 hP hS => ?_)
  obtain ⟨n_13, rfl, hn_13⟩ := hr_11
  refine lv_iload_n hx hb dX7_samplesForOne_26 rfl (lv_at hl 1 rfl) ?_
  refine lv_isub hx hb dX7_samplesForOne_27 ?_
  refine lv_topi (fun v_14 ev_14 => ?_)
  refine lv_iload hx hb dX7_samplesForOne_28 (lv_at hl 0 rfl) ?_
  refine lv_isub hx hb dX7_samplesForOne_30 ?_
  refine lv_topi (fun v_15 ev_15 => ?_)
  refine lv_istore (lv' := [(5, .int v_15), (4, .int (nI n_10)), (3, .int (nI n_5)), (0, .ref (o 7)), (1, .int (nI p0)), (2, .int p1)]) hx hb dX7_samplesForOne_31 hl (by decide) rfl (fun ls hl => ?_)
  refine lv_lconst (v := 0) hx hb dX7_samplesForOne_33 (by decide) ?_
  refine lv_lstore (lv' := [(6, .long 0), (5, .int v_15), (4, .int (nI n_10)), (3, .int (nI n_5)), (0, .ref (o 7)), (1, .int (nI p0)), (2, .int p1)]) hx hb dX7_samplesForOne_34 hl (by decide) rfl (fun ls hl => ?_)
  refine lv_iconst (v := 1) hx hb dX7_samplesForOne_36 (by decide) ?_
  refine lv_istore (lv' := [(8, .int 1), (6, .long 0), (5, .int v_15), (4, .int (nI n_10)), (3, .int (nI n_5)), (0, .ref (o 7)), (1, .int (nI p0)), (2, .int p1)]) hx hb dX7_samplesForOne_37 hl (by decide) rfl (fun ls hl => ?_)
  have lp_101 : ∀ (nn j_99 : Nat) (x_100 : Int64) (H : Heap) (locs : List Loc) (ls : Array Slot), 1 ≤ j_99 → j_99 ≤ n_5 + 1 → n_5 + 1 - j_99 < nn → va_P D vwCl [((o 7), .inr (7, [.ref (o 3), .ref (o 4), .ref (o 5)])), ((o 5), .inr (1, [.ref (o 3), .ref (o 4), .int clawNow, .int charder, .int ctold, .int creply, .int cwet, .ref (o 72)])), ((o 72), .inl (k 0, 17, .inl f72)), ((o 4), .inr (3, [.ref (o 69), .ref (o 70), .ref (o 71)])), ((o 69), .inl (k 0, 17, .inl f69)), ((o 70), .inl (k 0, 17, .inl f70)), ((o 71), .inl (k 0, 17, .inl f71)), ((o 3), .inr (2, [.int glines, .int (nI ghours), .int glaw, .int godds, .int (nI grows), .int (nI gheads), .int (nI gsayings), .int (nI gslugs), .int (nI gacts), .ref (o 26), .ref (o 27), .ref (o 28), .ref (o 29), .ref (o 30), .ref (o 31), .ref (o 32), .ref (o 33), .ref (o 34), .ref (o 35)])), ((o 26), .inl (k 0, 12, .inl f26)), ((o 29), .inl (k 0, 12, .inl f29)), ((o 30), .inl (k 0, 12, .inl f30)), ((o 31), .inl (k 0, 12, .inl f31)), ((o 32), .inl (k 0, 4, .inl f32))] H → va_S A s.heap H locs → lv_has ls 10 [(8, .int (nI j_99)), (6, .long x_100), (5, .int v_15), (4, .int (nI n_10)), (3, .int (nI n_5)), (0, .ref (o 7)), (1, .int (nI p0)), (2, .int p1)] → W p l e (Rm 3 0 0) s m args below meth c H locs 0 0 Q (F0 m 39 ls []) := by
    intro nn
    induction nn with
    | zero => intro j_99 x_100 H locs ls hlj_99 hjj_99 hnj_99; exact absurd hnj_99 (by omega)
    | succ nn ihj_99 =>
      intro j_99 x_100 H locs ls hlj_99 hjj_99 hnj_99 hP hS hl
      refine lv_iload hx hb dX7_samplesForOne_39 (lv_at hl 0 rfl) ?_
      refine lv_iload_n hx hb dX7_samplesForOne_41 rfl (lv_at hl 4 rfl) ?_
      refine lv_icmp_gt (tgt := 106) hx hb dX7_samplesForOne_42 (by decide) (fun c_102 => ?_) (fun c_102 => ?_)
      · skip
        have c_102 : n_5 < j_99 := (ni_lt rfl rfl (by omega) (by omega)).mp c_102
        refine lv_lload hx hb dX7_samplesForOne_106 (lv_at hl 1 rfl) ?_
        exact x_retl S hr hlk hQ hS () trivial x_T dX7_samplesForOne_108
      · skip
        have c_102 : ¬ n_5 < j_99 := fun q => c_102 ((ni_lt rfl rfl (by omega) (by omega)).mpr q)
        refine lv_iconst (v := 0) hx hb dX7_samplesForOne_45 (by decide) ?_
        refine lv_istore (lv' := [(9, .int 0), (8, .int (nI j_99)), (6, .long x_100), (5, .int v_15), (4, .int (nI n_10)), (3, .int (nI n_5)), (0, .ref (o 7)), (1, .int (nI p0)), (2, .int p1)]) hx hb dX7_samplesForOne_46 hl (by decide) rfl (fun ls hl => ?_)
        have lp_122 : ∀ (nn j_120 : Nat) (x_121 : Int64) (H : Heap) (locs : List Loc) (ls : Array Slot), j_120 ≤ n_10 + 1 → n_10 + 1 - j_120 < nn → va_P D vwCl [((o 7), .inr (7, [.ref (o 3), .ref (o 4), .ref (o 5)])), ((o 5), .inr (1, [.ref (o 3), .ref (o 4), .int clawNow, .int charder, .int ctold, .int creply, .int cwet, .ref (o 72)])), ((o 72), .inl (k 0, 17, .inl f72)), ((o 4), .inr (3, [.ref (o 69), .ref (o 70), .ref (o 71)])), ((o 69), .inl (k 0, 17, .inl f69)), ((o 70), .inl (k 0, 17, .inl f70)), ((o 71), .inl (k 0, 17, .inl f71)), ((o 3), .inr (2, [.int glines, .int (nI ghours), .int glaw, .int godds, .int (nI grows), .int (nI gheads), .int (nI gsayings), .int (nI gslugs), .int (nI gacts), .ref (o 26), .ref (o 27), .ref (o 28), .ref (o 29), .ref (o 30), .ref (o 31), .ref (o 32), .ref (o 33), .ref (o 34), .ref (o 35)])), ((o 26), .inl (k 0, 12, .inl f26)), ((o 29), .inl (k 0, 12, .inl f29)), ((o 30), .inl (k 0, 12, .inl f30)), ((o 31), .inl (k 0, 12, .inl f31)), ((o 32), .inl (k 0, 4, .inl f32))] H → va_S A s.heap H locs → lv_has ls 10 [(9, .int (nI j_120)), (8, .int (nI j_99)), (6, .long x_121), (5, .int v_15), (4, .int (nI n_10)), (3, .int (nI n_5)), (0, .ref (o 7)), (1, .int (nI p0)), (2, .int p1)] → W p l e (Rm 3 0 0) s m args below meth c H locs 0 0 Q (F0 m 48 ls []) := by
          intro nn
          induction nn with
          | zero => intro j_120 x_121 H locs ls hjj_120 hnj_120; exact absurd hnj_120 (by omega)
          | succ nn ihj_120 =>
            intro j_120 x_121 H locs ls hjj_120 hnj_120 hP hS hl
            refine lv_iload hx hb dX7_samplesForOne_48 (lv_at hl 0 rfl) ?_
            refine lv_iload hx hb dX7_samplesForOne_50 (lv_at hl 4 rfl) ?_
            refine lv_icmp_gt (tgt := 100) hx hb dX7_samplesForOne_52 (by decide) (fun c_123 => ?_) (fun c_123 => ?_)
            · skip
              have c_123 : n_10 < j_120 := (ni_lt rfl rfl (by omega) (by omega)).mp c_123
              refine lv_iinc (v := (nI (j_99 + 1))) (lv' := [(8, .int (nI (j_99 + 1))), (9, .int (nI j_120)), (6, .long x_121), (5, .int v_15), (4, .int (nI n_10)), (3, .int (nI n_5)), (0, .ref (o 7)), (1, .int (nI p0)), (2, .int p1)]) hx hb dX7_samplesForOne_100 hl (k := 1) rfl (ni_inc _) (by decide) rfl (fun ls hl => ?_)
              refine lv_goto (tgt := 39) hx hb dX7_samplesForOne_103 (by decide) ?_
              exact ihj_99 (j_99 + 1) x_121 _ _ _ (by omega) (by omega) (by omega) hP hS (lv_sub hl [0, 2, 3, 4, 5, 6, 7, 8] rfl)
            · skip
              have c_123 : ¬ n_10 < j_120 := fun q => c_123 ((ni_lt rfl rfl (by omega) (by omega)).mpr q)
              refine lv_iload hx hb dX7_samplesForOne_55 (lv_at hl 0 rfl) ?_
              refine lv_iload hx hb dX7_samplesForOne_57 (lv_at hl 1 rfl) ?_
              refine lv_icmp_ge (tgt := 100) hx hb dX7_samplesForOne_59 (by decide) (fun c_124 => ?_) (fun c_124 => ?_)
              · skip
                have c_124 : j_99 ≤ j_120 := (ni_le rfl rfl (by omega) (by omega)).mp c_124
                refine lv_iinc (v := (nI (j_99 + 1))) (lv' := [(8, .int (nI (j_99 + 1))), (9, .int (nI j_120)), (6, .long x_121), (5, .int v_15), (4, .int (nI n_10)), (3, .int (nI n_5)), (0, .ref (o 7)), (1, .int (nI p0)), (2, .int p1)]) hx hb dX7_samplesForOne_100 hl (k := 1) rfl (ni_inc _) (by decide) rfl (fun ls hl => ?_)
                refine lv_goto (tgt := 39) hx hb dX7_samplesForOne_103 (by decide) ?_
                exact ihj_99 (j_99 + 1) x_121 _ _ _ (by omega) (by omega) (by omega) hP hS (lv_sub hl [0, 2, 3, 4, 5, 6, 7, 8] rfl)
              · skip
                have c_124 : ¬ j_99 ≤ j_120 := fun q => c_124 ((ni_le rfl rfl (by omega) (by omega)).mpr q)
                refine lv_lload hx hb dX7_samplesForOne_62 (lv_at hl 2 rfl) ?_
                refine lv_iload_n hx hb dX7_samplesForOne_64 rfl (lv_at hl 5 rfl) ?_
                refine lv_iload hx hb dX7_samplesForOne_65 (lv_at hl 1 rfl) ?_
                refine x_roSNl (As := [.int (nI n_5), .int (nI j_99)]) S hK hP hDW hZ hAB hBA hS hA hl mwX10_choose lkX7_125 (ctX10_choose l D k z n_5 (nI j_99) (by omega)) [] rfl (by decide) rfl rfl ⟨Nat.le_of_ble_eq_true rfl, Nat.le_of_ble_eq_true rfl, Nat.le_of_ble_eq_true rfl⟩ dX7_samplesForOne_67 ⟨Nat.le_of_ble_eq_true rfl, Nat.le_of_ble_eq_true rfl⟩ (fun r_125 H locs hr_125 hP hS => ?_)
                refine lv_iload hx hb dX7_samplesForOne_70 (lv_at hl 4 rfl) ?_
                refine lv_iload hx hb dX7_samplesForOne_72 (lv_at hl 0 rfl) ?_
                refine x_roSNl (As := [.int (nI n_10), .int (nI j_120)]) S hK hP hDW hZ hAB hBA hS hA hl mwX10_choose lkX7_125 (ctX10_choose l D k z n_10 (nI j_120) (by omega)) [] rfl (by decide) rfl rfl ⟨Nat.le_of_ble_eq_true rfl, Nat.le_of_ble_eq_true rfl, Nat.le_of_ble_eq_true rfl⟩ dX7_samplesForOne_74 ⟨Nat.le_of_ble_eq_true rfl, Nat.le_of_ble_eq_true rfl⟩ (fun r_127 H locs hr_127 hP hS => ?_)
                refine lv_lmul hx hb dX7_samplesForOne_77 ?_
                refine lv_topl (fun v_129 ev_129 => ?_)
                refine lv_iload hx hb dX7_samplesForOne_78 (lv_at hl 3 rfl) ?_
                refine lv_iload_n hx hb dX7_samplesForOne_80 rfl (lv_at hl 8 rfl) ?_
                refine lv_iload hx hb dX7_samplesForOne_81 (lv_at hl 1 rfl) ?_
                refine lv_isub hx hb dX7_samplesForOne_83 ?_
                refine lv_topi (fun v_130 ev_130 => ?_)
                refine lv_iload hx hb dX7_samplesForOne_84 (lv_at hl 0 rfl) ?_
                refine lv_isub hx hb dX7_samplesForOne_86 ?_
                refine lv_topi (fun v_131 ev_131 => ?_)
                refine x_roSNl (As := [.int v_15, .int v_131]) S hK hP hDW hZ hAB hBA hS hA hl mwX10_choose lkX7_125 (ctX10_choose_i l D k z v_15 v_131 (by rw [ev_15, ev_14]; exact sub63b (by omega) (by omega) (by omega))) [] rfl (by decide) rfl rfl ⟨Nat.le_of_ble_eq_true rfl, Nat.le_of_ble_eq_true rfl, Nat.le_of_ble_eq_true rfl⟩ dX7_samplesForOne_87 ⟨Nat.le_of_ble_eq_true rfl, Nat.le_of_ble_eq_true rfl⟩ (fun r_132 H locs hr_132 hP hS => ?_)
                refine lv_lmul hx hb dX7_samplesForOne_90 ?_
                refine lv_topl (fun v_134 ev_134 => ?_)
                refine lv_ladd hx hb dX7_samplesForOne_91 ?_
                refine lv_topl (fun v_135 ev_135 => ?_)
                refine lv_lstore (lv' := [(6, .long v_135), (9, .int (nI j_120)), (8, .int (nI j_99)), (5, .int v_15), (4, .int (nI n_10)), (3, .int (nI n_5)), (0, .ref (o 7)), (1, .int (nI p0)), (2, .int p1)]) hx hb dX7_samplesForOne_92 hl (by decide) rfl (fun ls hl => ?_)
                refine lv_iinc (v := (nI (j_120 + 1))) (lv' := [(9, .int (nI (j_120 + 1))), (6, .long v_135), (8, .int (nI j_99)), (5, .int v_15), (4, .int (nI n_10)), (3, .int (nI n_5)), (0, .ref (o 7)), (1, .int (nI p0)), (2, .int p1)]) hx hb dX7_samplesForOne_94 hl (k := 1) rfl (ni_inc _) (by decide) rfl (fun ls hl => ?_)
                refine lv_goto (tgt := 48) hx hb dX7_samplesForOne_97 (by decide) ?_
                exact ihj_120 (j_120 + 1) v_135 _ _ _ (by omega) (by omega) hP hS (lv_sub hl [0, 2, 1, 3, 4, 5, 6, 7, 8] rfl)
        exact lp_122 (n_10 + 1 + 1) 0 x_100 _ _ _ (by omega) (by omega) hP hS (lv_sub hl [0, 1, 2, 3, 4, 5, 6, 7, 8] rfl)
  exact lp_101 (n_5 + 1 + 1) 1 0 _ _ _ (by omega) (by omega) (by omega) hP hS (lv_sub hl [0, 1, 2, 3, 4, 5, 6, 7] rfl)

set_option maxHeartbeats 4000000 in
set_option maxRecDepth 100000 in
theorem ctX7_leastSure (l : Launch) (D : va_G) (k : Nat → ClassId) (z : Nat → Nat) (o : Nat → Nat) (clawNow : Int32) (charder : Int32) (ctold : Int32) (creply : Int32) (cwet : Int32) (f72 : Nat → Int32) (f69 : Nat → Int32) (f70 : Nat → Int32) (f71 : Nat → Int32) (glines : Int32) (ghours : Nat) (glaw : Int32) (godds : Int32) (grows : Nat) (gheads : Nat) (gsayings : Nat) (gslugs : Nat) (gacts : Nat) (f26 : Nat → Int32) (f29 : Nat → Int32) (f30 : Nat → Int32) (f31 : Nat → Int32) (f32 : Nat → Int32) (p0 : Nat) (hghours : ghours ≤ 16) (hgrows : grows ≤ 4) (hgheads : gheads ≤ 12) (hgsayings : gsayings ≤ 8) (hgslugs : gslugs ≤ 4) (hgacts : gacts ≤ 30) (hp0 : p0 ≤ 16) : RO l yX7_leastSure cX7_leastSure 3 (some .int) 4 D k z [.ref (o 7), .int (nI p0)] [((o 7), .inr (7, [.ref (o 3), .ref (o 4), .ref (o 5)])), ((o 5), .inr (1, [.ref (o 3), .ref (o 4), .int clawNow, .int charder, .int ctold, .int creply, .int cwet, .ref (o 72)])), ((o 72), .inl (k 0, 17, .inl f72)), ((o 4), .inr (3, [.ref (o 69), .ref (o 70), .ref (o 71)])), ((o 69), .inl (k 0, 17, .inl f69)), ((o 70), .inl (k 0, 17, .inl f70)), ((o 71), .inl (k 0, 17, .inl f71)), ((o 3), .inr (2, [.int glines, .int (nI ghours), .int glaw, .int godds, .int (nI grows), .int (nI gheads), .int (nI gsayings), .int (nI gslugs), .int (nI gacts), .ref (o 26), .ref (o 27), .ref (o 28), .ref (o 29), .ref (o 30), .ref (o 31), .ref (o 32), .ref (o 33), .ref (o 34), .ref (o 35)])), ((o 26), .inl (k 0, 12, .inl f26)), ((o 29), .inl (k 0, 12, .inl f29)), ((o 30), .inl (k 0, 12, .inl f30)), ((o 31), .inl (k 0, 12, .inl f31)), ((o 32), .inl (k 0, 4, .inl f32))] (Qi (fun r : Int32 => True)) := by
  refine RO.of (by decide) (Nat.le_of_ble_eq_true rfl) ?_
  intro p e s m below meth c ls A B args Q S hr hlk hQ hK hP hDW hZ hAB hBA hA hS hl
  have hx := S.1
  have hb := S.2.1
  have hl : lv_has ls 3 [(0, .ref (o 7)), (1, .int (nI p0))] := hl
  refine lv_iconst (v := 1) hx hb dX7_leastSure_0 (by decide) ?_
  refine lv_istore_n (lv' := [(2, .int 1), (0, .ref (o 7)), (1, .int (nI p0))]) hx hb dX7_leastSure_1 rfl hl (by decide) rfl (fun ls hl => ?_)
  have lp_16 : ∀ (nn j_15 : Nat)  (H : Heap) (locs : List Loc) (ls : Array Slot), 1 ≤ j_15 → j_15 ≤ 64 → 64 - j_15 < nn → va_P D vwCl [((o 7), .inr (7, [.ref (o 3), .ref (o 4), .ref (o 5)])), ((o 5), .inr (1, [.ref (o 3), .ref (o 4), .int clawNow, .int charder, .int ctold, .int creply, .int cwet, .ref (o 72)])), ((o 72), .inl (k 0, 17, .inl f72)), ((o 4), .inr (3, [.ref (o 69), .ref (o 70), .ref (o 71)])), ((o 69), .inl (k 0, 17, .inl f69)), ((o 70), .inl (k 0, 17, .inl f70)), ((o 71), .inl (k 0, 17, .inl f71)), ((o 3), .inr (2, [.int glines, .int (nI ghours), .int glaw, .int godds, .int (nI grows), .int (nI gheads), .int (nI gsayings), .int (nI gslugs), .int (nI gacts), .ref (o 26), .ref (o 27), .ref (o 28), .ref (o 29), .ref (o 30), .ref (o 31), .ref (o 32), .ref (o 33), .ref (o 34), .ref (o 35)])), ((o 26), .inl (k 0, 12, .inl f26)), ((o 29), .inl (k 0, 12, .inl f29)), ((o 30), .inl (k 0, 12, .inl f30)), ((o 31), .inl (k 0, 12, .inl f31)), ((o 32), .inl (k 0, 4, .inl f32))] H → va_S A s.heap H locs → lv_has ls 3 [(2, .int (nI j_15)), (0, .ref (o 7)), (1, .int (nI p0))] → W p l e (Rm 4 0 0) s m args below meth c H locs 0 0 Q (F0 m 2 ls []) := by
    intro nn
    induction nn with
    | zero => intro j_15  H locs ls hlj_15 hjj_15 hnj_15; exact absurd hnj_15 (by omega)
    | succ nn ihj_15 =>
      intro j_15  H locs ls hlj_15 hjj_15 hnj_15 hP hS hl
      refine lv_iload_n hx hb dX7_leastSure_2 rfl (lv_at hl 0 rfl) ?_
      refine lv_aload_n hx hb dX7_leastSure_3 rfl (lv_at hl 1 rfl) ?_
      refine lv_iload_n hx hb dX7_leastSure_4 rfl (lv_at hl 2 rfl) ?_
      refine x_roVi (As := [.int (nI p0)]) S hK hP hDW hZ hAB hBA hS hA hl mwX7_living lkX7_122 (ctX7_living l D k z o clawNow charder ctold creply cwet f72 f69 f70 f71 glines ghours glaw godds grows gheads gsayings gslugs gacts f26 f29 f30 f31 f32 p0 (by omega) (by omega) (by omega) (by omega) (by omega) (by omega) (by omega)) [0, 1, 2, 3, 4, 5, 6, 7, 8, 9, 10, 11, 12] rfl (by decide) rfl rfl rfl rfl rfl ⟨Nat.le_of_ble_eq_true rfl, Nat.le_of_ble_eq_true rfl, Nat.le_of_ble_eq_true rfl⟩ dX7_leastSure_5 ⟨Nat.le_of_ble_eq_true rfl, Nat.le_of_ble_eq_true rfl⟩ (fun r_17 H locs hr_17 hP hS => ?_)
      obtain ⟨n_19, rfl, hn_19⟩ := hr_17
      refine lv_icmp_gt (tgt := 42) hx hb dX7_leastSure_8 (by decide) (fun c_20 => ?_) (fun c_20 => ?_)
      · skip
        have c_20 : n_19 < j_15 := (ni_lt rfl rfl (by omega) (by omega)).mp c_20
        refine lv_iconst (v := (-1)) hx hb dX7_leastSure_42 (by decide) ?_
        exact x_reti S hr hlk hQ hS () trivial x_T dX7_leastSure_43
      · skip
        have c_20 : ¬ n_19 < j_15 := fun q => c_20 ((ni_lt rfl rfl (by omega) (by omega)).mpr q)
        refine lv_ldc2 hx hb S.2.2.2.1 (S.2.2.2.2 _ lkX7_129) dX7_leastSure_11 ?_
        refine lv_aload_n hx hb dX7_leastSure_14 rfl (lv_at hl 1 rfl) ?_
        refine lv_iload_n hx hb dX7_leastSure_15 rfl (lv_at hl 2 rfl) ?_
        refine lv_iload_n hx hb dX7_leastSure_16 rfl (lv_at hl 0 rfl) ?_
        refine x_roVl (As := [.int (nI p0), .int (nI j_15)]) S hK hP hDW hZ hAB hBA hS hA hl mwX7_samplesForOne lkX7_131 (ctX7_samplesForOne l D k z o clawNow charder ctold creply cwet f72 f69 f70 f71 glines ghours glaw godds grows gheads gsayings gslugs gacts f26 f29 f30 f31 f32 p0 (nI j_15) (by omega) (by omega) (by omega) (by omega) (by omega) (by omega) (by omega)) [0, 1, 2, 3, 4, 5, 6, 7, 8, 9, 10, 11, 12] rfl (by decide) rfl rfl rfl rfl rfl ⟨Nat.le_of_ble_eq_true rfl, Nat.le_of_ble_eq_true rfl, Nat.le_of_ble_eq_true rfl⟩ dX7_leastSure_17 ⟨Nat.le_of_ble_eq_true rfl, Nat.le_of_ble_eq_true rfl⟩ (fun r_21 H locs hr_21 hP hS => ?_)
        refine lv_lmul hx hb dX7_leastSure_20 ?_
        refine lv_topl (fun v_23 ev_23 => ?_)
        refine lv_aload_n hx hb dX7_leastSure_21 rfl (lv_at hl 1 rfl) ?_
        refine lv_iload_n hx hb dX7_leastSure_22 rfl (lv_at hl 2 rfl) ?_
        refine x_roVi (As := [.int (nI p0)]) S hK hP hDW hZ hAB hBA hS hA hl mwX7_living lkX7_122 (ctX7_living l D k z o clawNow charder ctold creply cwet f72 f69 f70 f71 glines ghours glaw godds grows gheads gsayings gslugs gacts f26 f29 f30 f31 f32 p0 (by omega) (by omega) (by omega) (by omega) (by omega) (by omega) (by omega)) [0, 1, 2, 3, 4, 5, 6, 7, 8, 9, 10, 11, 12] rfl (by decide) rfl rfl rfl rfl rfl ⟨Nat.le_of_ble_eq_true rfl, Nat.le_of_ble_eq_true rfl, Nat.le_of_ble_eq_true rfl⟩ dX7_leastSure_23 ⟨Nat.le_of_ble_eq_true rfl, Nat.le_of_ble_eq_true rfl⟩ (fun r_24 H locs hr_24 hP hS => ?_)
        obtain ⟨n_26, rfl, hn_26⟩ := hr_24
        refine lv_iload_n hx hb dX7_leastSure_26 rfl (lv_at hl 0 rfl) ?_
        refine x_roSNl (As := [.int (nI n_26), .int (nI j_15)]) S hK hP hDW hZ hAB hBA hS hA hl mwX10_choose lkX7_125 (ctX10_choose l D k z n_26 (nI j_15) (by omega)) [] rfl (by decide) rfl rfl ⟨Nat.le_of_ble_eq_true rfl, Nat.le_of_ble_eq_true rfl, Nat.le_of_ble_eq_true rfl⟩ dX7_leastSure_27 ⟨Nat.le_of_ble_eq_true rfl, Nat.le_of_ble_eq_true rfl⟩ (fun r_27 H locs hr_27 hP hS => ?_)
        refine W.lcmp hx hb dX7_leastSure_30 ?_
        refine lv_if_lt (tgt := 36) hx hb dX7_leastSure_31 (by decide) (fun c_29 => ?_) (fun c_29 => ?_)
        · skip
          have c_29 : v_23 < r_27 := (lg_cmp_lt _ _).mp c_29
          refine lv_iinc (v := (nI (j_15 + 1))) (lv' := [(2, .int (nI (j_15 + 1))), (0, .ref (o 7)), (1, .int (nI p0))]) hx hb dX7_leastSure_36 hl (k := 0) rfl (ni_inc _) (by decide) rfl (fun ls hl => ?_)
          refine lv_goto (tgt := 2) hx hb dX7_leastSure_39 (by decide) ?_
          exact ihj_15 (j_15 + 1)  _ _ _ (by omega) (by omega) (by omega) hP hS (lv_sub hl [0, 1, 2] rfl)
        · skip
          have c_29 : ¬ v_23 < r_27 := fun q => c_29 ((lg_cmp_lt _ _).mpr q)
          refine lv_iload_n hx hb dX7_leastSure_34 rfl (lv_at hl 0 rfl) ?_
          exact x_reti S hr hlk hQ hS () trivial x_T dX7_leastSure_35
  exact lp_16 (64 + 1) 1  _ _ _ (by omega) (by omega) (by omega) hP hS (lv_sub hl [0, 1, 2] rfl)

