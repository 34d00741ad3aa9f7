theorem dX2_events_0 : decode cX2_events 0 = .ok (.aload_n 0, 1) := by decide +kernel
theorem dX2_events_1 : decode cX2_events 1 = .ok (.getfield 61, 3) := by decide +kernel
theorem dX2_events_4 : decode cX2_events 4 = .ok (.aload_n 0, 1) := by decide +kernel
theorem dX2_events_5 : decode cX2_events 5 = .ok (.getfield 64, 3) := by decide +kernel
theorem dX2_events_8 : decode cX2_events 8 = .ok (.iadd, 1) := by decide +kernel
theorem dX2_events_9 : decode cX2_events 9 = .ok (.aload_n 0, 1) := by decide +kernel
theorem dX2_events_10 : decode cX2_events 10 = .ok (.getfield 67, 3) := by decide +kernel
theorem dX2_events_13 : decode cX2_events 13 = .ok (.iadd, 1) := by decide +kernel
theorem dX2_events_14 : decode cX2_events 14 = .ok (.ireturn, 1) := by decide +kernel
theorem dX2_setEvent_0 : decode cX2_setEvent 0 = .ok (.aload_n 0, 1) := by decide +kernel
theorem dX2_setEvent_1 : decode cX2_setEvent 1 = .ok (.invokevirtual 82, 3) := by decide +kernel
theorem dX2_setEvent_4 : decode cX2_setEvent 4 = .ok (.istore 4, 2) := by decide +kernel
theorem dX2_setEvent_6 : decode cX2_setEvent 6 = .ok (.aload_n 0, 1) := by decide +kernel
theorem dX2_setEvent_7 : decode cX2_setEvent 7 = .ok (.getfield 33, 3) := by decide +kernel
theorem dX2_setEvent_10 : decode cX2_setEvent 10 = .ok (.iload 4, 2) := by decide +kernel
theorem dX2_setEvent_12 : decode cX2_setEvent 12 = .ok (.iload_n 1, 1) := by decide +kernel
theorem dX2_setEvent_13 : decode cX2_setEvent 13 = .ok (.iastore, 1) := by decide +kernel
theorem dX2_setEvent_14 : decode cX2_setEvent 14 = .ok (.aload_n 0, 1) := by decide +kernel
theorem dX2_setEvent_15 : decode cX2_setEvent 15 = .ok (.getfield 36, 3) := by decide +kernel
theorem dX2_setEvent_18 : decode cX2_setEvent 18 = .ok (.iload 4, 2) := by decide +kernel
theorem dX2_setEvent_20 : decode cX2_setEvent 20 = .ok (.iload_n 2, 1) := by decide +kernel
theorem dX2_setEvent_21 : decode cX2_setEvent 21 = .ok (.iastore, 1) := by decide +kernel
theorem dX2_setEvent_22 : decode cX2_setEvent 22 = .ok (.aload_n 0, 1) := by decide +kernel
theorem dX2_setEvent_23 : decode cX2_setEvent 23 = .ok (.getfield 39, 3) := by decide +kernel
theorem dX2_setEvent_26 : decode cX2_setEvent 26 = .ok (.iload 4, 2) := by decide +kernel
theorem dX2_setEvent_28 : decode cX2_setEvent 28 = .ok (.iload_n 3, 1) := by decide +kernel
theorem dX2_setEvent_29 : decode cX2_setEvent 29 = .ok (.iastore, 1) := by decide +kernel
theorem dX2_setEvent_30 : decode cX2_setEvent 30 = .ok (.return_, 1) := by decide +kernel
theorem dX2_everyone_0 : decode cX2_everyone 0 = .ok (.iconst 1, 1) := by decide +kernel
theorem dX2_everyone_1 : decode cX2_everyone 1 = .ok (.aload_n 0, 1) := by decide +kernel
theorem dX2_everyone_2 : decode cX2_everyone 2 = .ok (.getfield 58, 3) := by decide +kernel
theorem dX2_everyone_5 : decode cX2_everyone 5 = .ok (.ishl, 1) := by decide +kernel
theorem dX2_everyone_6 : decode cX2_everyone 6 = .ok (.iconst 1, 1) := by decide +kernel
theorem dX2_everyone_7 : decode cX2_everyone 7 = .ok (.isub, 1) := by decide +kernel
theorem dX2_everyone_8 : decode cX2_everyone 8 = .ok (.ireturn, 1) := by decide +kernel
theorem dX2_act_0 : decode cX2_act 0 = .ok (.aload_n 0, 1) := by decide +kernel
theorem dX2_act_1 : decode cX2_act 1 = .ok (.getfield 67, 3) := by decide +kernel
theorem dX2_act_4 : decode cX2_act 4 = .ok (.bipush 30, 2) := by decide +kernel
theorem dX2_act_6 : decode cX2_act 6 = .ok (.if_icmp .lt 4, 3) := by decide +kernel
theorem dX2_act_9 : decode cX2_act 9 = .ok (.return_, 1) := by decide +kernel
theorem dX2_act_10 : decode cX2_act 10 = .ok (.aload_n 0, 1) := by decide +kernel
theorem dX2_act_11 : decode cX2_act 11 = .ok (.iload_n 1, 1) := by decide +kernel
theorem dX2_act_12 : decode cX2_act 12 = .ok (.iload_n 2, 1) := by decide +kernel
theorem dX2_act_13 : decode cX2_act 13 = .ok (.iload_n 3, 1) := by decide +kernel
theorem dX2_act_14 : decode cX2_act 14 = .ok (.invokevirtual 86, 3) := by decide +kernel
theorem dX2_act_17 : decode cX2_act 17 = .ok (.aload_n 0, 1) := by decide +kernel
theorem dX2_act_18 : decode cX2_act 18 = .ok (.dup, 1) := by decide +kernel
theorem dX2_act_19 : decode cX2_act 19 = .ok (.getfield 67, 3) := by decide +kernel
theorem dX2_act_22 : decode cX2_act 22 = .ok (.iconst 1, 1) := by decide +kernel
theorem dX2_act_23 : decode cX2_act 23 = .ok (.iadd, 1) := by decide +kernel
theorem dX2_act_24 : decode cX2_act 24 = .ok (.putfield 67, 3) := by decide +kernel
theorem dX2_act_27 : decode cX2_act 27 = .ok (.return_, 1) := by decide +kernel
theorem dX2_clear_0 : decode cX2_clear 0 = .ok (.aload_n 0, 1) := by decide +kernel
theorem dX2_clear_1 : decode cX2_clear 1 = .ok (.iconst 0, 1) := by decide +kernel
theorem dX2_clear_2 : decode cX2_clear 2 = .ok (.putfield 42, 3) := by decide +kernel
theorem dX2_clear_5 : decode cX2_clear 5 = .ok (.aload_n 0, 1) := by decide +kernel
theorem dX2_clear_6 : decode cX2_clear 6 = .ok (.iconst 0, 1) := by decide +kernel
theorem dX2_clear_7 : decode cX2_clear 7 = .ok (.putfield 46, 3) := by decide +kernel
theorem dX2_clear_10 : decode cX2_clear 10 = .ok (.aload_n 0, 1) := by decide +kernel
theorem dX2_clear_11 : decode cX2_clear 11 = .ok (.iconst 0, 1) := by decide +kernel
theorem dX2_clear_12 : decode cX2_clear 12 = .ok (.putfield 49, 3) := by decide +kernel
theorem dX2_clear_15 : decode cX2_clear 15 = .ok (.aload_n 0, 1) := by decide +kernel
theorem dX2_clear_16 : decode cX2_clear 16 = .ok (.iconst 0, 1) := by decide +kernel
theorem dX2_clear_17 : decode cX2_clear 17 = .ok (.putfield 52, 3) := by decide +kernel
theorem dX2_clear_20 : decode cX2_clear 20 = .ok (.aload_n 0, 1) := by decide +kernel
theorem dX2_clear_21 : decode cX2_clear 21 = .ok (.iconst 0, 1) := by decide +kernel
theorem dX2_clear_22 : decode cX2_clear 22 = .ok (.putfield 55, 3) := by decide +kernel
theorem dX2_clear_25 : decode cX2_clear 25 = .ok (.aload_n 0, 1) := by decide +kernel
theorem dX2_clear_26 : decode cX2_clear 26 = .ok (.iconst 0, 1) := by decide +kernel
theorem dX2_clear_27 : decode cX2_clear 27 = .ok (.putfield 58, 3) := by decide +kernel
theorem dX2_clear_30 : decode cX2_clear 30 = .ok (.aload_n 0, 1) := by decide +kernel
theorem dX2_clear_31 : decode cX2_clear 31 = .ok (.iconst 0, 1) := by decide +kernel
theorem dX2_clear_32 : decode cX2_clear 32 = .ok (.putfield 61, 3) := by decide +kernel
theorem dX2_clear_35 : decode cX2_clear 35 = .ok (.aload_n 0, 1) := by decide +kernel
theorem dX2_clear_36 : decode cX2_clear 36 = .ok (.iconst 0, 1) := by decide +kernel
theorem dX2_clear_37 : decode cX2_clear 37 = .ok (.putfield 64, 3) := by decide +kernel
theorem dX2_clear_40 : decode cX2_clear 40 = .ok (.aload_n 0, 1) := by decide +kernel
theorem dX2_clear_41 : decode cX2_clear 41 = .ok (.iconst 0, 1) := by decide +kernel
theorem dX2_clear_42 : decode cX2_clear 42 = .ok (.putfield 67, 3) := by decide +kernel
theorem dX2_clear_45 : decode cX2_clear 45 = .ok (.return_, 1) := by decide +kernel
theorem dX2_openRow_0 : decode cX2_openRow 0 = .ok (.aload_n 0, 1) := by decide +kernel
theorem dX2_openRow_1 : decode cX2_openRow 1 = .ok (.getfield 55, 3) := by decide +kernel
theorem dX2_openRow_4 : decode cX2_openRow 4 = .ok (.iconst 4, 1) := by decide +kernel
theorem dX2_openRow_5 : decode cX2_openRow 5 = .ok (.if_icmp .ge 23, 3) := by decide +kernel
theorem dX2_openRow_8 : decode cX2_openRow 8 = .ok (.aload_n 0, 1) := by decide +kernel
theorem dX2_openRow_9 : decode cX2_openRow 9 = .ok (.getfield 30, 3) := by decide +kernel
theorem dX2_openRow_12 : decode cX2_openRow 12 = .ok (.aload_n 0, 1) := by decide +kernel
theorem dX2_openRow_13 : decode cX2_openRow 13 = .ok (.getfield 55, 3) := by decide +kernel
theorem dX2_openRow_16 : decode cX2_openRow 16 = .ok (.iconst 0, 1) := by decide +kernel
theorem dX2_openRow_17 : decode cX2_openRow 17 = .ok (.iastore, 1) := by decide +kernel
theorem dX2_openRow_18 : decode cX2_openRow 18 = .ok (.aload_n 0, 1) := by decide +kernel
theorem dX2_openRow_19 : decode cX2_openRow 19 = .ok (.dup, 1) := by decide +kernel
theorem dX2_openRow_20 : decode cX2_openRow 20 = .ok (.getfield 55, 3) := by decide +kernel
theorem dX2_openRow_23 : decode cX2_openRow 23 = .ok (.iconst 1, 1) := by decide +kernel
theorem dX2_openRow_24 : decode cX2_openRow 24 = .ok (.iadd, 1) := by decide +kernel
theorem dX2_openRow_25 : decode cX2_openRow 25 = .ok (.putfield 55, 3) := by decide +kernel
theorem dX2_openRow_28 : decode cX2_openRow 28 = .ok (.return_, 1) := by decide +kernel
theorem dX2_plant_0 : decode cX2_plant 0 = .ok (.aload_n 0, 1) := by decide +kernel
theorem dX2_plant_1 : decode cX2_plant 1 = .ok (.getfield 58, 3) := by decide +kernel
theorem dX2_plant_4 : decode cX2_plant 4 = .ok (.bipush 12, 2) := by decide +kernel
theorem dX2_plant_6 : decode cX2_plant 6 = .ok (.if_icmp .ge 10, 3) := by decide +kernel
theorem dX2_plant_9 : decode cX2_plant 9 = .ok (.aload_n 0, 1) := by decide +kernel
theorem dX2_plant_10 : decode cX2_plant 10 = .ok (.getfield 55, 3) := by decide +kernel
theorem dX2_plant_13 : decode cX2_plant 13 = .ok (.ifCond .ne 4, 3) := by decide +kernel
theorem dX2_plant_16 : decode cX2_plant 16 = .ok (.return_, 1) := by decide +kernel
theorem dX2_plant_17 : decode cX2_plant 17 = .ok (.aload_n 0, 1) := by decide +kernel
theorem dX2_plant_18 : decode cX2_plant 18 = .ok (.getfield 55, 3) := by decide +kernel
theorem dX2_plant_21 : decode cX2_plant 21 = .ok (.iconst 1, 1) := by decide +kernel
theorem dX2_plant_22 : decode cX2_plant 22 = .ok (.isub, 1) := by decide +kernel
theorem dX2_plant_23 : decode cX2_plant 23 = .ok (.istore_n 3, 1) := by decide +kernel
theorem dX2_plant_24 : decode cX2_plant 24 = .ok (.aload_n 0, 1) := by decide +kernel
theorem dX2_plant_25 : decode cX2_plant 25 = .ok (.getfield 9, 3) := by decide +kernel
theorem dX2_plant_28 : decode cX2_plant 28 = .ok (.aload_n 0, 1) := by decide +kernel
theorem dX2_plant_29 : decode cX2_plant 29 = .ok (.getfield 58, 3) := by decide +kernel
theorem dX2_plant_32 : decode cX2_plant 32 = .ok (.iload_n 1, 1) := by decide +kernel
theorem dX2_plant_33 : decode cX2_plant 33 = .ok (.iastore, 1) := by decide +kernel
theorem dX2_plant_34 : decode cX2_plant 34 = .ok (.aload_n 0, 1) := by decide +kernel
theorem dX2_plant_35 : decode cX2_plant 35 = .ok (.getfield 15, 3) := by decide +kernel
theorem dX2_plant_38 : decode cX2_plant 38 = .ok (.aload_n 0, 1) := by decide +kernel
theorem dX2_plant_39 : decode cX2_plant 39 = .ok (.getfield 58, 3) := by decide +kernel
theorem dX2_plant_42 : decode cX2_plant 42 = .ok (.iload_n 2, 1) := by decide +kernel
theorem dX2_plant_43 : decode cX2_plant 43 = .ok (.iastore, 1) := by decide +kernel
theorem dX2_plant_44 : decode cX2_plant 44 = .ok (.aload_n 0, 1) := by decide +kernel
theorem dX2_plant_45 : decode cX2_plant 45 = .ok (.getfield 18, 3) := by decide +kernel
theorem dX2_plant_48 : decode cX2_plant 48 = .ok (.aload_n 0, 1) := by decide +kernel
theorem dX2_plant_49 : decode cX2_plant 49 = .ok (.getfield 58, 3) := by decide +kernel
theorem dX2_plant_52 : decode cX2_plant 52 = .ok (.iload_n 3, 1) := by decide +kernel
theorem dX2_plant_53 : decode cX2_plant 53 = .ok (.iastore, 1) := by decide +kernel
theorem dX2_plant_54 : decode cX2_plant 54 = .ok (.aload_n 0, 1) := by decide +kernel
theorem dX2_plant_55 : decode cX2_plant 55 = .ok (.getfield 21, 3) := by decide +kernel
theorem dX2_plant_58 : decode cX2_plant 58 = .ok (.aload_n 0, 1) := by decide +kernel
theorem dX2_plant_59 : decode cX2_plant 59 = .ok (.getfield 58, 3) := by decide +kernel
theorem dX2_plant_62 : decode cX2_plant 62 = .ok (.aload_n 0, 1) := by decide +kernel
theorem dX2_plant_63 : decode cX2_plant 63 = .ok (.getfield 30, 3) := by decide +kernel
theorem dX2_plant_66 : decode cX2_plant 66 = .ok (.iload_n 3, 1) := by decide +kernel
theorem dX2_plant_67 : decode cX2_plant 67 = .ok (.iaload, 1) := by decide +kernel
theorem dX2_plant_68 : decode cX2_plant 68 = .ok (.invokestatic 76, 3) := by decide +kernel
theorem dX2_plant_71 : decode cX2_plant 71 = .ok (.iastore, 1) := by decide +kernel
theorem dX2_plant_72 : decode cX2_plant 72 = .ok (.aload_n 0, 1) := by decide +kernel
theorem dX2_plant_73 : decode cX2_plant 73 = .ok (.getfield 30, 3) := by decide +kernel
theorem dX2_plant_76 : decode cX2_plant 76 = .ok (.iload_n 3, 1) := by decide +kernel
theorem dX2_plant_77 : decode cX2_plant 77 = .ok (.dup2, 1) := by decide +kernel
theorem dX2_plant_78 : decode cX2_plant 78 = .ok (.iaload, 1) := by decide +kernel
theorem dX2_plant_79 : decode cX2_plant 79 = .ok (.iconst 1, 1) := by decide +kernel
theorem dX2_plant_80 : decode cX2_plant 80 = .ok (.aload_n 0, 1) := by decide +kernel
theorem dX2_plant_81 : decode cX2_plant 81 = .ok (.getfield 58, 3) := by decide +kernel
theorem dX2_plant_84 : decode cX2_plant 84 = .ok (.ishl, 1) := by decide +kernel
theorem dX2_plant_85 : decode cX2_plant 85 = .ok (.ior, 1) := by decide +kernel
theorem dX2_plant_86 : decode cX2_plant 86 = .ok (.iastore, 1) := by decide +kernel
theorem dX2_plant_87 : decode cX2_plant 87 = .ok (.aload_n 0, 1) := by decide +kernel
theorem dX2_plant_88 : decode cX2_plant 88 = .ok (.dup, 1) := by decide +kernel
theorem dX2_plant_89 : decode cX2_plant 89 = .ok (.getfield 58, 3) := by decide +kernel
theorem dX2_plant_92 : decode cX2_plant 92 = .ok (.iconst 1, 1) := by decide +kernel
theorem dX2_plant_93 : decode cX2_plant 93 = .ok (.iadd, 1) := by decide +kernel
theorem dX2_plant_94 : decode cX2_plant 94 = .ok (.putfield 58, 3) := by decide +kernel
theorem dX2_plant_97 : decode cX2_plant 97 = .ok (.return_, 1) := by decide +kernel
theorem dX2_findNeighbours_0 : decode cX2_findNeighbours 0 = .ok (.iconst 0, 1) := by decide +kernel
theorem dX2_findNeighbours_1 : decode cX2_findNeighbours 1 = .ok (.istore_n 1, 1) := by decide +kernel
theorem dX2_findNeighbours_2 : decode cX2_findNeighbours 2 = .ok (.iload_n 1, 1) := by decide +kernel
theorem dX2_findNeighbours_3 : decode cX2_findNeighbours 3 = .ok (.aload_n 0, 1) := by decide +kernel
theorem dX2_findNeighbours_4 : decode cX2_findNeighbours 4 = .ok (.getfield 58, 3) := by decide +kernel
theorem dX2_findNeighbours_7 : decode cX2_findNeighbours 7 = .ok (.if_icmp .ge 116, 3) := by decide +kernel
theorem dX2_findNeighbours_10 : decode cX2_findNeighbours 10 = .ok (.aload_n 0, 1) := by decide +kernel
theorem dX2_findNeighbours_11 : decode cX2_findNeighbours 11 = .ok (.getfield 27, 3) := by decide +kernel
theorem dX2_findNeighbours_14 : decode cX2_findNeighbours 14 = .ok (.iload_n 1, 1) := by decide +kernel
theorem dX2_findNeighbours_15 : decode cX2_findNeighbours 15 = .ok (.iconst 0, 1) := by decide +kernel
theorem dX2_findNeighbours_16 : decode cX2_findNeighbours 16 = .ok (.iastore, 1) := by decide +kernel
theorem dX2_findNeighbours_17 : decode cX2_findNeighbours 17 = .ok (.aload_n 0, 1) := by decide +kernel
theorem dX2_findNeighbours_18 : decode cX2_findNeighbours 18 = .ok (.getfield 24, 3) := by decide +kernel
theorem dX2_findNeighbours_21 : decode cX2_findNeighbours 21 = .ok (.iload_n 1, 1) := by decide +kernel
theorem dX2_findNeighbours_22 : decode cX2_findNeighbours 22 = .ok (.iconst 0, 1) := by decide +kernel
theorem dX2_findNeighbours_23 : decode cX2_findNeighbours 23 = .ok (.iastore, 1) := by decide +kernel
theorem dX2_findNeighbours_24 : decode cX2_findNeighbours 24 = .ok (.iconst 0, 1) := by decide +kernel
theorem dX2_findNeighbours_25 : decode cX2_findNeighbours 25 = .ok (.istore_n 2, 1) := by decide +kernel
theorem dX2_findNeighbours_26 : decode cX2_findNeighbours 26 = .ok (.iload_n 2, 1) := by decide +kernel
theorem dX2_findNeighbours_27 : decode cX2_findNeighbours 27 = .ok (.aload_n 0, 1) := by decide +kernel
theorem dX2_findNeighbours_28 : decode cX2_findNeighbours 28 = .ok (.getfield 58, 3) := by decide +kernel
theorem dX2_findNeighbours_31 : decode cX2_findNeighbours 31 = .ok (.if_icmp .ge 86, 3) := by decide +kernel
theorem dX2_findNeighbours_34 : decode cX2_findNeighbours 34 = .ok (.aload_n 0, 1) := by decide +kernel
theorem dX2_findNeighbours_35 : decode cX2_findNeighbours 35 = .ok (.getfield 18, 3) := by decide +kernel
theorem dX2_findNeighbours_38 : decode cX2_findNeighbours 38 = .ok (.iload_n 1, 1) := by decide +kernel
theorem dX2_findNeighbours_39 : decode cX2_findNeighbours 39 = .ok (.iaload, 1) := by decide +kernel
theorem dX2_findNeighbours_40 : decode cX2_findNeighbours 40 = .ok (.aload_n 0, 1) := by decide +kernel
theorem dX2_findNeighbours_41 : decode cX2_findNeighbours 41 = .ok (.getfield 18, 3) := by decide +kernel
theorem dX2_findNeighbours_44 : decode cX2_findNeighbours 44 = .ok (.iload_n 2, 1) := by decide +kernel
theorem dX2_findNeighbours_45 : decode cX2_findNeighbours 45 = .ok (.iaload, 1) := by decide +kernel
theorem dX2_findNeighbours_46 : decode cX2_findNeighbours 46 = .ok (.isub, 1) := by decide +kernel
theorem dX2_findNeighbours_47 : decode cX2_findNeighbours 47 = .ok (.invokestatic 90, 3) := by decide +kernel
theorem dX2_findNeighbours_50 : decode cX2_findNeighbours 50 = .ok (.istore_n 3, 1) := by decide +kernel
theorem dX2_findNeighbours_51 : decode cX2_findNeighbours 51 = .ok (.aload_n 0, 1) := by decide +kernel
theorem dX2_findNeighbours_52 : decode cX2_findNeighbours 52 = .ok (.getfield 21, 3) := by decide +kernel
theorem dX2_findNeighbours_55 : decode cX2_findNeighbours 55 = .ok (.iload_n 1, 1) := by decide +kernel
theorem dX2_findNeighbours_56 : decode cX2_findNeighbours 56 = .ok (.iaload, 1) := by decide +kernel
theorem dX2_findNeighbours_57 : decode cX2_findNeighbours 57 = .ok (.aload_n 0, 1) := by decide +kernel
theorem dX2_findNeighbours_58 : decode cX2_findNeighbours 58 = .ok (.getfield 21, 3) := by decide +kernel
theorem dX2_findNeighbours_61 : decode cX2_findNeighbours 61 = .ok (.iload_n 2, 1) := by decide +kernel
theorem dX2_findNeighbours_62 : decode cX2_findNeighbours 62 = .ok (.iaload, 1) := by decide +kernel
theorem dX2_findNeighbours_63 : decode cX2_findNeighbours 63 = .ok (.isub, 1) := by decide +kernel
theorem dX2_findNeighbours_64 : decode cX2_findNeighbours 64 = .ok (.invokestatic 90, 3) := by decide +kernel
theorem dX2_findNeighbours_67 : decode cX2_findNeighbours 67 = .ok (.istore 4, 2) := by decide +kernel
theorem dX2_findNeighbours_69 : decode cX2_findNeighbours 69 = .ok (.iload_n 3, 1) := by decide +kernel
theorem dX2_findNeighbours_70 : decode cX2_findNeighbours 70 = .ok (.iload 4, 2) := by decide +kernel
theorem dX2_findNeighbours_72 : decode cX2_findNeighbours 72 = .ok (.iadd, 1) := by decide +kernel
theorem dX2_findNeighbours_73 : decode cX2_findNeighbours 73 = .ok (.iconst 1, 1) := by decide +kernel
theorem dX2_findNeighbours_74 : decode cX2_findNeighbours 74 = .ok (.if_icmp .ne 15, 3) := by decide +kernel
theorem dX2_findNeighbours_77 : decode cX2_findNeighbours 77 = .ok (.aload_n 0, 1) := by decide +kernel
theorem dX2_findNeighbours_78 : decode cX2_findNeighbours 78 = .ok (.getfield 24, 3) := by decide +kernel
theorem dX2_findNeighbours_81 : decode cX2_findNeighbours 81 = .ok (.iload_n 1, 1) := by decide +kernel
theorem dX2_findNeighbours_82 : decode cX2_findNeighbours 82 = .ok (.dup2, 1) := by decide +kernel
theorem dX2_findNeighbours_83 : decode cX2_findNeighbours 83 = .ok (.iaload, 1) := by decide +kernel
theorem dX2_findNeighbours_84 : decode cX2_findNeighbours 84 = .ok (.iconst 1, 1) := by decide +kernel
theorem dX2_findNeighbours_85 : decode cX2_findNeighbours 85 = .ok (.iload_n 2, 1) := by decide +kernel
theorem dX2_findNeighbours_86 : decode cX2_findNeighbours 86 = .ok (.ishl, 1) := by decide +kernel
theorem dX2_findNeighbours_87 : decode cX2_findNeighbours 87 = .ok (.ior, 1) := by decide +kernel
theorem dX2_findNeighbours_88 : decode cX2_findNeighbours 88 = .ok (.iastore, 1) := by decide +kernel
theorem dX2_findNeighbours_89 : decode cX2_findNeighbours 89 = .ok (.iload_n 3, 1) := by decide +kernel
theorem dX2_findNeighbours_90 : decode cX2_findNeighbours 90 = .ok (.ifCond .ne 21, 3) := by decide +kernel
theorem dX2_findNeighbours_93 : decode cX2_findNeighbours 93 = .ok (.iload 4, 2) := by decide +kernel
theorem dX2_findNeighbours_95 : decode cX2_findNeighbours 95 = .ok (.iconst 1, 1) := by decide +kernel
theorem dX2_findNeighbours_96 : decode cX2_findNeighbours 96 = .ok (.if_icmp .ne 15, 3) := by decide +kernel
theorem dX2_findNeighbours_99 : decode cX2_findNeighbours 99 = .ok (.aload_n 0, 1) := by decide +kernel
theorem dX2_findNeighbours_100 : decode cX2_findNeighbours 100 = .ok (.getfield 27, 3) := by decide +kernel
theorem dX2_findNeighbours_103 : decode cX2_findNeighbours 103 = .ok (.iload_n 1, 1) := by decide +kernel
theorem dX2_findNeighbours_104 : decode cX2_findNeighbours 104 = .ok (.dup2, 1) := by decide +kernel
theorem dX2_findNeighbours_105 : decode cX2_findNeighbours 105 = .ok (.iaload, 1) := by decide +kernel
theorem dX2_findNeighbours_106 : decode cX2_findNeighbours 106 = .ok (.iconst 1, 1) := by decide +kernel
theorem dX2_findNeighbours_107 : decode cX2_findNeighbours 107 = .ok (.iload_n 2, 1) := by decide +kernel
theorem dX2_findNeighbours_108 : decode cX2_findNeighbours 108 = .ok (.ishl, 1) := by decide +kernel
theorem dX2_findNeighbours_109 : decode cX2_findNeighbours 109 = .ok (.ior, 1) := by decide +kernel
theorem dX2_findNeighbours_110 : decode cX2_findNeighbours 110 = .ok (.iastore, 1) := by decide +kernel
theorem dX2_findNeighbours_111 : decode cX2_findNeighbours 111 = .ok (.iinc 2 1, 3) := by decide +kernel
theorem dX2_findNeighbours_114 : decode cX2_findNeighbours 114 = .ok (.goto (-88), 3) := by decide +kernel
theorem dX2_findNeighbours_117 : decode cX2_findNeighbours 117 = .ok (.iinc 1 1, 3) := by decide +kernel
theorem dX2_findNeighbours_120 : decode cX2_findNeighbours 120 = .ok (.goto (-118), 3) := by decide +kernel
theorem dX2_findNeighbours_123 : decode cX2_findNeighbours 123 = .ok (.return_, 1) := by decide +kernel
theorem dX3_enter_0 : decode cX3_enter 0 = .ok (.iload_n 3, 1) := by decide +kernel
theorem dX3_enter_1 : decode cX3_enter 1 = .ok (.ifCond .lt 9, 3) := by decide +kernel
theorem dX3_enter_4 : decode cX3_enter 4 = .ok (.iload_n 3, 1) := by decide +kernel
theorem dX3_enter_5 : decode cX3_enter 5 = .ok (.bipush 16, 2) := by decide +kernel
theorem dX3_enter_7 : decode cX3_enter 7 = .ok (.if_icmp .le 4, 3) := by decide +kernel
theorem dX3_enter_10 : decode cX3_enter 10 = .ok (.return_, 1) := by decide +kernel
theorem dX3_enter_11 : decode cX3_enter 11 = .ok (.iload_n 1, 1) := by decide +kernel
theorem dX3_enter_12 : decode cX3_enter 12 = .ok (.ifCond .ne 16, 3) := by decide +kernel
theorem dX3_enter_15 : decode cX3_enter 15 = .ok (.aload_n 0, 1) := by decide +kernel
theorem dX3_enter_16 : decode cX3_enter 16 = .ok (.getfield 15, 3) := by decide +kernel
theorem dX3_enter_19 : decode cX3_enter 19 = .ok (.iload_n 3, 1) := by decide +kernel
theorem dX3_enter_20 : decode cX3_enter 20 = .ok (.dup2, 1) := by decide +kernel
theorem dX3_enter_21 : decode cX3_enter 21 = .ok (.iaload, 1) := by decide +kernel
theorem dX3_enter_22 : decode cX3_enter 22 = .ok (.iload_n 2, 1) := by decide +kernel
theorem dX3_enter_23 : decode cX3_enter 23 = .ok (.ior, 1) := by decide +kernel
theorem dX3_enter_24 : decode cX3_enter 24 = .ok (.iastore, 1) := by decide +kernel
theorem dX3_enter_25 : decode cX3_enter 25 = .ok (.goto 23, 3) := by decide +kernel
theorem dX3_enter_28 : decode cX3_enter 28 = .ok (.aload_n 0, 1) := by decide +kernel
theorem dX3_enter_29 : decode cX3_enter 29 = .ok (.getfield 9, 3) := by decide +kernel
theorem dX3_enter_32 : decode cX3_enter 32 = .ok (.iload_n 3, 1) := by decide +kernel
theorem dX3_enter_33 : decode cX3_enter 33 = .ok (.aload_n 0, 1) := by decide +kernel
theorem dX3_enter_34 : decode cX3_enter 34 = .ok (.getfield 9, 3) := by decide +kernel
theorem dX3_enter_37 : decode cX3_enter 37 = .ok (.iload_n 3, 1) := by decide +kernel
theorem dX3_enter_38 : decode cX3_enter 38 = .ok (.iaload, 1) := by decide +kernel
theorem dX3_enter_39 : decode cX3_enter 39 = .ok (.iload_n 2, 1) := by decide +kernel
theorem dX3_enter_40 : decode cX3_enter 40 = .ok (.iload_n 1, 1) := by decide +kernel
theorem dX3_enter_41 : decode cX3_enter 41 = .ok (.invokestatic 51, 3) := by decide +kernel
theorem dX3_enter_44 : decode cX3_enter 44 = .ok (.invokestatic 55, 3) := by decide +kernel
theorem dX3_enter_47 : decode cX3_enter 47 = .ok (.iastore, 1) := by decide +kernel
theorem dX3_enter_48 : decode cX3_enter 48 = .ok (.return_, 1) := by decide +kernel
theorem dX3_openFrom_0 : decode cX3_openFrom 0 = .ok (.iconst 0, 1) := by decide +kernel
theorem dX3_openFrom_1 : decode cX3_openFrom 1 = .ok (.iload_n 1, 1) := by decide +kernel
theorem dX3_openFrom_2 : decode cX3_openFrom 2 = .ok (.invokestatic 58, 3) := by decide +kernel
theorem dX3_openFrom_5 : decode cX3_openFrom 5 = .ok (.istore_n 3, 1) := by decide +kernel
theorem dX3_openFrom_6 : decode cX3_openFrom 6 = .ok (.iload_n 3, 1) := by decide +kernel
theorem dX3_openFrom_7 : decode cX3_openFrom 7 = .ok (.bipush 16, 2) := by decide +kernel
theorem dX3_openFrom_9 : decode cX3_openFrom 9 = .ok (.if_icmp .gt 19, 3) := by decide +kernel
theorem dX3_openFrom_12 : decode cX3_openFrom 12 = .ok (.aload_n 0, 1) := by decide +kernel
theorem dX3_openFrom_13 : decode cX3_openFrom 13 = .ok (.getfield 18, 3) := by decide +kernel
theorem dX3_openFrom_16 : decode cX3_openFrom 16 = .ok (.iload_n 3, 1) := by decide +kernel
theorem dX3_openFrom_17 : decode cX3_openFrom 17 = .ok (.dup2, 1) := by decide +kernel
theorem dX3_openFrom_18 : decode cX3_openFrom 18 = .ok (.iaload, 1) := by decide +kernel
theorem dX3_openFrom_19 : decode cX3_openFrom 19 = .ok (.iload_n 2, 1) := by decide +kernel
theorem dX3_openFrom_20 : decode cX3_openFrom 20 = .ok (.ior, 1) := by decide +kernel
theorem dX3_openFrom_21 : decode cX3_openFrom 21 = .ok (.iastore, 1) := by decide +kernel
theorem dX3_openFrom_22 : decode cX3_openFrom 22 = .ok (.iinc 3 1, 3) := by decide +kernel
theorem dX3_openFrom_25 : decode cX3_openFrom 25 = .ok (.goto (-19), 3) := by decide +kernel
theorem dX3_openFrom_28 : decode cX3_openFrom 28 = .ok (.return_, 1) := by decide +kernel
theorem dX3_make_0 : decode cX3_make 0 = .ok (.iconst 0, 1) := by decide +kernel
theorem dX3_make_1 : decode cX3_make 1 = .ok (.istore_n 2, 1) := by decide +kernel
theorem dX3_make_2 : decode cX3_make 2 = .ok (.iload_n 2, 1) := by decide +kernel
theorem dX3_make_3 : decode cX3_make 3 = .ok (.bipush 16, 2) := by decide +kernel
theorem dX3_make_5 : decode cX3_make 5 = .ok (.if_icmp .gt 30, 3) := by decide +kernel
theorem dX3_make_8 : decode cX3_make 8 = .ok (.aload_n 0, 1) := by decide +kernel
theorem dX3_make_9 : decode cX3_make 9 = .ok (.getfield 9, 3) := by decide +kernel
theorem dX3_make_12 : decode cX3_make 12 = .ok (.iload_n 2, 1) := by decide +kernel
theorem dX3_make_13 : decode cX3_make 13 = .ok (.iconst 0, 1) := by decide +kernel
theorem dX3_make_14 : decode cX3_make 14 = .ok (.iastore, 1) := by decide +kernel
theorem dX3_make_15 : decode cX3_make 15 = .ok (.aload_n 0, 1) := by decide +kernel
theorem dX3_make_16 : decode cX3_make 16 = .ok (.getfield 15, 3) := by decide +kernel
theorem dX3_make_19 : decode cX3_make 19 = .ok (.iload_n 2, 1) := by decide +kernel
theorem dX3_make_20 : decode cX3_make 20 = .ok (.iconst 0, 1) := by decide +kernel
theorem dX3_make_21 : decode cX3_make 21 = .ok (.iastore, 1) := by decide +kernel
theorem dX3_make_22 : decode cX3_make 22 = .ok (.aload_n 0, 1) := by decide +kernel
theorem dX3_make_23 : decode cX3_make 23 = .ok (.getfield 18, 3) := by decide +kernel
theorem dX3_make_26 : decode cX3_make 26 = .ok (.iload_n 2, 1) := by decide +kernel
theorem dX3_make_27 : decode cX3_make 27 = .ok (.iconst 0, 1) := by decide +kernel
theorem dX3_make_28 : decode cX3_make 28 = .ok (.iastore, 1) := by decide +kernel
theorem dX3_make_29 : decode cX3_make 29 = .ok (.iinc 2 1, 3) := by decide +kernel
theorem dX3_make_32 : decode cX3_make 32 = .ok (.goto (-30), 3) := by decide +kernel
theorem dX3_make_35 : decode cX3_make 35 = .ok (.iconst 0, 1) := by decide +kernel
theorem dX3_make_36 : decode cX3_make 36 = .ok (.istore_n 2, 1) := by decide +kernel
theorem dX3_make_37 : decode cX3_make 37 = .ok (.iload_n 2, 1) := by decide +kernel
theorem dX3_make_38 : decode cX3_make 38 = .ok (.aload_n 1, 1) := by decide +kernel
theorem dX3_make_39 : decode cX3_make 39 = .ok (.invokevirtual 21, 3) := by decide +kernel
theorem dX3_make_42 : decode cX3_make 42 = .ok (.if_icmp .ge 33, 3) := by decide +kernel
theorem dX3_make_45 : decode cX3_make 45 = .ok (.aload_n 0, 1) := by decide +kernel
theorem dX3_make_46 : decode cX3_make 46 = .ok (.aload_n 1, 1) := by decide +kernel
theorem dX3_make_47 : decode cX3_make 47 = .ok (.getfield 27, 3) := by decide +kernel
theorem dX3_make_50 : decode cX3_make 50 = .ok (.iload_n 2, 1) := by decide +kernel
theorem dX3_make_51 : decode cX3_make 51 = .ok (.iaload, 1) := by decide +kernel
theorem dX3_make_52 : decode cX3_make 52 = .ok (.iconst 1, 1) := by decide +kernel
theorem dX3_make_53 : decode cX3_make 53 = .ok (.aload_n 1, 1) := by decide +kernel
theorem dX3_make_54 : decode cX3_make 54 = .ok (.getfield 30, 3) := by decide +kernel
theorem dX3_make_57 : decode cX3_make 57 = .ok (.iload_n 2, 1) := by decide +kernel
theorem dX3_make_58 : decode cX3_make 58 = .ok (.iaload, 1) := by decide +kernel
theorem dX3_make_59 : decode cX3_make 59 = .ok (.ishl, 1) := by decide +kernel
theorem dX3_make_60 : decode cX3_make 60 = .ok (.aload_n 1, 1) := by decide +kernel
theorem dX3_make_61 : decode cX3_make 61 = .ok (.getfield 33, 3) := by decide +kernel
theorem dX3_make_64 : decode cX3_make 64 = .ok (.iload_n 2, 1) := by decide +kernel
theorem dX3_make_65 : decode cX3_make 65 = .ok (.iaload, 1) := by decide +kernel
theorem dX3_make_66 : decode cX3_make 66 = .ok (.invokevirtual 36, 3) := by decide +kernel
theorem dX3_make_69 : decode cX3_make 69 = .ok (.iinc 2 1, 3) := by decide +kernel
theorem dX3_make_72 : decode cX3_make 72 = .ok (.goto (-35), 3) := by decide +kernel
theorem dX3_make_75 : decode cX3_make 75 = .ok (.iconst 1, 1) := by decide +kernel
theorem dX3_make_76 : decode cX3_make 76 = .ok (.istore_n 2, 1) := by decide +kernel
theorem dX3_make_77 : decode cX3_make 77 = .ok (.iload_n 2, 1) := by decide +kernel
theorem dX3_make_78 : decode cX3_make 78 = .ok (.bipush 16, 2) := by decide +kernel
theorem dX3_make_80 : decode cX3_make 80 = .ok (.if_icmp .gt 26, 3) := by decide +kernel
theorem dX3_make_83 : decode cX3_make 83 = .ok (.aload_n 0, 1) := by decide +kernel
theorem dX3_make_84 : decode cX3_make 84 = .ok (.getfield 15, 3) := by decide +kernel
theorem dX3_make_87 : decode cX3_make 87 = .ok (.iload_n 2, 1) := by decide +kernel
theorem dX3_make_88 : decode cX3_make 88 = .ok (.dup2, 1) := by decide +kernel
theorem dX3_make_89 : decode cX3_make 89 = .ok (.iaload, 1) := by decide +kernel
theorem dX3_make_90 : decode cX3_make 90 = .ok (.aload_n 0, 1) := by decide +kernel
theorem dX3_make_91 : decode cX3_make 91 = .ok (.getfield 15, 3) := by decide +kernel
theorem dX3_make_94 : decode cX3_make 94 = .ok (.iload_n 2, 1) := by decide +kernel
theorem dX3_make_95 : decode cX3_make 95 = .ok (.iconst 1, 1) := by decide +kernel
theorem dX3_make_96 : decode cX3_make 96 = .ok (.isub, 1) := by decide +kernel
theorem dX3_make_97 : decode cX3_make 97 = .ok (.iaload, 1) := by decide +kernel
theorem dX3_make_98 : decode cX3_make 98 = .ok (.ior, 1) := by decide +kernel
theorem dX3_make_99 : decode cX3_make 99 = .ok (.iastore, 1) := by decide +kernel
theorem dX3_make_100 : decode cX3_make 100 = .ok (.iinc 2 1, 3) := by decide +kernel
theorem dX3_make_103 : decode cX3_make 103 = .ok (.goto (-26), 3) := by decide +kernel
theorem dX3_make_106 : decode cX3_make 106 = .ok (.iconst 0, 1) := by decide +kernel
theorem dX3_make_107 : decode cX3_make 107 = .ok (.istore_n 2, 1) := by decide +kernel
theorem dX3_make_108 : decode cX3_make 108 = .ok (.iload_n 2, 1) := by decide +kernel
theorem dX3_make_109 : decode cX3_make 109 = .ok (.aload_n 1, 1) := by decide +kernel
theorem dX3_make_110 : decode cX3_make 110 = .ok (.getfield 40, 3) := by decide +kernel
theorem dX3_make_113 : decode cX3_make 113 = .ok (.if_icmp .ge 22, 3) := by decide +kernel
theorem dX3_make_116 : decode cX3_make 116 = .ok (.aload_n 0, 1) := by decide +kernel
theorem dX3_make_117 : decode cX3_make 117 = .ok (.aload_n 1, 1) := by decide +kernel
theorem dX3_make_118 : decode cX3_make 118 = .ok (.getfield 44, 3) := by decide +kernel
theorem dX3_make_121 : decode cX3_make 121 = .ok (.iload_n 2, 1) := by decide +kernel
theorem dX3_make_122 : decode cX3_make 122 = .ok (.iaload, 1) := by decide +kernel
theorem dX3_make_123 : decode cX3_make 123 = .ok (.iconst 1, 1) := by decide +kernel
theorem dX3_make_124 : decode cX3_make 124 = .ok (.iload_n 2, 1) := by decide +kernel
theorem dX3_make_125 : decode cX3_make 125 = .ok (.ishl, 1) := by decide +kernel
theorem dX3_make_126 : decode cX3_make 126 = .ok (.invokevirtual 47, 3) := by decide +kernel
theorem dX3_make_129 : decode cX3_make 129 = .ok (.iinc 2 1, 3) := by decide +kernel
theorem dX3_make_132 : decode cX3_make 132 = .ok (.goto (-24), 3) := by decide +kernel
theorem dX3_make_135 : decode cX3_make 135 = .ok (.return_, 1) := by decide +kernel
set_option maxHeartbeats 4000000 in
set_option maxRecDepth 100000 in
theorem ctX2_events_g (l : Launch) (D : va_G) (k : Nat → ClassId) (z : Nat → Nat) (o : Nat → Nat) (glines : Int32) (ghours : Nat) (glaw : Int32) (godds : Int32) (grows : Nat) (gheads : Nat) (gsayings : Nat) (gslugs : Nat) (gacts : Nat) (hghours : ghours ≤ 16) (hgrows : grows ≤ 4) (hgheads : gheads ≤ 12) (hgsayings : gsayings ≤ 8) (hgslugs : gslugs ≤ 4) (hgacts : gacts ≤ 30) : RO l yX2_events cX2_events 1 (some .int) 0 D k z [.ref (o 3)] [((o 3), .inr (2, [.int glines, .int (nI ghours), .int glaw, .int godds, .int (nI grows), .int (nI gheads), .int (nI gsayings), .int (nI gslugs), .int (nI gacts), .ref (o 26), .ref (o 27), .ref (o 28), .ref (o 29), .ref (o 30), .ref (o 31), .ref (o 32), .ref (o 33), .ref (o 34), .ref (o 35)]))] (Qi (fun r : Int32 => (r = (nI (gsayings + gslugs + gacts))))) := by
  refine RO.of (by decide) (Nat.le_of_ble_eq_true rfl) ?_
  intro p e s m below meth c ls A B args Q S hr hlk hQ hK hP hDW hZ hAB hBA hA hS hl
  have hx := S.1
  have hb := S.2.1
  have hl : lv_has ls 1 [(0, .ref (o 3))] := hl
  refine lv_aload_n hx hb dX2_events_0 rfl (lv_at hl 0 rfl) ?_
  refine x_get S hK hP 0 rfl cfX2 6 lkX2_61 (by decide) rfl dX2_events_1 ?_
  refine lv_aload_n hx hb dX2_events_4 rfl (lv_at hl 0 rfl) ?_
  refine x_get S hK hP 0 rfl cfX2 7 lkX2_64 (by decide) rfl dX2_events_5 ?_
  refine lv_iadd hx hb dX2_events_8 ?_
  refine x_is (nI (gsayings + gslugs)) (ni_add rfl rfl) ?_
  refine lv_aload_n hx hb dX2_events_9 rfl (lv_at hl 0 rfl) ?_
  refine x_get S hK hP 0 rfl cfX2 8 lkX2_67 (by decide) rfl dX2_events_10 ?_
  refine lv_iadd hx hb dX2_events_13 ?_
  refine x_is (nI (gsayings + gslugs + gacts)) (ni_add rfl rfl) ?_
  exact x_reti S hr hlk hQ hS () rfl x_T dX2_events_14

set_option maxHeartbeats 4000000 in
set_option maxRecDepth 100000 in
theorem ctX2_setEvent_g (l : Launch) (D : va_G) (k : Nat → ClassId) (z : Nat → Nat) (o : Nat → Nat) (glines : Int32) (ghours : Nat) (glaw : Int32) (godds : Int32) (grows : Nat) (gheads : Nat) (gsayings : Nat) (gslugs : Nat) (gacts : Nat) (f33 : Nat → Int32) (f34 : Nat → Int32) (f35 : Nat → Int32) (p0 : Int32) (p1 : Int32) (p2 : Int32) (hghours : ghours ≤ 16) (hgrows : grows ≤ 4) (hgheads : gheads ≤ 12) (hgsayings : gsayings ≤ 8) (hgslugs : gslugs ≤ 4) (hgacts : gacts ≤ 30) (hev : gsayings + gslugs + gacts < 42) : MU l yX2_setEvent cX2_setEvent 5 none 1 D k z [.ref (o 3), .int p0, .int p1, .int p2] [((o 3), .inr (2, [.int glines, .int (nI ghours), .int glaw, .int godds, .int (nI grows), .int (nI gheads), .int (nI gsayings), .int (nI gslugs), .int (nI gacts), .ref (o 26), .ref (o 27), .ref (o 28), .ref (o 29), .ref (o 30), .ref (o 31), .ref (o 32), .ref (o 33), .ref (o 34), .ref (o 35)])), ((o 33), .inl (k 0, 42, .inl f33)), ((o 34), .inl (k 0, 42, .inl f34)), ((o 35), .inl (k 0, 42, .inl f35))] 0 0 (Uv D (fun _ : (Nat → Int32) × (Nat → Nat) × (Nat → Nat → Int32) × (Nat → Nat → Int64) × (Nat → Int64) => True) (fun u : (Nat → Int32) × (Nat → Nat) × (Nat → Nat → Int32) × (Nat → Nat → Int64) × (Nat → Int64) => [((o 3), .inr (2, [.int glines, .int (nI ghours), .int glaw, .int godds, .int (nI grows), .int (nI gheads), .int (nI gsayings), .int (nI gslugs), .int (nI gacts), .ref (o 26), .ref (o 27), .ref (o 28), .ref (o 29), .ref (o 30), .ref (o 31), .ref (o 32), .ref (o 33), .ref (o 34), .ref (o 35)])), ((o 33), .inl (k 0, 42, .inl (u.2.2.1 0))), ((o 34), .inl (k 0, 42, .inl (u.2.2.1 1))), ((o 35), .inl (k 0, 42, .inl (u.2.2.1 2)))])) := by
  refine MU.of (by decide) (Nat.le_of_ble_eq_true rfl) ?_
  intro p e s m below meth c ls A args Q S hr hlk hnm hQ hK hP hD hZ hA hS hl
  have hx := S.1
  have hb := S.2.1
  have hl : lv_has ls 5 [(0, .ref (o 3)), (1, .int p0), (2, .int p1), (3, .int p2)] := hl
  refine lv_aload_n hx hb dX2_setEvent_0 rfl (lv_at hl 0 rfl) ?_
  refine x_roVi (As := []) S hK hP hD hZ (fun _ h => h) hA hS hA hl mwX2_events lkX2_82 (ctX2_events_g l D k z o glines ghours glaw godds grows gheads gsayings gslugs gacts (by omega) (by omega) (by omega) (by omega) (by omega) (by omega)) [0] rfl (by decide) rfl rfl rfl rfl rfl ⟨Nat.le_of_ble_eq_true rfl, Nat.le_of_ble_eq_true rfl, Nat.le_of_ble_eq_true rfl⟩ dX2_setEvent_1 ⟨Nat.le_of_ble_eq_true rfl, Nat.le_of_ble_eq_true rfl⟩ (fun r_1 H locs hr_1 hP hS => ?_)
  obtain rfl := hr_1
  refine lv_istore (lv' := [(4, .int (nI (gsayings + gslugs + gacts))), (0, .ref (o 3)), (1, .int p0), (2, .int p1), (3, .int p2)]) hx hb dX2_setEvent_4 hl (by decide) rfl (fun ls hl => ?_)
  refine lv_aload_n hx hb dX2_setEvent_6 rfl (lv_at hl 1 rfl) ?_
  refine x_get S hK hP 0 rfl cfX2 16 lkX2_33 (by decide) rfl dX2_setEvent_7 ?_
  refine lv_iload hx hb dX2_setEvent_10 (lv_at hl 0 rfl) ?_
  refine lv_iload_n hx hb dX2_setEvent_12 rfl (lv_at hl 2 rfl) ?_
  refine x_iast (ws' := fun f_3 => [((o 3), .inr (2, [.int glines, .int (nI ghours), .int glaw, .int godds, .int (nI grows), .int (nI gheads), .int (nI gsayings), .int (nI gslugs), .int (nI gacts), .ref (o 26), .ref (o 27), .ref (o 28), .ref (o 29), .ref (o 30), .ref (o 31), .ref (o 32), .ref (o 33), .ref (o 34), .ref (o 35)])), ((o 33), .inl (k 0, 42, .inl f_3)), ((o 34), .inl (k 0, 42, .inl f34)), ((o 35), .inl (k 0, 42, .inl f35))]) S hK hP hD hS 1 rfl (vp_in_nI (by omega) (by decide)) (fun _ => rfl) dX2_setEvent_13 (fun f_3 H locs ef_3 hP hD hS => ?_)
  refine lv_aload_n hx hb dX2_setEvent_14 rfl (lv_at hl 1 rfl) ?_
  refine x_get S hK hP 0 rfl cfX2 17 lkX2_36 (by decide) rfl dX2_setEvent_15 ?_
  refine lv_iload hx hb dX2_setEvent_18 (lv_at hl 0 rfl) ?_
  refine lv_iload_n hx hb dX2_setEvent_20 rfl (lv_at hl 3 rfl) ?_
  refine x_iast (ws' := fun f_4 => [((o 3), .inr (2, [.int glines, .int (nI ghours), .int glaw, .int godds, .int (nI grows), .int (nI gheads), .int (nI gsayings), .int (nI gslugs), .int (nI gacts), .ref (o 26), .ref (o 27), .ref (o 28), .ref (o 29), .ref (o 30), .ref (o 31), .ref (o 32), .ref (o 33), .ref (o 34), .ref (o 35)])), ((o 33), .inl (k 0, 42, .inl f_3)), ((o 34), .inl (k 0, 42, .inl f_4)), ((o 35), .inl (k 0, 42, .inl f35))]) S hK hP hD hS 2 rfl (vp_in_nI (by omega) (by decide)) (fun _ => rfl) dX2_setEvent_21 (fun f_4 H locs ef_4 hP hD hS => ?_)
  refine lv_aload_n hx hb dX2_setEvent_22 rfl (lv_at hl 1 rfl) ?_
  refine x_get S hK hP 0 rfl cfX2 18 lkX2_39 (by decide) rfl dX2_setEvent_23 ?_
  refine lv_iload hx hb dX2_setEvent_26 (lv_at hl 0 rfl) ?_
  refine lv_iload_n hx hb dX2_setEvent_28 rfl (lv_at hl 4 rfl) ?_
  refine x_iast (ws' := fun f_5 => [((o 3), .inr (2, [.int glines, .int (nI ghours), .int glaw, .int godds, .int (nI grows), .int (nI gheads), .int (nI gsayings), .int (nI gslugs), .int (nI gacts), .ref (o 26), .ref (o 27), .ref (o 28), .ref (o 29), .ref (o 30), .ref (o 31), .ref (o 32), .ref (o 33), .ref (o 34), .ref (o 35)])), ((o 33), .inl (k 0, 42, .inl f_3)), ((o 34), .inl (k 0, 42, .inl f_4)), ((o 35), .inl (k 0, 42, .inl f_5))]) S hK hP hD hS 3 rfl (vp_in_nI (by omega) (by decide)) (fun _ => rfl) dX2_setEvent_29 (fun f_5 H locs ef_5 hP hD hS => ?_)
  exact x_retv S hr hlk hQ hS ((fun i => ([] : List (Int32)).getD i 0), (fun i => ([] : List (Nat)).getD i 0), (fun i => ([f_3, f_4, f_5] : List (Nat → Int32)).getD i (fun _ => 0)), (fun i => ([] : List (Nat → Int64)).getD i (fun _ => 0)), (fun i => ([] : List (Int64)).getD i 0)) trivial (x_B hP hD) dX2_setEvent_30

set_option maxHeartbeats 4000000 in
set_option maxRecDepth 100000 in
theorem ctX2_events_d (l : Launch) (D : va_G) (k : Nat → ClassId) (z : Nat → Nat) (o : Nat → Nat) (dlines : Int32) (dhours : Nat) (dlaw : Int32) (dodds : Int32) (drows : Nat) (dheads : Nat) (dsayings : Nat) (dslugs : Nat) (dacts : Nat) (hdhours : dhours ≤ 16) (hdrows : drows ≤ 4) (hdheads : dheads ≤ 12) (hdsayings : dsayings ≤ 8) (hdslugs : dslugs ≤ 4) (hdacts : dacts ≤ 30) : RO l yX2_events cX2_events 1 (some .int) 0 D k z [.ref (o 2)] [((o 2), .inr (2, [.int dlines, .int (nI dhours), .int dlaw, .int dodds, .int (nI drows), .int (nI dheads), .int (nI dsayings), .int (nI dslugs), .int (nI dacts), .ref (o 16), .ref (o 17), .ref (o 18), .ref (o 19), .ref (o 20), .ref (o 21), .ref (o 22), .ref (o 23), .ref (o 24), .ref (o 25)]))] (Qi (fun r : Int32 => (r = (nI (dsayings + dslugs + dacts))))) := by
  refine RO.of (by decide) (Nat.le_of_ble_eq_true rfl) ?_
  intro p e s m below meth c ls A B args Q S hr hlk hQ hK hP hDW hZ hAB hBA hA hS hl
  have hx := S.1
  have hb := S.2.1
  have hl : lv_has ls 1 [(0, .ref (o 2))] := hl
  refine lv_aload_n hx hb dX2_events_0 rfl (lv_at hl 0 rfl) ?_
  refine x_get S hK hP 0 rfl cfX2 6 lkX2_61 (by decide) rfl dX2_events_1 ?_
  refine lv_aload_n hx hb dX2_events_4 rfl (lv_at hl 0 rfl) ?_
  refine x_get S hK hP 0 rfl cfX2 7 lkX2_64 (by decide) rfl dX2_events_5 ?_
  refine lv_iadd hx hb dX2_events_8 ?_
  refine x_is (nI (dsayings + dslugs)) (ni_add rfl rfl) ?_
  refine lv_aload_n hx hb dX2_events_9 rfl (lv_at hl 0 rfl) ?_
  refine x_get S hK hP 0 rfl cfX2 8 lkX2_67 (by decide) rfl dX2_events_10 ?_
  refine lv_iadd hx hb dX2_events_13 ?_
  refine x_is (nI (dsayings + dslugs + dacts)) (ni_add rfl rfl) ?_
  exact x_reti S hr hlk hQ hS () rfl x_T dX2_events_14

set_option maxHeartbeats 4000000 in
set_option maxRecDepth 100000 in
theorem ctX2_setEvent_d (l : Launch) (D : va_G) (k : Nat → ClassId) (z : Nat → Nat) (o : Nat → Nat) (dlines : Int32) (dhours : Nat) (dlaw : Int32) (dodds : Int32) (drows : Nat) (dheads : Nat) (dsayings : Nat) (dslugs : Nat) (dacts : Nat) (f23 : Nat → Int32) (f24 : Nat → Int32) (f25 : Nat → Int32) (p0 : Int32) (p1 : Int32) (p2 : Int32) (hdhours : dhours ≤ 16) (hdrows : drows ≤ 4) (hdheads : dheads ≤ 12) (hdsayings : dsayings ≤ 8) (hdslugs : dslugs ≤ 4) (hdacts : dacts ≤ 30) (hev : dsayings + dslugs + dacts < 42) : MU l yX2_setEvent cX2_setEvent 5 none 1 D k z [.ref (o 2), .int p0, .int p1, .int p2] [((o 2), .inr (2, [.int dlines, .int (nI dhours), .int dlaw, .int dodds, .int (nI drows), .int (nI dheads), .int (nI dsayings), .int (nI dslugs), .int (nI dacts), .ref (o 16), .ref (o 17), .ref (o 18), .ref (o 19), .ref (o 20), .ref (o 21), .ref (o 22), .ref (o 23), .ref (o 24), .ref (o 25)])), ((o 23), .inl (k 0, 42, .inl f23)), ((o 24), .inl (k 0, 42, .inl f24)), ((o 25), .inl (k 0, 42, .inl f25))] 0 0 (Uv D (fun _ : (Nat → Int32) × (Nat → Nat) × (Nat → Nat → Int32) × (Nat → Nat → Int64) × (Nat → Int64) => True) (fun u : (Nat → Int32) × (Nat → Nat) × (Nat → Nat → Int32) × (Nat → Nat → Int64) × (Nat → Int64) => [((o 2), .inr (2, [.int dlines, .int (nI dhours), .int dlaw, .int dodds, .int (nI drows), .int (nI dheads), .int (nI dsayings), .int (nI dslugs), .int (nI dacts), .ref (o 16), .ref (o 17), .ref (o 18), .ref (o 19), .ref (o 20), .ref (o 21), .ref (o 22), .ref (o 23), .ref (o 24), .ref (o 25)])), ((o 23), .inl (k 0, 42, .inl (u.2.2.1 0))), ((o 24), .inl (k 0, 42, .inl (u.2.2.1 1))), ((o 25), .inl (k 0, 42, .inl (u.2.2.1 2)))])) := by
  refine MU.of (by decide) (Nat.le_of_ble_eq_true rfl) ?_
  intro p e s m below meth c ls A args Q S hr hlk hnm hQ hK hP hD hZ hA hS hl
  have hx := S.1
  have hb := S.2.1
  have hl : lv_has ls 5 [(0, .ref (o 2)), (1, .int p0), (2, .int p1), (3, .int p2)] := hl
  refine lv_aload_n hx hb dX2_setEvent_0 rfl (lv_at hl 0 rfl) ?_
  refine x_roVi (As := []) S hK hP hD hZ (fun _ h => h) hA hS hA hl mwX2_events lkX2_82 (ctX2_events_g l D k z (fun i => ([0, 0, 0, (o 2), 0, 0, 0, 0, 0, 0, 0, 0, 0, 0, 0, 0, 0, 0, 0, 0, 0, 0, 0, 0, 0, 0, (o 16), (o 17), (o 18), (o 19), (o 20), (o 21), (o 22), (o 23), (o 24), (o 25)] : List Nat).getD i 0) dlines dhours dlaw dodds drows dheads dsayings dslugs dacts (by omega) (by omega) (by omega) (by omega) (by omega) (by omega)) [0] rfl (by decide) rfl rfl rfl rfl rfl ⟨Nat.le_of_ble_eq_true rfl, Nat.le_of_ble_eq_true rfl, Nat.le_of_ble_eq_true rfl⟩ dX2_setEvent_1 ⟨Nat.le_of_ble_eq_true rfl, Nat.le_of_ble_eq_true rfl⟩ (fun r_1 H locs hr_1 hP hS => ?_)
  obtain rfl := hr_1
  refine lv_istore (lv' := [(4, .int (nI (dsayings + dslugs + dacts))), (0, .ref (o 2)), (1, .int p0), (2, .int p1), (3, .int p2)]) hx hb dX2_setEvent_4 hl (by decide) rfl (fun ls hl => ?_)
  refine lv_aload_n hx hb dX2_setEvent_6 rfl (lv_at hl 1 rfl) ?_
  refine x_get S hK hP 0 rfl cfX2 16 lkX2_33 (by decide) rfl dX2_setEvent_7 ?_
  refine lv_iload hx hb dX2_setEvent_10 (lv_at hl 0 rfl) ?_
  refine lv_iload_n hx hb dX2_setEvent_12 rfl (lv_at hl 2 rfl) ?_
  refine x_iast (ws' := fun f_3 => [((o 2), .inr (2, [.int dlines, .int (nI dhours), .int dlaw, .int dodds, .int (nI drows), .int (nI dheads), .int (nI dsayings), .int (nI dslugs), .int (nI dacts), .ref (o 16), .ref (o 17), .ref (o 18), .ref (o 19), .ref (o 20), .ref (o 21), .ref (o 22), .ref (o 23), .ref (o 24), .ref (o 25)])), ((o 23), .inl (k 0, 42, .inl f_3)), ((o 24), .inl (k 0, 42, .inl f24)), ((o 25), .inl (k 0, 42, .inl f25))]) S hK hP hD hS 1 rfl (vp_in_nI (by omega) (by decide)) (fun _ => rfl) dX2_setEvent_13 (fun f_3 H locs ef_3 hP hD hS => ?_)
  refine lv_aload_n hx hb dX2_setEvent_14 rfl (lv_at hl 1 rfl) ?_
  refine x_get S hK hP 0 rfl cfX2 17 lkX2_36 (by decide) rfl dX2_setEvent_15 ?_
  refine lv_iload hx hb dX2_setEvent_18 (lv_at hl 0 rfl) ?_
  refine lv_iload_n hx hb dX2_setEvent_20 rfl (lv_at hl 3 rfl) ?_
  refine x_iast (ws' := fun f_4 => [((o 2), .inr (2, [.int dlines, .int (nI dhours), .int dlaw, .int dodds, .int (nI drows), .int (nI dheads), .int (nI dsayings), .int (nI dslugs), .int (nI dacts), .ref (o 16), .ref (o 17), .ref (o 18), .ref (o 19), .ref (o 20), .ref (o 21), .ref (o 22), .ref (o 23), .ref (o 24), .ref (o 25)])), ((o 23), .inl (k 0, 42, .inl f_3)), ((o 24), .inl (k 0, 42, .inl f_4)), ((o 25), .inl (k 0, 42, .inl f25))]) S hK hP hD hS 2 rfl (vp_in_nI (by omega) (by decide)) (fun _ => rfl) dX2_setEvent_21 (fun f_4 H locs ef_4 hP hD hS => ?_)
  refine lv_aload_n hx hb dX2_setEvent_22 rfl (lv_at hl 1 rfl) ?_
  refine x_get S hK hP 0 rfl cfX2 18 lkX2_39 (by decide) rfl dX2_setEvent_23 ?_
  refine lv_iload hx hb dX2_setEvent_26 (lv_at hl 0 rfl) ?_
  refine lv_iload_n hx hb dX2_setEvent_28 rfl (lv_at hl 4 rfl) ?_
  refine x_iast (ws' := fun f_5 => [((o 2), .inr (2, [.int dlines, .int (nI dhours), .int dlaw, .int dodds, .int (nI drows), .int (nI dheads), .int (nI dsayings), .int (nI dslugs), .int (nI dacts), .ref (o 16), .ref (o 17), .ref (o 18), .ref (o 19), .ref (o 20), .ref (o 21), .ref (o 22), .ref (o 23), .ref (o 24), .ref (o 25)])), ((o 23), .inl (k 0, 42, .inl f_3)), ((o 24), .inl (k 0, 42, .inl f_4)), ((o 25), .inl (k 0, 42, .inl f_5))]) S hK hP hD hS 3 rfl (vp_in_nI (by omega) (by decide)) (fun _ => rfl) dX2_setEvent_29 (fun f_5 H locs ef_5 hP hD hS => ?_)
  exact x_retv S hr hlk hQ hS ((fun i => ([] : List (Int32)).getD i 0), (fun i => ([] : List (Nat)).getD i 0), (fun i => ([f_3, f_4, f_5] : List (Nat → Int32)).getD i (fun _ => 0)), (fun i => ([] : List (Nat → Int64)).getD i (fun _ => 0)), (fun i => ([] : List (Int64)).getD i 0)) trivial (x_B hP hD) dX2_setEvent_30

set_option maxHeartbeats 4000000 in
set_option maxRecDepth 100000 in
theorem ctX2_everyone (l : Launch) (D : va_G) (k : Nat → ClassId) (z : Nat → Nat) (o : Nat → Nat) (glines : Int32) (ghours : Nat) (glaw : Int32) (godds : Int32) (grows : Nat) (gheads : Nat) (gsayings : Nat) (gslugs : Nat) (gacts : Nat) (hghours : ghours ≤ 16) (hgrows : grows ≤ 4) (hgheads : gheads ≤ 12) (hgsayings : gsayings ≤ 8) (hgslugs : gslugs ≤ 4) (hgacts : gacts ≤ 30) : RO l yX2_everyone cX2_everyone 1 (some .int) 0 D k z [.ref (o 3)] [((o 3), .inr (2, [.int glines, .int (nI ghours), .int glaw, .int godds, .int (nI grows), .int (nI gheads), .int (nI gsayings), .int (nI gslugs), .int (nI gacts), .ref (o 26), .ref (o 27), .ref (o 28), .ref (o 29), .ref (o 30), .ref (o 31), .ref (o 32), .ref (o 33), .ref (o 34), .ref (o 35)]))] (Qi (fun r : Int32 => (r = (nI (2 ^ gheads - 1))))) := by
  refine RO.of (by decide) (Nat.le_of_ble_eq_true rfl) ?_
  intro p e s m below meth c ls A B args Q S hr hlk hQ hK hP hDW hZ hAB hBA hA hS hl
  have hx := S.1
  have hb := S.2.1
  have hl : lv_has ls 1 [(0, .ref (o 3))] := hl
  refine lv_iconst (v := 1) hx hb dX2_everyone_0 (by decide) ?_
  refine lv_aload_n hx hb dX2_everyone_1 rfl (lv_at hl 0 rfl) ?_
  refine x_get S hK hP 0 rfl cfX2 5 lkX2_58 (by decide) rfl dX2_everyone_2 ?_
  refine lv_ishl hx hb dX2_everyone_5 ?_
  refine lv_topi (fun v_1 ev_1 => ?_)
  refine lv_iconst (v := 1) hx hb dX2_everyone_6 (by decide) ?_
  refine lv_isub hx hb dX2_everyone_7 ?_
  refine lv_topi (fun v_2 ev_2 => ?_)
  exact x_reti S hr hlk hQ hS () (by rw [ev_2, ev_1]; exact ev12 _ (by omega)) x_T dX2_everyone_8

set_option maxHeartbeats 4000000 in
set_option maxRecDepth 100000 in
theorem ctX2_act (l : Launch) (D : va_G) (k : Nat → ClassId) (z : Nat → Nat) (o : Nat → Nat) (glines : Int32) (ghours : Nat) (glaw : Int32) (godds : Int32) (grows : Nat) (gheads : Nat) (gsayings : Nat) (gslugs : Nat) (gacts : Nat) (f33 : Nat → Int32) (f34 : Nat → Int32) (f35 : Nat → Int32) (p0 : Int32) (p1 : Int32) (p2 : Int32) (hghours : ghours ≤ 16) (hgrows : grows ≤ 4) (hgheads : gheads ≤ 12) (hgsayings : gsayings ≤ 8) (hgslugs : gslugs ≤ 4) (hgacts : gacts ≤ 30) (hac : gacts < 30) : MU l yX2_act cX2_act 4 none 2 D k z [.ref (o 3), .int p0, .int p1, .int p2] [((o 3), .inr (2, [.int glines, .int (nI ghours), .int glaw, .int godds, .int (nI grows), .int (nI gheads), .int (nI gsayings), .int (nI gslugs), .int (nI gacts), .ref (o 26), .ref (o 27), .ref (o 28), .ref (o 29), .ref (o 30), .ref (o 31), .ref (o 32), .ref (o 33), .ref (o 34), .ref (o 35)])), ((o 33), .inl (k 0, 42, .inl f33)), ((o 34), .inl (k 0, 42, .inl f34)), ((o 35), .inl (k 0, 42, .inl f35))] 0 0 (Uv D (fun u : (Nat → Int32) × (Nat → Nat) × (Nat → Nat → Int32) × (Nat → Nat → Int64) × (Nat → Int64) => (u.2.1 0 ≤ 30)) (fun u : (Nat → Int32) × (Nat → Nat) × (Nat → Nat → Int32) × (Nat → Nat → Int64) × (Nat → Int64) => [((o 3), .inr (2, [.int glines, .int (nI ghours), .int glaw, .int godds, .int (nI grows), .int (nI gheads), .int (nI gsayings), .int (nI gslugs), .int (nI (u.2.1 0)), .ref (o 26), .ref (o 27), .ref (o 28), .ref (o 29), .ref (o 30), .ref (o 31), .ref (o 32), .ref (o 33), .ref (o 34), .ref (o 35)])), ((o 33), .inl (k 0, 42, .inl (u.2.2.1 0))), ((o 34), .inl (k 0, 42, .inl (u.2.2.1 1))), ((o 35), .inl (k 0, 42, .inl (u.2.2.1 2)))])) := by
  refine MU.of (by decide) (Nat.le_of_ble_eq_true rfl) ?_
  intro p e s m below meth c ls A args Q S hr hlk hnm hQ hK hP hD hZ hA hS hl
  have hx := S.1
  have hb := S.2.1
  have hl : lv_has ls 4 [(0, .ref (o 3)), (1, .int p0), (2, .int p1), (3, .int p2)] := hl
  refine lv_aload_n hx hb dX2_act_0 rfl (lv_at hl 0 rfl) ?_
  refine x_get S hK hP 0 rfl cfX2 8 lkX2_67 (by decide) rfl dX2_act_1 ?_
  refine lv_bipush (v := 30) hx hb dX2_act_4 (by decide) ?_
  refine lv_icmp_lt (tgt := 10) hx hb dX2_act_6 (by decide) (fun c_1 => ?_) (fun c_1 => ?_)
  · skip
    have c_1 : gacts < 30 := (ni_lt rfl (by decide) (by omega) (by omega)).mp c_1
    refine lv_aload_n hx hb dX2_act_10 rfl (lv_at hl 0 rfl) ?_
    refine lv_iload_n hx hb dX2_act_11 rfl (lv_at hl 1 rfl) ?_
    refine lv_iload_n hx hb dX2_act_12 rfl (lv_at hl 2 rfl) ?_
    refine lv_iload_n hx hb dX2_act_13 rfl (lv_at hl 3 rfl) ?_
    refine x_muVv (wr := []) (As := [.int p0, .int p1, .int p2]) S hK hP hD hZ hS hA hl mwX2_setEvent lkX2_86 (ctX2_setEvent_g l D k z o glines ghours glaw godds grows gheads gsayings gslugs gacts f33 f34 f35 p0 p1 p2 (by omega) (by omega) (by omega) (by omega) (by omega) (by omega) (by omega)) [0, 1, 2, 3] [] rfl rfl (by decide) (by decide) (by decide) rfl rfl rfl rfl rfl ⟨Nat.le_of_ble_eq_true rfl, Nat.le_of_ble_eq_true rfl, Nat.le_of_ble_eq_true rfl⟩ dX2_act_14 ⟨Nat.le_of_ble_eq_true rfl, Nat.le_of_ble_eq_true rfl⟩ (fun u_3 H locs hr_2 hP hD hS => ?_)
    have hP : va_P D vwCl [((o 3), .inr (2, [.int glines, .int (nI ghours), .int glaw, .int godds, .int (nI grows), .int (nI gheads), .int (nI gsayings), .int (nI gslugs), .int (nI gacts), .ref (o 26), .ref (o 27), .ref (o 28), .ref (o 29), .ref (o 30), .ref (o 31), .ref (o 32), .ref (o 33), .ref (o 34), .ref (o 35)])), ((o 33), .inl (k 0, 42, .inl (u_3.2.2.1 0))), ((o 34), .inl (k 0, 42, .inl (u_3.2.2.1 1))), ((o 35), .inl (k 0, 42, .inl (u_3.2.2.1 2)))] H := hP.sub [0, 1, 2, 3] rfl
    have hD : va_D A [((o 3), .inr (2, [.int glines, .int (nI ghours), .int glaw, .int godds, .int (nI grows), .int (nI gheads), .int (nI gsayings), .int (nI gslugs), .int (nI gacts), .ref (o 26), .ref (o 27), .ref (o 28), .ref (o 29), .ref (o 30), .ref (o 31), .ref (o 32), .ref (o 33), .ref (o 34), .ref (o 35)])), ((o 33), .inl (k 0, 42, .inl (u_3.2.2.1 0))), ((o 34), .inl (k 0, 42, .inl (u_3.2.2.1 1))), ((o 35), .inl (k 0, 42, .inl (u_3.2.2.1 2)))] := hD.sub [0, 1, 2, 3] (by decide) rfl
    refine lv_aload_n hx hb dX2_act_17 rfl (lv_at hl 0 rfl) ?_
    refine lv_dup hx hb dX2_act_18 rfl ?_
    refine x_get S hK hP 0 rfl cfX2 8 lkX2_67 (by decide) rfl dX2_act_19 ?_
    refine lv_iconst (v := 1) hx hb dX2_act_22 (by decide) ?_
    refine lv_iadd hx hb dX2_act_23 ?_
    refine x_is (nI (gacts + 1)) (ni_add rfl (by decide)) ?_
    refine x_put (ws' := [((o 3), .inr (2, [.int glines, .int (nI ghours), .int glaw, .int godds, .int (nI grows), .int (nI gheads), .int (nI gsayings), .int (nI gslugs), .int (nI (gacts + 1)), .ref (o 26), .ref (o 27), .ref (o 28), .ref (o 29), .ref (o 30), .ref (o 31), .ref (o 32), .ref (o 33), .ref (o 34), .ref (o 35)])), ((o 33), .inl (k 0, 42, .inl (u_3.2.2.1 0))), ((o 34), .inl (k 0, 42, .inl (u_3.2.2.1 1))), ((o 35), .inl (k 0, 42, .inl (u_3.2.2.1 2)))]) S hK hP hD hS 0 rfl cfX2 8 lkX2_67 (by decide) rfl rfl rfl (Nat.le_of_ble_eq_true rfl) rfl dX2_act_24 (fun H locs hP hD hS => ?_)
    exact x_retv S hr hlk hQ hS ((fun i => ([] : List (Int32)).getD i 0), (fun i => ([gacts + 1] : List (Nat)).getD i 0), (fun i => ([(u_3.2.2.1 0), (u_3.2.2.1 1), (u_3.2.2.1 2)] : List (Nat → Int32)).getD i (fun _ => 0)), (fun i => ([] : List (Nat → Int64)).getD i (fun _ => 0)), (fun i => ([] : List (Int64)).getD i 0)) (show gacts + 1 ≤ 30 by omega) (x_B hP hD) dX2_act_27
  · skip
    have c_1 : ¬ gacts < 30 := fun q => c_1 ((ni_lt rfl (by decide) (by omega) (by omega)).mpr q)
    exfalso; omega

set_option maxHeartbeats 4000000 in
set_option maxRecDepth 100000 in
theorem ctX2_clear (l : Launch) (D : va_G) (k : Nat → ClassId) (z : Nat → Nat) (o : Nat → Nat) (dlines : Int32) (dhours : Nat) (dlaw : Int32) (dodds : Int32) (drows : Nat) (dheads : Nat) (dsayings : Nat) (dslugs : Nat) (dacts : Nat) (hdhours : dhours ≤ 16) (hdrows : drows ≤ 4) (hdheads : dheads ≤ 12) (hdsayings : dsayings ≤ 8) (hdslugs : dslugs ≤ 4) (hdacts : dacts ≤ 30) : MU l yX2_clear cX2_clear 1 none 0 D k z [.ref (o 2)] [((o 2), .inr (2, [.int dlines, .int (nI dhours), .int dlaw, .int dodds, .int (nI drows), .int (nI dheads), .int (nI dsayings), .int (nI dslugs), .int (nI dacts), .ref (o 16), .ref (o 17), .ref (o 18), .ref (o 19), .ref (o 20), .ref (o 21), .ref (o 22), .ref (o 23), .ref (o 24), .ref (o 25)]))] 0 0 (Uv D (fun u : (Nat → Int32) × (Nat → Nat) × (Nat → Nat → Int32) × (Nat → Nat → Int64) × (Nat → Int64) => (u.2.1 0 ≤ 16) ∧ (u.2.1 1 ≤ 4) ∧ (u.2.1 2 ≤ 12) ∧ (u.2.1 3 ≤ 8) ∧ (u.2.1 4 ≤ 4) ∧ (u.2.1 5 ≤ 30)) (fun u : (Nat → Int32) × (Nat → Nat) × (Nat → Nat → Int32) × (Nat → Nat → Int64) × (Nat → Int64) => [((o 2), .inr (2, [.int (u.1 0), .int (nI (u.2.1 0)), .int (u.1 1), .int (u.1 2), .int (nI (u.2.1 1)), .int (nI (u.2.1 2)), .int (nI (u.2.1 3)), .int (nI (u.2.1 4)), .int (nI (u.2.1 5)), .ref (o 16), .ref (o 17), .ref (o 18), .ref (o 19), .ref (o 20), .ref (o 21), .ref (o 22), .ref (o 23), .ref (o 24), .ref (o 25)]))])) := by
  refine MU.of (by decide) (Nat.le_of_ble_eq_true rfl) ?_
  intro p e s m below meth c ls A args Q S hr hlk hnm hQ hK hP hD hZ hA hS hl
  have hx := S.1
  have hb := S.2.1
  have hl : lv_has ls 1 [(0, .ref (o 2))] := hl
  refine lv_aload_n hx hb dX2_clear_0 rfl (lv_at hl 0 rfl) ?_
  refine lv_iconst (v := 0) hx hb dX2_clear_1 (by decide) ?_
  refine x_put (ws' := [((o 2), .inr (2, [.int 0, .int (nI dhours), .int dlaw, .int dodds, .int (nI drows), .int (nI dheads), .int (nI dsayings), .int (nI dslugs), .int (nI dacts), .ref (o 16), .ref (o 17), .ref (o 18), .ref (o 19), .ref (o 20), .ref (o 21), .ref (o 22), .ref (o 23), .ref (o 24), .ref (o 25)]))]) S hK hP hD hS 0 rfl cfX2 0 lkX2_42 (by decide) rfl rfl rfl (Nat.le_of_ble_eq_true rfl) rfl dX2_clear_2 (fun H locs hP hD hS => ?_)
  refine lv_aload_n hx hb dX2_clear_5 rfl (lv_at hl 0 rfl) ?_
  refine lv_iconst (v := 0) hx hb dX2_clear_6 (by decide) ?_
  refine x_put (ws' := [((o 2), .inr (2, [.int 0, .int 0, .int dlaw, .int dodds, .int (nI drows), .int (nI dheads), .int (nI dsayings), .int (nI dslugs), .int (nI dacts), .ref (o 16), .ref (o 17), .ref (o 18), .ref (o 19), .ref (o 20), .ref (o 21), .ref (o 22), .ref (o 23), .ref (o 24), .ref (o 25)]))]) S hK hP hD hS 0 rfl cfX2 1 lkX2_46 (by decide) rfl rfl rfl (Nat.le_of_ble_eq_true rfl) rfl dX2_clear_7 (fun H locs hP hD hS => ?_)
  refine lv_aload_n hx hb dX2_clear_10 rfl (lv_at hl 0 rfl) ?_
  refine lv_iconst (v := 0) hx hb dX2_clear_11 (by decide) ?_
  refine x_put (ws' := [((o 2), .inr (2, [.int 0, .int 0, .int 0, .int dodds, .int (nI drows), .int (nI dheads), .int (nI dsayings), .int (nI dslugs), .int (nI dacts), .ref (o 16), .ref (o 17), .ref (o 18), .ref (o 19), .ref (o 20), .ref (o 21), .ref (o 22), .ref (o 23), .ref (o 24), .ref (o 25)]))]) S hK hP hD hS 0 rfl cfX2 2 lkX2_49 (by decide) rfl rfl rfl (Nat.le_of_ble_eq_true rfl) rfl dX2_clear_12 (fun H locs hP hD hS => ?_)
  refine lv_aload_n hx hb dX2_clear_15 rfl (lv_at hl 0 rfl) ?_
  refine lv_iconst (v := 0) hx hb dX2_clear_16 (by decide) ?_
  refine x_put (ws' := [((o 2), .inr (2, [.int 0, .int 0, .int 0, .int 0, .int (nI drows), .int (nI dheads), .int (nI dsayings), .int (nI dslugs), .int (nI dacts), .ref (o 16), .ref (o 17), .ref (o 18), .ref (o 19), .ref (o 20), .ref (o 21), .ref (o 22), .ref (o 23), .ref (o 24), .ref (o 25)]))]) S hK hP hD hS 0 rfl cfX2 3 lkX2_52 (by decide) rfl rfl rfl (Nat.le_of_ble_eq_true rfl) rfl dX2_clear_17 (fun H locs hP hD hS => ?_)
  refine lv_aload_n hx hb dX2_clear_20 rfl (lv_at hl 0 rfl) ?_
  refine lv_iconst (v := 0) hx hb dX2_clear_21 (by decide) ?_
  refine x_put (ws' := [((o 2), .inr (2, [.int 0, .int 0, .int 0, .int 0, .int 0, .int (nI dheads), .int (nI dsayings), .int (nI dslugs), .int (nI dacts), .ref (o 16), .ref (o 17), .ref (o 18), .ref (o 19), .ref (o 20), .ref (o 21), .ref (o 22), .ref (o 23), .ref (o 24), .ref (o 25)]))]) S hK hP hD hS 0 rfl cfX2 4 lkX2_55 (by decide) rfl rfl rfl (Nat.le_of_ble_eq_true rfl) rfl dX2_clear_22 (fun H locs hP hD hS => ?_)
  refine lv_aload_n hx hb dX2_clear_25 rfl (lv_at hl 0 rfl) ?_
  refine lv_iconst (v := 0) hx hb dX2_clear_26 (by decide) ?_
  refine x_put (ws' := [((o 2), .inr (2, [.int 0, .int 0, .int 0, .int 0, .int 0, .int 0, .int (nI dsayings), .int (nI dslugs), .int (nI dacts), .ref (o 16), .ref (o 17), .ref (o 18), .ref (o 19), .ref (o 20), .ref (o 21), .ref (o 22), .ref (o 23), .ref (o 24), .ref (o 25)]))]) S hK hP hD hS 0 rfl cfX2 5 lkX2_58 (by decide) rfl rfl rfl (Nat.le_of_ble_eq_true rfl) rfl dX2_clear_27 (fun H locs hP hD hS => ?_)
  refine lv_aload_n hx hb dX2_clear_30 rfl (lv_at hl 0 rfl) ?_
  refine lv_iconst (v := 0) hx hb dX2_clear_31 (by decide) ?_
  refine x_put (ws' := [((o 2), .inr (2, [.int 0, .int 0, .int 0, .int 0, .int 0, .int 0, .int 0, .int (nI dslugs), .int (nI dacts), .ref (o 16), .ref (o 17), .ref (o 18), .ref (o 19), .ref (o 20), .ref (o 21), .ref (o 22), .ref (o 23), .ref (o 24), .ref (o 25)]))]) S hK hP hD hS 0 rfl cfX2 6 lkX2_61 (by decide) rfl rfl rfl (Nat.le_of_ble_eq_true rfl) rfl dX2_clear_32 (fun H locs hP hD hS => ?_)
  refine lv_aload_n hx hb dX2_clear_35 rfl (lv_at hl 0 rfl) ?_
  refine lv_iconst (v := 0) hx hb dX2_clear_36 (by decide) ?_
  refine x_put (ws' := [((o 2), .inr (2, [.int 0, .int 0, .int 0, .int 0, .int 0, .int 0, .int 0, .int 0, .int (nI dacts), .ref (o 16), .ref (o 17), .ref (o 18), .ref (o 19), .ref (o 20), .ref (o 21), .ref (o 22), .ref (o 23), .ref (o 24), .ref (o 25)]))]) S hK hP hD hS 0 rfl cfX2 7 lkX2_64 (by decide) rfl rfl rfl (Nat.le_of_ble_eq_true rfl) rfl dX2_clear_37 (fun H locs hP hD hS => ?_)
  refine lv_aload_n hx hb dX2_clear_40 rfl (lv_at hl 0 rfl) ?_
  refine lv_iconst (v := 0) hx hb dX2_clear_41 (by decide) ?_
  refine x_put (ws' := [((o 2), .inr (2, [.int 0, .int 0, .int 0, .int 0, .int 0, .int 0, .int 0, .int 0, .int 0, .ref (o 16), .ref (o 17), .ref (o 18), .ref (o 19), .ref (o 20), .ref (o 21), .ref (o 22), .ref (o 23), .ref (o 24), .ref (o 25)]))]) S hK hP hD hS 0 rfl cfX2 8 lkX2_67 (by decide) rfl rfl rfl (Nat.le_of_ble_eq_true rfl) rfl dX2_clear_42 (fun H locs hP hD hS => ?_)
  exact x_retv S hr hlk hQ hS ((fun i => ([0, 0, 0] : List (Int32)).getD i 0), (fun i => ([0, 0, 0, 0, 0, 0] : List (Nat)).getD i 0), (fun i => ([] : List (Nat → Int32)).getD i (fun _ => 0)), (fun i => ([] : List (Nat → Int64)).getD i (fun _ => 0)), (fun i => ([] : List (Int64)).getD i 0)) ⟨(show 0 ≤ 16 by omega), (show 0 ≤ 4 by omega), (show 0 ≤ 12 by omega), (show 0 ≤ 8 by omega), (show 0 ≤ 4 by omega), (show 0 ≤ 30 by omega)⟩ (x_B hP hD) dX2_clear_45

set_option maxHeartbeats 4000000 in
set_option maxRecDepth 100000 in
theorem ctX2_openRow (l : Launch) (D : va_G) (k : Nat → ClassId) (z : Nat → Nat) (o : Nat → Nat) (dlines : Int32) (dhours : Nat) (dlaw : Int32) (dodds : Int32) (drows : Nat) (dheads : Nat) (dsayings : Nat) (dslugs : Nat) (dacts : Nat) (f22 : Nat → Int32) (hdhours : dhours ≤ 16) (hdrows : drows ≤ 4) (hdheads : dheads ≤ 12) (hdsayings : dsayings ≤ 8) (hdslugs : dslugs ≤ 4) (hdacts : dacts ≤ 30) : MU l yX2_openRow cX2_openRow 1 none 0 D k z [.ref (o 2)] [((o 2), .inr (2, [.int dlines, .int (nI dhours), .int dlaw, .int dodds, .int (nI drows), .int (nI dheads), .int (nI dsayings), .int (nI dslugs), .int (nI dacts), .ref (o 16), .ref (o 17), .ref (o 18), .ref (o 19), .ref (o 20), .ref (o 21), .ref (o 22), .ref (o 23), .ref (o 24), .ref (o 25)])), ((o 22), .inl (k 0, 4, .inl f22))] 0 0 (Uv D (fun u : (Nat → Int32) × (Nat → Nat) × (Nat → Nat → Int32) × (Nat → Nat → Int64) × (Nat → Int64) => (u.2.1 0 ≤ 4)) (fun u : (Nat → Int32) × (Nat → Nat) × (Nat → Nat → Int32) × (Nat → Nat → Int64) × (Nat → Int64) => [((o 2), .inr (2, [.int dlines, .int (nI dhours), .int dlaw, .int dodds, .int (nI (u.2.1 0)), .int (nI dheads), .int (nI dsayings), .int (nI dslugs), .int (nI dacts), .ref (o 16), .ref (o 17), .ref (o 18), .ref (o 19), .ref (o 20), .ref (o 21), .ref (o 22), .ref (o 23), .ref (o 24), .ref (o 25)])), ((o 22), .inl (k 0, 4, .inl (u.2.2.1 0)))])) := by
  refine MU.of (by decide) (Nat.le_of_ble_eq_true rfl) ?_
  intro p e s m below meth c ls A args Q S hr hlk hnm hQ hK hP hD hZ hA hS hl
  have hx := S.1
  have hb := S.2.1
  have hl : lv_has ls 1 [(0, .ref (o 2))] := hl
  refine lv_aload_n hx hb dX2_openRow_0 rfl (lv_at hl 0 rfl) ?_
  refine x_get S hK hP 0 rfl cfX2 4 lkX2_55 (by decide) rfl dX2_openRow_1 ?_
  refine lv_iconst (v := 4) hx hb dX2_openRow_4 (by decide) ?_
  refine lv_icmp_ge (tgt := 28) hx hb dX2_openRow_5 (by decide) (fun c_1 => ?_) (fun c_1 => ?_)
  · skip
    have c_1 : 4 ≤ drows := (ni_le (by decide) rfl (by omega) (by omega)).mp c_1
    exact x_retv S hr hlk hQ hS ((fun i => ([] : List (Int32)).getD i 0), (fun i => ([drows] : List (Nat)).getD i 0), (fun i => ([f22] : List (Nat → Int32)).getD i (fun _ => 0)), (fun i => ([] : List (Nat → Int64)).getD i (fun _ => 0)), (fun i => ([] : List (Int64)).getD i 0)) (show drows ≤ 4 by omega) (x_B hP hD) dX2_openRow_28
  · skip
    have c_1 : ¬ 4 ≤ drows := fun q => c_1 ((ni_le (by decide) rfl (by omega) (by omega)).mpr q)
    refine lv_aload_n hx hb dX2_openRow_8 rfl (lv_at hl 0 rfl) ?_
    refine x_get S hK hP 0 rfl cfX2 15 lkX2_30 (by decide) rfl dX2_openRow_9 ?_
    refine lv_aload_n hx hb dX2_openRow_12 rfl (lv_at hl 0 rfl) ?_
    refine x_get S hK hP 0 rfl cfX2 4 lkX2_55 (by decide) rfl dX2_openRow_13 ?_
    refine lv_iconst (v := 0) hx hb dX2_openRow_16 (by decide) ?_
    refine x_iast (ws' := fun f_2 => [((o 2), .inr (2, [.int dlines, .int (nI dhours), .int dlaw, .int dodds, .int (nI drows), .int (nI dheads), .int (nI dsayings), .int (nI dslugs), .int (nI dacts), .ref (o 16), .ref (o 17), .ref (o 18), .ref (o 19), .ref (o 20), .ref (o 21), .ref (o 22), .ref (o 23), .ref (o 24), .ref (o 25)])), ((o 22), .inl (k 0, 4, .inl f_2))]) S hK hP hD hS 1 rfl (vp_in_nI (by omega) (by decide)) (fun _ => rfl) dX2_openRow_17 (fun f_2 H locs ef_2 hP hD hS => ?_)
    refine lv_aload_n hx hb dX2_openRow_18 rfl (lv_at hl 0 rfl) ?_
    refine lv_dup hx hb dX2_openRow_19 rfl ?_
    refine x_get S hK hP 0 rfl cfX2 4 lkX2_55 (by decide) rfl dX2_openRow_20 ?_
    refine lv_iconst (v := 1) hx hb dX2_openRow_23 (by decide) ?_
    refine lv_iadd hx hb dX2_openRow_24 ?_
    refine x_is (nI (drows + 1)) (ni_add rfl (by decide)) ?_
    refine x_put (ws' := [((o 2), .inr (2, [.int dlines, .int (nI dhours), .int dlaw, .int dodds, .int (nI (drows + 1)), .int (nI dheads), .int (nI dsayings), .int (nI dslugs), .int (nI dacts), .ref (o 16), .ref (o 17), .ref (o 18), .ref (o 19), .ref (o 20), .ref (o 21), .ref (o 22), .ref (o 23), .ref (o 24), .ref (o 25)])), ((o 22), .inl (k 0, 4, .inl f_2))]) S hK hP hD hS 0 rfl cfX2 4 lkX2_55 (by decide) rfl rfl rfl (Nat.le_of_ble_eq_true rfl) rfl dX2_openRow_25 (fun H locs hP hD hS => ?_)
    exact x_retv S hr hlk hQ hS ((fun i => ([] : List (Int32)).getD i 0), (fun i => ([drows + 1] : List (Nat)).getD i 0), (fun i => ([f_2] : List (Nat → Int32)).getD i (fun _ => 0)), (fun i => ([] : List (Nat → Int64)).getD i (fun _ => 0)), (fun i => ([] : List (Int64)).getD i 0)) (show drows + 1 ≤ 4 by omega) (x_B hP hD) dX2_openRow_28

set_option maxHeartbeats 4000000 in
set_option maxRecDepth 100000 in
theorem ctX2_plant (l : Launch) (D : va_G) (k : Nat → ClassId) (z : Nat → Nat) (o : Nat → Nat) (dlines : Int32) (dhours : Nat) (dlaw : Int32) (dodds : Int32) (drows : Nat) (dheads : Nat) (dsayings : Nat) (dslugs : Nat) (dacts : Nat) (f16 : Nat → Int32) (f17 : Nat → Int32) (f18 : Nat → Int32) (f19 : Nat → Int32) (f22 : Nat → Int32) (p0 : Int32) (p1 : Int32) (hdhours : dhours ≤ 16) (hdrows : drows ≤ 4) (hdheads : dheads ≤ 12) (hdsayings : dsayings ≤ 8) (hdslugs : dslugs ≤ 4) (hdacts : dacts ≤ 30) : MU l yX2_plant cX2_plant 4 none 1 D k z [.ref (o 2), .int p0, .int p1] [((o 2), .inr (2, [.int dlines, .int (nI dhours), .int dlaw, .int dodds, .int (nI drows), .int (nI dheads), .int (nI dsayings), .int (nI dslugs), .int (nI dacts), .ref (o 16), .ref (o 17), .ref (o 18), .ref (o 19), .ref (o 20), .ref (o 21), .ref (o 22), .ref (o 23), .ref (o 24), .ref (o 25)])), ((o 16), .inl (k 0, 12, .inl f16)), ((o 17), .inl (k 0, 12, .inl f17)), ((o 18), .inl (k 0, 12, .inl f18)), ((o 19), .inl (k 0, 12, .inl f19)), ((o 22), .inl (k 0, 4, .inl f22))] 0 0 (Uv D (fun u : (Nat → Int32) × (Nat → Nat) × (Nat → Nat → Int32) × (Nat → Nat → Int64) × (Nat → Int64) => (u.2.1 0 ≤ 12)) (fun u : (Nat → Int32) × (Nat → Nat) × (Nat → Nat → Int32) × (Nat → Nat → Int64) × (Nat → Int64) => [((o 2), .inr (2, [.int dlines, .int (nI dhours), .int dlaw, .int dodds, .int (nI drows), .int (nI (u.2.1 0)), .int (nI dsayings), .int (nI dslugs), .int (nI dacts), .ref (o 16), .ref (o 17), .ref (o 18), .ref (o 19), .ref (o 20), .ref (o 21), .ref (o 22), .ref (o 23), .ref (o 24), .ref (o 25)])), ((o 16), .inl (k 0, 12, .inl (u.2.2.1 0))), ((o 17), .inl (k 0, 12, .inl (u.2.2.1 1))), ((o 18), .inl (k 0, 12, .inl (u.2.2.1 2))), ((o 19), .inl (k 0, 12, .inl (u.2.2.1 3))), ((o 22), .inl (k 0, 4, .inl (u.2.2.1 4)))])) := by
  refine MU.of (by decide) (Nat.le_of_ble_eq_true rfl) ?_
  intro p e s m below meth c ls A args Q S hr hlk hnm hQ hK hP hD hZ hA hS hl
  have hx := S.1
  have hb := S.2.1
  have hl : lv_has ls 4 [(0, .ref (o 2)), (1, .int p0), (2, .int p1)] := hl
  refine lv_aload_n hx hb dX2_plant_0 rfl (lv_at hl 0 rfl) ?_
  refine x_get S hK hP 0 rfl cfX2 5 lkX2_58 (by decide) rfl dX2_plant_1 ?_
  refine lv_bipush (v := 12) hx hb dX2_plant_4 (by decide) ?_
  refine lv_icmp_ge (tgt := 16) hx hb dX2_plant_6 (by decide) (fun c_1 => ?_) (fun c_1 => ?_)
  · skip
    have c_1 : 12 ≤ dheads := (ni_le (by decide) rfl (by omega) (by omega)).mp c_1
    exact x_retv S hr hlk hQ hS ((fun i => ([] : List (Int32)).getD i 0), (fun i => ([dheads] : List (Nat)).getD i 0), (fun i => ([f16, f17, f18, f19, f22] : List (Nat → Int32)).getD i (fun _ => 0)), (fun i => ([] : List (Nat → Int64)).getD i (fun _ => 0)), (fun i => ([] : List (Int64)).getD i 0)) (show dheads ≤ 12 by omega) (x_B hP hD) dX2_plant_16
  · skip
    have c_1 : ¬ 12 ≤ dheads := fun q => c_1 ((ni_le (by decide) rfl (by omega) (by omega)).mpr q)
    refine lv_aload_n hx hb dX2_plant_9 rfl (lv_at hl 0 rfl) ?_
    refine x_get S hK hP 0 rfl cfX2 4 lkX2_55 (by decide) rfl dX2_plant_10 ?_
    refine lv_if_ne (tgt := 17) hx hb dX2_plant_13 (by decide) (fun c_2 => ?_) (fun c_2 => ?_)
    · skip
      have c_2 : ¬ drows = 0 := fun q => c_2 ((ni_eq rfl (by decide) (by omega) (by omega)).mpr q)
      refine lv_aload_n hx hb dX2_plant_17 rfl (lv_at hl 0 rfl) ?_
      refine x_get S hK hP 0 rfl cfX2 4 lkX2_55 (by decide) rfl dX2_plant_18 ?_
      refine lv_iconst (v := 1) hx hb dX2_plant_21 (by decide) ?_
      refine lv_isub hx hb dX2_plant_22 ?_
      refine x_is (nI (drows - 1)) (ni_sub rfl (by decide) (by omega)) ?_
      refine lv_istore_n (lv' := [(3, .int (nI (drows - 1))), (0, .ref (o 2)), (1, .int p0), (2, .int p1)]) hx hb dX2_plant_23 rfl hl (by decide) rfl (fun ls hl => ?_)
      refine lv_aload_n hx hb dX2_plant_24 rfl (lv_at hl 1 rfl) ?_
      refine x_get S hK hP 0 rfl cfX2 9 lkX2_9 (by decide) rfl dX2_plant_25 ?_
      refine lv_aload_n hx hb dX2_plant_28 rfl (lv_at hl 1 rfl) ?_
      refine x_get S hK hP 0 rfl cfX2 5 lkX2_58 (by decide) rfl dX2_plant_29 ?_
      refine lv_iload_n hx hb dX2_plant_32 rfl (lv_at hl 2 rfl) ?_
      refine x_iast (ws' := fun f_3 => [((o 2), .inr (2, [.int dlines, .int (nI dhours), .int dlaw, .int dodds, .int (nI drows), .int (nI dheads), .int (nI dsayings), .int (nI dslugs), .int (nI dacts), .ref (o 16), .ref (o 17), .ref (o 18), .ref (o 19), .ref (o 20), .ref (o 21), .ref (o 22), .ref (o 23), .ref (o 24), .ref (o 25)])), ((o 16), .inl (k 0, 12, .inl f_3)), ((o 17), .inl (k 0, 12, .inl f17)), ((o 18), .inl (k 0, 12, .inl f18)), ((o 19), .inl (k 0, 12, .inl f19)), ((o 22), .inl (k 0, 4, .inl f22))]) S hK hP hD hS 1 rfl (vp_in_nI (by omega) (by decide)) (fun _ => rfl) dX2_plant_33 (fun f_3 H locs ef_3 hP hD hS => ?_)
      refine lv_aload_n hx hb dX2_plant_34 rfl (lv_at hl 1 rfl) ?_
      refine x_get S hK hP 0 rfl cfX2 10 lkX2_15 (by decide) rfl dX2_plant_35 ?_
      refine lv_aload_n hx hb dX2_plant_38 rfl (lv_at hl 1 rfl) ?_
      refine x_get S hK hP 0 rfl cfX2 5 lkX2_58 (by decide) rfl dX2_plant_39 ?_
      refine lv_iload_n hx hb dX2_plant_42 rfl (lv_at hl 3 rfl) ?_
      refine x_iast (ws' := fun f_4 => [((o 2), .inr (2, [.int dlines, .int (nI dhours), .int dlaw, .int dodds, .int (nI drows), .int (nI dheads), .int (nI dsayings), .int (nI dslugs), .int (nI dacts), .ref (o 16), .ref (o 17), .ref (o 18), .ref (o 19), .ref (o 20), .ref (o 21), .ref (o 22), .ref (o 23), .ref (o 24), .ref (o 25)])), ((o 16), .inl (k 0, 12, .inl f_3)), ((o 17), .inl (k 0, 12, .inl f_4)), ((o 18), .inl (k 0, 12, .inl f18)), ((o 19), .inl (k 0, 12, .inl f19)), ((o 22), .inl (k 0, 4, .inl f22))]) S hK hP hD hS 2 rfl (vp_in_nI (by omega) (by decide)) (fun _ => rfl) dX2_plant_43 (fun f_4 H locs ef_4 hP hD hS => ?_)
      refine lv_aload_n hx hb dX2_plant_44 rfl (lv_at hl 1 rfl) ?_
      refine x_get S hK hP 0 rfl cfX2 11 lkX2_18 (by decide) rfl dX2_plant_45 ?_
      refine lv_aload_n hx hb dX2_plant_48 rfl (lv_at hl 1 rfl) ?_
      refine x_get S hK hP 0 rfl cfX2 5 lkX2_58 (by decide) rfl dX2_plant_49 ?_
      refine lv_iload_n hx hb dX2_plant_52 rfl (lv_at hl 0 rfl) ?_
      refine x_iast (ws' := fun f_5 => [((o 2), .inr (2, [.int dlines, .int (nI dhours), .int dlaw, .int dodds, .int (nI drows), .int (nI dheads), .int (nI dsayings), .int (nI dslugs), .int (nI dacts), .ref (o 16), .ref (o 17), .ref (o 18), .ref (o 19), .ref (o 20), .ref (o 21), .ref (o 22), .ref (o 23), .ref (o 24), .ref (o 25)])), ((o 16), .inl (k 0, 12, .inl f_3)), ((o 17), .inl (k 0, 12, .inl f_4)), ((o 18), .inl (k 0, 12, .inl f_5)), ((o 19), .inl (k 0, 12, .inl f19)), ((o 22), .inl (k 0, 4, .inl f22))]) S hK hP hD hS 3 rfl (vp_in_nI (by omega) (by decide)) (fun _ => rfl) dX2_plant_53 (fun f_5 H locs ef_5 hP hD hS => ?_)
      refine lv_aload_n hx hb dX2_plant_54 rfl (lv_at hl 1 rfl) ?_
      refine x_get S hK hP 0 rfl cfX2 12 lkX2_21 (by decide) rfl dX2_plant_55 ?_
      refine lv_aload_n hx hb dX2_plant_58 rfl (lv_at hl 1 rfl) ?_
      refine x_get S hK hP 0 rfl cfX2 5 lkX2_58 (by decide) rfl dX2_plant_59 ?_
      refine lv_aload_n hx hb dX2_plant_62 rfl (lv_at hl 1 rfl) ?_
      refine x_get S hK hP 0 rfl cfX2 15 lkX2_30 (by decide) rfl dX2_plant_63 ?_
      refine lv_iload_n hx hb dX2_plant_66 rfl (lv_at hl 0 rfl) ?_
      refine x_iald S hK hP 5 rfl (vp_in_nI (by omega) (by decide)) dX2_plant_67 ?_
      refine lv_topi (fun v_6 ev_6 => ?_)
      refine x_roSi (As := [.int v_6]) S hK hP hD hZ (fun _ h => h) hA hS hA hl mwJ6_bitCount_0f7a4 lkX2_76 (ctJ6_bitCount_0f7a4 l D k z v_6 ) [] rfl (by decide) rfl rfl ⟨Nat.le_of_ble_eq_true rfl, Nat.le_of_ble_eq_true rfl, Nat.le_of_ble_eq_true rfl⟩ dX2_plant_68 ⟨Nat.le_of_ble_eq_true rfl, Nat.le_of_ble_eq_true rfl⟩ (fun r_7 H locs hr_7 hP hS => ?_)
      obtain ⟨n_9, rfl, hn_9⟩ := hr_7
      refine x_iast (ws' := fun f_10 => [((o 2), .inr (2, [.int dlines, .int (nI dhours), .int dlaw, .int dodds, .int (nI drows), .int (nI dheads), .int (nI dsayings), .int (nI dslugs), .int (nI dacts), .ref (o 16), .ref (o 17), .ref (o 18), .ref (o 19), .ref (o 20), .ref (o 21), .ref (o 22), .ref (o 23), .ref (o 24), .ref (o 25)])), ((o 16), .inl (k 0, 12, .inl f_3)), ((o 17), .inl (k 0, 12, .inl f_4)), ((o 18), .inl (k 0, 12, .inl f_5)), ((o 19), .inl (k 0, 12, .inl f_10)), ((o 22), .inl (k 0, 4, .inl f22))]) S hK hP hD hS 4 rfl (vp_in_nI (by omega) (by decide)) (fun _ => rfl) dX2_plant_71 (fun f_10 H locs ef_10 hP hD hS => ?_)
      refine lv_aload_n hx hb dX2_plant_72 rfl (lv_at hl 1 rfl) ?_
      refine x_get S hK hP 0 rfl cfX2 15 lkX2_30 (by decide) rfl dX2_plant_73 ?_
      refine lv_iload_n hx hb dX2_plant_76 rfl (lv_at hl 0 rfl) ?_
      refine lv_dup2_11 hx hb dX2_plant_77 rfl rfl ?_
      refine x_iald S hK hP 5 rfl (vp_in_nI (by omega) (by decide)) dX2_plant_78 ?_
      refine lv_topi (fun v_11 ev_11 => ?_)
      refine lv_iconst (v := 1) hx hb dX2_plant_79 (by decide) ?_
      refine lv_aload_n hx hb dX2_plant_80 rfl (lv_at hl 1 rfl) ?_
      refine x_get S hK hP 0 rfl cfX2 5 lkX2_58 (by decide) rfl dX2_plant_81 ?_
      refine lv_ishl hx hb dX2_plant_84 ?_
      refine lv_topi (fun v_12 ev_12 => ?_)
      refine lv_ior hx hb dX2_plant_85 ?_
      refine lv_topi (fun v_13 ev_13 => ?_)
      refine x_iast (ws' := fun f_14 => [((o 2), .inr (2, [.int dlines, .int (nI dhours), .int dlaw, .int dodds, .int (nI drows), .int (nI dheads), .int (nI dsayings), .int (nI dslugs), .int (nI dacts), .ref (o 16), .ref (o 17), .ref (o 18), .ref (o 19), .ref (o 20), .ref (o 21), .ref (o 22), .ref (o 23), .ref (o 24), .ref (o 25)])), ((o 16), .inl (k 0, 12, .inl f_3)), ((o 17), .inl (k 0, 12, .inl f_4)), ((o 18), .inl (k 0, 12, .inl f_5)), ((o 19), .inl (k 0, 12, .inl f_10)), ((o 22), .inl (k 0, 4, .inl f_14))]) S hK hP hD hS 5 rfl (vp_in_nI (by omega) (by decide)) (fun _ => rfl) dX2_plant_86 (fun f_14 H locs ef_14 hP hD hS => ?_)
      refine lv_aload_n hx hb dX2_plant_87 rfl (lv_at hl 1 rfl) ?_
      refine lv_dup hx hb dX2_plant_88 rfl ?_
      refine x_get S hK hP 0 rfl cfX2 5 lkX2_58 (by decide) rfl dX2_plant_89 ?_
      refine lv_iconst (v := 1) hx hb dX2_plant_92 (by decide) ?_
      refine lv_iadd hx hb dX2_plant_93 ?_
      refine x_is (nI (dheads + 1)) (ni_add rfl (by decide)) ?_
      refine x_put (ws' := [((o 2), .inr (2, [.int dlines, .int (nI dhours), .int dlaw, .int dodds, .int (nI drows), .int (nI (dheads + 1)), .int (nI dsayings), .int (nI dslugs), .int (nI dacts), .ref (o 16), .ref (o 17), .ref (o 18), .ref (o 19), .ref (o 20), .ref (o 21), .ref (o 22), .ref (o 23), .ref (o 24), .ref (o 25)])), ((o 16), .inl (k 0, 12, .inl f_3)), ((o 17), .inl (k 0, 12, .inl f_4)), ((o 18), .inl (k 0, 12, .inl f_5)), ((o 19), .inl (k 0, 12, .inl f_10)), ((o 22), .inl (k 0, 4, .inl f_14))]) S hK hP hD hS 0 rfl cfX2 5 lkX2_58 (by decide) rfl rfl rfl (Nat.le_of_ble_eq_true rfl) rfl dX2_plant_94 (fun H locs hP hD hS => ?_)
      exact x_retv S hr hlk hQ hS ((fun i => ([] : List (Int32)).getD i 0), (fun i => ([dheads + 1] : List (Nat)).getD i 0), (fun i => ([f_3, f_4, f_5, f_10, f_14] : List (Nat → Int32)).getD i (fun _ => 0)), (fun i => ([] : List (Nat → Int64)).getD i (fun _ => 0)), (fun i => ([] : List (Int64)).getD i 0)) (show dheads + 1 ≤ 12 by omega) (x_B hP hD) dX2_plant_97
    · skip
      have c_2 : drows = 0 := (ni_eq rfl (by decide) (by omega) (by omega)).mp c_2
      exact x_retv S hr hlk hQ hS ((fun i => ([] : List (Int32)).getD i 0), (fun i => ([dheads] : List (Nat)).getD i 0), (fun i => ([f16, f17, f18, f19, f22] : List (Nat → Int32)).getD i (fun _ => 0)), (fun i => ([] : List (Nat → Int64)).getD i (fun _ => 0)), (fun i => ([] : List (Int64)).getD i 0)) (show dheads ≤ 12 by omega) (x_B hP hD) dX2_plant_16

set_option maxHeartbeats 4000000 in
set_option maxRecDepth 100000 in
theorem ctX2_findNeighbours (l : Launch) (D : va_G) (k : Nat → ClassId) (z : Nat → Nat) (o : Nat → Nat) (dlines : Int32) (dhours : Nat) (dlaw : Int32) (dodds : Int32) (drows : Nat) (dheads : Nat) (dsayings : Nat) (dslugs : Nat) (dacts : Nat) (f18 : Nat → Int32) (f19 : Nat → Int32) (f20 : Nat → Int32) (f21 : Nat → Int32) (hdhours : dhours ≤ 16) (hdrows : drows ≤ 4) (hdheads : dheads ≤ 12) (hdsayings : dsayings ≤ 8) (hdslugs : dslugs ≤ 4) (hdacts : dacts ≤ 30) : MU l yX2_findNeighbours cX2_findNeighbours 5 none 1 D k z [.ref (o 2)] [((o 2), .inr (2, [.int dlines, .int (nI dhours), .int dlaw, .int dodds, .int (nI drows), .int (nI dheads), .int (nI dsayings), .int (nI dslugs), .int (nI dacts), .ref (o 16), .ref (o 17), .ref (o 18), .ref (o 19), .ref (o 20), .ref (o 21), .ref (o 22), .ref (o 23), .ref (o 24), .ref (o 25)])), ((o 18), .inl (k 0, 12, .inl f18)), ((o 19), .inl (k 0, 12, .inl f19)), ((o 20), .inl (k 0, 12, .inl f20)), ((o 21), .inl (k 0, 12, .inl f21))] 0 0 (Uv D (fun _ : (Nat → Int32) × (Nat → Nat) × (Nat → Nat → Int32) × (Nat → Nat → Int64) × (Nat → Int64) => True) (fun u : (Nat → Int32) × (Nat → Nat) × (Nat → Nat → Int32) × (Nat → Nat → Int64) × (Nat → Int64) => [((o 2), .inr (2, [.int dlines, .int (nI dhours), .int dlaw, .int dodds, .int (nI drows), .int (nI dheads), .int (nI dsayings), .int (nI dslugs), .int (nI dacts), .ref (o 16), .ref (o 17), .ref (o 18), .ref (o 19), .ref (o 20), .ref (o 21), .ref (o 22), .ref (o 23), .ref (o 24), .ref (o 25)])), ((o 18), .inl (k 0, 12, .inl f18)), ((o 19), .inl (k 0, 12, .inl f19)), ((o 20), .inl (k 0, 12, .inl (u.2.2.1 0))), ((o 21), .inl (k 0, 12, .inl (u.2.2.1 1)))])) := by
  refine MU.of (by decide) (Nat.le_of_ble_eq_true rfl) ?_
  intro p e s m below meth c ls A args Q S hr hlk hnm hQ hK hP hD hZ hA hS hl
  have hx := S.1
  have hb := S.2.1
  have hl : lv_has ls 5 [(0, .ref (o 2))] := hl
  refine lv_iconst (v := 0) hx hb dX2_findNeighbours_0 (by decide) ?_
  refine lv_istore_n (lv' := [(1, .int 0), (0, .ref (o 2))]) hx hb dX2_findNeighbours_1 rfl hl (by decide) rfl (fun ls hl => ?_)
  have lp_167 : ∀ (nn j_164 : Nat) (g_165 : Nat → Int32) (g_166 : Nat → Int32) (H : Heap) (locs : List Loc) (ls : Array Slot), j_164 ≤ dheads → dheads - j_164 < nn → va_P D vwCl [((o 2), .inr (2, [.int dlines, .int (nI dhours), .int dlaw, .int dodds, .int (nI drows), .int (nI dheads), .int (nI dsayings), .int (nI dslugs), .int (nI dacts), .ref (o 16), .ref (o 17), .ref (o 18), .ref (o 19), .ref (o 20), .ref (o 21), .ref (o 22), .ref (o 23), .ref (o 24), .ref (o 25)])), ((o 18), .inl (k 0, 12, .inl f18)), ((o 19), .inl (k 0, 12, .inl f19)), ((o 20), .inl (k 0, 12, .inl g_165)), ((o 21), .inl (k 0, 12, .inl g_166))] H → va_D A [((o 2), .inr (2, [.int dlines, .int (nI dhours), .int dlaw, .int dodds, .int (nI drows), .int (nI dheads), .int (nI dsayings), .int (nI dslugs), .int (nI dacts), .ref (o 16), .ref (o 17), .ref (o 18), .ref (o 19), .ref (o 20), .ref (o 21), .ref (o 22), .ref (o 23), .ref (o 24), .ref (o 25)])), ((o 18), .inl (k 0, 12, .inl f18)), ((o 19), .inl (k 0, 12, .inl f19)), ((o 20), .inl (k 0, 12, .inl g_165)), ((o 21), .inl (k 0, 12, .inl g_166))] → va_S A s.heap H locs → lv_has ls 5 [(1, .int (nI j_164)), (0, .ref (o 2))] → W p l e (Rm 1 0 0) s m args below meth c H locs 0 0 Q (F0 m 2 ls []) := by
    intro nn
    induction nn with
    | zero => intro j_164 g_165 g_166 H locs ls hjj_164 hnj_164; exact absurd hnj_164 (by omega)
    | succ nn ihj_164 =>
      intro j_164 g_165 g_166 H locs ls hjj_164 hnj_164 hP hD hS hl
      refine lv_iload_n hx hb dX2_findNeighbours_2 rfl (lv_at hl 0 rfl) ?_
      refine lv_aload_n hx hb dX2_findNeighbours_3 rfl (lv_at hl 1 rfl) ?_
      refine x_get S hK hP 0 rfl cfX2 5 lkX2_58 (by decide) rfl dX2_findNeighbours_4 ?_
      refine lv_icmp_ge (tgt := 123) hx hb dX2_findNeighbours_7 (by decide) (fun c_168 => ?_) (fun c_168 => ?_)
      · skip
        have c_168 : dheads ≤ j_164 := (ni_le rfl rfl (by omega) (by omega)).mp c_168
        exact x_retv S hr hlk hQ hS ((fun i => ([] : List (Int32)).getD i 0), (fun i => ([] : List (Nat)).getD i 0), (fun i => ([g_165, g_166] : List (Nat → Int32)).getD i (fun _ => 0)), (fun i => ([] : List (Nat → Int64)).getD i (fun _ => 0)), (fun i => ([] : List (Int64)).getD i 0)) trivial (x_B hP hD) dX2_findNeighbours_123
      · skip
        have c_168 : ¬ dheads ≤ j_164 := fun q => c_168 ((ni_le rfl rfl (by omega) (by omega)).mpr q)
        refine lv_aload_n hx hb dX2_findNeighbours_10 rfl (lv_at hl 1 rfl) ?_
        refine x_get S hK hP 0 rfl cfX2 14 lkX2_27 (by decide) rfl dX2_findNeighbours_11 ?_
        refine lv_iload_n hx hb dX2_findNeighbours_14 rfl (lv_at hl 0 rfl) ?_
        refine lv_iconst (v := 0) hx hb dX2_findNeighbours_15 (by decide) ?_
        refine x_iast (ws' := fun f_169 => [((o 2), .inr (2, [.int dlines, .int (nI dhours), .int dlaw, .int dodds, .int (nI drows), .int (nI dheads), .int (nI dsayings), .int (nI dslugs), .int (nI dacts), .ref (o 16), .ref (o 17), .ref (o 18), .ref (o 19), .ref (o 20), .ref (o 21), .ref (o 22), .ref (o 23), .ref (o 24), .ref (o 25)])), ((o 18), .inl (k 0, 12, .inl f18)), ((o 19), .inl (k 0, 12, .inl f19)), ((o 20), .inl (k 0, 12, .inl g_165)), ((o 21), .inl (k 0, 12, .inl f_169))]) S hK hP hD hS 4 rfl (vp_in_nI (by omega) (by decide)) (fun _ => rfl) dX2_findNeighbours_16 (fun f_169 H locs ef_169 hP hD hS => ?_)
        refine lv_aload_n hx hb dX2_findNeighbours_17 rfl (lv_at hl 1 rfl) ?_
        refine x_get S hK hP 0 rfl cfX2 13 lkX2_24 (by decide) rfl dX2_findNeighbours_18 ?_
        refine lv_iload_n hx hb dX2_findNeighbours_21 rfl (lv_at hl 0 rfl) ?_
        refine lv_iconst (v := 0) hx hb dX2_findNeighbours_22 (by decide) ?_
        refine x_iast (ws' := fun f_170 => [((o 2), .inr (2, [.int dlines, .int (nI dhours), .int dlaw, .int dodds, .int (nI drows), .int (nI dheads), .int (nI dsayings), .int (nI dslugs), .int (nI dacts), .ref (o 16), .ref (o 17), .ref (o 18), .ref (o 19), .ref (o 20), .ref (o 21), .ref (o 22), .ref (o 23), .ref (o 24), .ref (o 25)])), ((o 18), .inl (k 0, 12, .inl f18)), ((o 19), .inl (k 0, 12, .inl f19)), ((o 20), .inl (k 0, 12, .inl f_170)), ((o 21), .inl (k 0, 12, .inl f_169))]) S hK hP hD hS 3 rfl (vp_in_nI (by omega) (by decide)) (fun _ => rfl) dX2_findNeighbours_23 (fun f_170 H locs ef_170 hP hD hS => ?_)
        refine lv_iconst (v := 0) hx hb dX2_findNeighbours_24 (by decide) ?_
        refine lv_istore_n (lv' := [(2, .int 0), (1, .int (nI j_164)), (0, .ref (o 2))]) hx hb dX2_findNeighbours_25 rfl hl (by decide) rfl (fun ls hl => ?_)
        have lp_207 : ∀ (nn j_204 : Nat) (g_205 : Nat → Int32) (g_206 : Nat → Int32) (H : Heap) (locs : List Loc) (ls : Array Slot), j_204 ≤ dheads → dheads - j_204 < nn → va_P D vwCl [((o 2), .inr (2, [.int dlines, .int (nI dhours), .int dlaw, .int dodds, .int (nI drows), .int (nI dheads), .int (nI dsayings), .int (nI dslugs), .int (nI dacts), .ref (o 16), .ref (o 17), .ref (o 18), .ref (o 19), .ref (o 20), .ref (o 21), .ref (o 22), .ref (o 23), .ref (o 24), .ref (o 25)])), ((o 18), .inl (k 0, 12, .inl f18)), ((o 19), .inl (k 0, 12, .inl f19)), ((o 20), .inl (k 0, 12, .inl g_206)), ((o 21), .inl (k 0, 12, .inl g_205))] H → va_D A [((o 2), .inr (2, [.int dlines, .int (nI dhours), .int dlaw, .int dodds, .int (nI drows), .int (nI dheads), .int (nI dsayings), .int (nI dslugs), .int (nI dacts), .ref (o 16), .ref (o 17), .ref (o 18), .ref (o 19), .ref (o 20), .ref (o 21), .ref (o 22), .ref (o 23), .ref (o 24), .ref (o 25)])), ((o 18), .inl (k 0, 12, .inl f18)), ((o 19), .inl (k 0, 12, .inl f19)), ((o 20), .inl (k 0, 12, .inl g_206)), ((o 21), .inl (k 0, 12, .inl g_205))] → va_S A s.heap H locs → lv_has ls 5 [(2, .int (nI j_204)), (1, .int (nI j_164)), (0, .ref (o 2))] → W p l e (Rm 1 0 0) s m args below meth c H locs 0 0 Q (F0 m 26 ls []) := by
          intro nn
          induction nn with
          | zero => intro j_204 g_205 g_206 H locs ls hjj_204 hnj_204; exact absurd hnj_204 (by omega)
          | succ nn ihj_204 =>
            intro j_204 g_205 g_206 H locs ls hjj_204 hnj_204 hP hD hS hl
            refine lv_iload_n hx hb dX2_findNeighbours_26 rfl (lv_at hl 0 rfl) ?_
            refine lv_aload_n hx hb dX2_findNeighbours_27 rfl (lv_at hl 2 rfl) ?_
            refine x_get S hK hP 0 rfl cfX2 5 lkX2_58 (by decide) rfl dX2_findNeighbours_28 ?_
            refine lv_icmp_ge (tgt := 117) hx hb dX2_findNeighbours_31 (by decide) (fun c_208 => ?_) (fun c_208 => ?_)
            · skip
              have c_208 : dheads ≤ j_204 := (ni_le rfl rfl (by omega) (by omega)).mp c_208
              refine lv_iinc (v := (nI (j_164 + 1))) (lv' := [(1, .int (nI (j_164 + 1))), (2, .int (nI j_204)), (0, .ref (o 2))]) hx hb dX2_findNeighbours_117 hl (k := 1) rfl (ni_inc _) (by decide) rfl (fun ls hl => ?_)
              refine lv_goto (tgt := 2) hx hb dX2_findNeighbours_120 (by decide) ?_
              exact ihj_164 (j_164 + 1) g_206 g_205 _ _ _ (by omega) (by omega) hP hD hS (lv_sub hl [0, 2] rfl)
            · skip
              have c_208 : ¬ dheads ≤ j_204 := fun q => c_208 ((ni_le rfl rfl (by omega) (by omega)).mpr q)
              refine lv_aload_n hx hb dX2_findNeighbours_34 rfl (lv_at hl 2 rfl) ?_
              refine x_get S hK hP 0 rfl cfX2 11 lkX2_18 (by decide) rfl dX2_findNeighbours_35 ?_
              refine lv_iload_n hx hb dX2_findNeighbours_38 rfl (lv_at hl 1 rfl) ?_
              refine x_iald S hK hP 1 rfl (vp_in_nI (by omega) (by decide)) dX2_findNeighbours_39 ?_
              refine lv_topi (fun v_209 ev_209 => ?_)
              refine lv_aload_n hx hb dX2_findNeighbours_40 rfl (lv_at hl 2 rfl) ?_
              refine x_get S hK hP 0 rfl cfX2 11 lkX2_18 (by decide) rfl dX2_findNeighbours_41 ?_
              refine lv_iload_n hx hb dX2_findNeighbours_44 rfl (lv_at hl 0 rfl) ?_
              refine x_iald S hK hP 1 rfl (vp_in_nI (by omega) (by decide)) dX2_findNeighbours_45 ?_
              refine lv_topi (fun v_210 ev_210 => ?_)
              refine lv_isub hx hb dX2_findNeighbours_46 ?_
              refine lv_topi (fun v_211 ev_211 => ?_)
              refine x_mabs S hl lkX2_90 (Nat.le_of_ble_eq_true rfl) (Nat.le_of_ble_eq_true rfl) ⟨Nat.le_of_ble_eq_true rfl, Nat.le_of_ble_eq_true rfl⟩ dX2_findNeighbours_47 (fun v_212 ev_212 => ?_)
              refine lv_istore_n (lv' := [(3, .int v_212), (2, .int (nI j_204)), (1, .int (nI j_164)), (0, .ref (o 2))]) hx hb dX2_findNeighbours_50 rfl hl (by decide) rfl (fun ls hl => ?_)
              refine lv_aload_n hx hb dX2_findNeighbours_51 rfl (lv_at hl 3 rfl) ?_
              refine x_get S hK hP 0 rfl cfX2 12 lkX2_21 (by decide) rfl dX2_findNeighbours_52 ?_
              refine lv_iload_n hx hb dX2_findNeighbours_55 rfl (lv_at hl 2 rfl) ?_
              refine x_iald S hK hP 2 rfl (vp_in_nI (by omega) (by decide)) dX2_findNeighbours_56 ?_
              refine lv_topi (fun v_213 ev_213 => ?_)
              refine lv_aload_n hx hb dX2_findNeighbours_57 rfl (lv_at hl 3 rfl) ?_
              refine x_get S hK hP 0 rfl cfX2 12 lkX2_21 (by decide) rfl dX2_findNeighbours_58 ?_
              refine lv_iload_n hx hb dX2_findNeighbours_61 rfl (lv_at hl 1 rfl) ?_
              refine x_iald S hK hP 2 rfl (vp_in_nI (by omega) (by decide)) dX2_findNeighbours_62 ?_
              refine lv_topi (fun v_214 ev_214 => ?_)
              refine lv_isub hx hb dX2_findNeighbours_63 ?_
              refine lv_topi (fun v_215 ev_215 => ?_)
              refine x_mabs S hl lkX2_90 (Nat.le_of_ble_eq_true rfl) (Nat.le_of_ble_eq_true rfl) ⟨Nat.le_of_ble_eq_true rfl, Nat.le_of_ble_eq_true rfl⟩ dX2_findNeighbours_64 (fun v_216 ev_216 => ?_)
              refine lv_istore (lv' := [(4, .int v_216), (3, .int v_212), (2, .int (nI j_204)), (1, .int (nI j_164)), (0, .ref (o 2))]) hx hb dX2_findNeighbours_67 hl (by decide) rfl (fun ls hl => ?_)
              refine lv_iload_n hx hb dX2_findNeighbours_69 rfl (lv_at hl 1 rfl) ?_
              refine lv_iload hx hb dX2_findNeighbours_70 (lv_at hl 0 rfl) ?_
              refine lv_iadd hx hb dX2_findNeighbours_72 ?_
              refine lv_topi (fun v_217 ev_217 => ?_)
              refine lv_iconst (v := 1) hx hb dX2_findNeighbours_73 (by decide) ?_
              refine lv_icmp_ne (tgt := 89) hx hb dX2_findNeighbours_74 (by decide) (fun c_218 => ?_) (fun c_218 => ?_)
              · skip
                refine lv_iload_n hx hb dX2_findNeighbours_89 rfl (lv_at hl 1 rfl) ?_
                refine lv_if_ne (tgt := 111) hx hb dX2_findNeighbours_90 (by decide) (fun c_219 => ?_) (fun c_219 => ?_)
                · skip
                  refine lv_iinc (v := (nI (j_204 + 1))) (lv' := [(2, .int (nI (j_204 + 1))), (4, .int v_216), (3, .int v_212), (1, .int (nI j_164)), (0, .ref (o 2))]) hx hb dX2_findNeighbours_111 hl (k := 2) rfl (ni_inc _) (by decide) rfl (fun ls hl => ?_)
                  refine lv_goto (tgt := 26) hx hb dX2_findNeighbours_114 (by decide) ?_
                  exact ihj_204 (j_204 + 1) g_205 g_206 _ _ _ (by omega) (by omega) hP hD hS (lv_sub hl [0, 3, 4] rfl)
                · skip
                  refine lv_iload hx hb dX2_findNeighbours_93 (lv_at hl 0 rfl) ?_
                  refine lv_iconst (v := 1) hx hb dX2_findNeighbours_95 (by decide) ?_
                  refine lv_icmp_ne (tgt := 111) hx hb dX2_findNeighbours_96 (by decide) (fun c_220 => ?_) (fun c_220 => ?_)
                  · skip
                    refine lv_iinc (v := (nI (j_204 + 1))) (lv' := [(2, .int (nI (j_204 + 1))), (4, .int v_216), (3, .int v_212), (1, .int (nI j_164)), (0, .ref (o 2))]) hx hb dX2_findNeighbours_111 hl (k := 2) rfl (ni_inc _) (by decide) rfl (fun ls hl => ?_)
                    refine lv_goto (tgt := 26) hx hb dX2_findNeighbours_114 (by decide) ?_
                    exact ihj_204 (j_204 + 1) g_205 g_206 _ _ _ (by omega) (by omega) hP hD hS (lv_sub hl [0, 3, 4] rfl)
                  · skip
                    refine lv_aload_n hx hb dX2_findNeighbours_99 rfl (lv_at hl 4 rfl) ?_
                    refine x_get S hK hP 0 rfl cfX2 14 lkX2_27 (by decide) rfl dX2_findNeighbours_100 ?_
                    refine lv_iload_n hx hb dX2_findNeighbours_103 rfl (lv_at hl 3 rfl) ?_
                    refine lv_dup2_11 hx hb dX2_findNeighbours_104 rfl rfl ?_
                    refine x_iald S hK hP 4 rfl (vp_in_nI (by omega) (by decide)) dX2_findNeighbours_105 ?_
                    refine lv_topi (fun v_221 ev_221 => ?_)
                    refine lv_iconst (v := 1) hx hb dX2_findNeighbours_106 (by decide) ?_
                    refine lv_iload_n hx hb dX2_findNeighbours_107 rfl (lv_at hl 2 rfl) ?_
                    refine lv_ishl hx hb dX2_findNeighbours_108 ?_
                    refine lv_topi (fun v_222 ev_222 => ?_)
                    refine lv_ior hx hb dX2_findNeighbours_109 ?_
                    refine lv_topi (fun v_223 ev_223 => ?_)
                    refine x_iast (ws' := fun f_224 => [((o 2), .inr (2, [.int dlines, .int (nI dhours), .int dlaw, .int dodds, .int (nI drows), .int (nI dheads), .int (nI dsayings), .int (nI dslugs), .int (nI dacts), .ref (o 16), .ref (o 17), .ref (o 18), .ref (o 19), .ref (o 20), .ref (o 21), .ref (o 22), .ref (o 23), .ref (o 24), .ref (o 25)])), ((o 18), .inl (k 0, 12, .inl f18)), ((o 19), .inl (k 0, 12, .inl f19)), ((o 20), .inl (k 0, 12, .inl g_206)), ((o 21), .inl (k 0, 12, .inl f_224))]) S hK hP hD hS 4 rfl (vp_in_nI (by omega) (by decide)) (fun _ => rfl) dX2_findNeighbours_110 (fun f_224 H locs ef_224 hP hD hS => ?_)
                    refine lv_iinc (v := (nI (j_204 + 1))) (lv' := [(2, .int (nI (j_204 + 1))), (4, .int v_216), (3, .int v_212), (1, .int (nI j_164)), (0, .ref (o 2))]) hx hb dX2_findNeighbours_111 hl (k := 2) rfl (ni_inc _) (by decide) rfl (fun ls hl => ?_)
                    refine lv_goto (tgt := 26) hx hb dX2_findNeighbours_114 (by decide) ?_
                    exact ihj_204 (j_204 + 1) f_224 g_206 _ _ _ (by omega) (by omega) hP hD hS (lv_sub hl [0, 3, 4] rfl)
              · skip
                refine lv_aload_n hx hb dX2_findNeighbours_77 rfl (lv_at hl 4 rfl) ?_
                refine x_get S hK hP 0 rfl cfX2 13 lkX2_24 (by decide) rfl dX2_findNeighbours_78 ?_
                refine lv_iload_n hx hb dX2_findNeighbours_81 rfl (lv_at hl 3 rfl) ?_
                refine lv_dup2_11 hx hb dX2_findNeighbours_82 rfl rfl ?_
                refine x_iald S hK hP 3 rfl (vp_in_nI (by omega) (by decide)) dX2_findNeighbours_83 ?_
                refine lv_topi (fun v_225 ev_225 => ?_)
                refine lv_iconst (v := 1) hx hb dX2_findNeighbours_84 (by decide) ?_
                refine lv_iload_n hx hb dX2_findNeighbours_85 rfl (lv_at hl 2 rfl) ?_
                refine lv_ishl hx hb dX2_findNeighbours_86 ?_
                refine lv_topi (fun v_226 ev_226 => ?_)
                refine lv_ior hx hb dX2_findNeighbours_87 ?_
                refine lv_topi (fun v_227 ev_227 => ?_)
                refine x_iast (ws' := fun f_228 => [((o 2), .inr (2, [.int dlines, .int (nI dhours), .int dlaw, .int dodds, .int (nI drows), .int (nI dheads), .int (nI dsayings), .int (nI dslugs), .int (nI dacts), .ref (o 16), .ref (o 17), .ref (o 18), .ref (o 19), .ref (o 20), .ref (o 21), .ref (o 22), .ref (o 23), .ref (o 24), .ref (o 25)])), ((o 18), .inl (k 0, 12, .inl f18)), ((o 19), .inl (k 0, 12, .inl f19)), ((o 20), .inl (k 0, 12, .inl f_228)), ((o 21), .inl (k 0, 12, .inl g_205))]) S hK hP hD hS 3 rfl (vp_in_nI (by omega) (by decide)) (fun _ => rfl) dX2_findNeighbours_88 (fun f_228 H locs ef_228 hP hD hS => ?_)
                refine lv_iload_n hx hb dX2_findNeighbours_89 rfl (lv_at hl 1 rfl) ?_
                refine lv_if_ne (tgt := 111) hx hb dX2_findNeighbours_90 (by decide) (fun c_229 => ?_) (fun c_229 => ?_)
                · skip
                  refine lv_iinc (v := (nI (j_204 + 1))) (lv' := [(2, .int (nI (j_204 + 1))), (4, .int v_216), (3, .int v_212), (1, .int (nI j_164)), (0, .ref (o 2))]) hx hb dX2_findNeighbours_111 hl (k := 2) rfl (ni_inc _) (by decide) rfl (fun ls hl => ?_)
                  refine lv_goto (tgt := 26) hx hb dX2_findNeighbours_114 (by decide) ?_
                  exact ihj_204 (j_204 + 1) g_205 f_228 _ _ _ (by omega) (by omega) hP hD hS (lv_sub hl [0, 3, 4] rfl)
                · skip
                  refine lv_iload hx hb dX2_findNeighbours_93 (lv_at hl 0 rfl) ?_
                  refine lv_iconst (v := 1) hx hb dX2_findNeighbours_95 (by decide) ?_
                  refine lv_icmp_ne (tgt := 111) hx hb dX2_findNeighbours_96 (by decide) (fun c_230 => ?_) (fun c_230 => ?_)
                  · skip
                    refine lv_iinc (v := (nI (j_204 + 1))) (lv' := [(2, .int (nI (j_204 + 1))), (4, .int v_216), (3, .int v_212), (1, .int (nI j_164)), (0, .ref (o 2))]) hx hb dX2_findNeighbours_111 hl (k := 2) rfl (ni_inc _) (by decide) rfl (fun ls hl => ?_)
                    refine lv_goto (tgt := 26) hx hb dX2_findNeighbours_114 (by decide) ?_
                    exact ihj_204 (j_204 + 1) g_205 f_228 _ _ _ (by omega) (by omega) hP hD hS (lv_sub hl [0, 3, 4] rfl)
                  · skip
                    refine lv_aload_n hx hb dX2_findNeighbours_99 rfl (lv_at hl 4 rfl) ?_
                    refine x_get S hK hP 0 rfl cfX2 14 lkX2_27 (by decide) rfl dX2_findNeighbours_100 ?_
                    refine lv_iload_n hx hb dX2_findNeighbours_103 rfl (lv_at hl 3 rfl) ?_
                    refine lv_dup2_11 hx hb dX2_findNeighbours_104 rfl rfl ?_
                    refine x_iald S hK hP 4 rfl (vp_in_nI (by omega) (by decide)) dX2_findNeighbours_105 ?_
                    refine lv_topi (fun v_231 ev_231 => ?_)
                    refine lv_iconst (v := 1) hx hb dX2_findNeighbours_106 (by decide) ?_
                    refine lv_iload_n hx hb dX2_findNeighbours_107 rfl (lv_at hl 2 rfl) ?_
                    refine lv_ishl hx hb dX2_findNeighbours_108 ?_
                    refine lv_topi (fun v_232 ev_232 => ?_)
                    refine lv_ior hx hb dX2_findNeighbours_109 ?_
                    refine lv_topi (fun v_233 ev_233 => ?_)
                    refine x_iast (ws' := fun f_234 => [((o 2), .inr (2, [.int dlines, .int (nI dhours), .int dlaw, .int dodds, .int (nI drows), .int (nI dheads), .int (nI dsayings), .int (nI dslugs), .int (nI dacts), .ref (o 16), .ref (o 17), .ref (o 18), .ref (o 19), .ref (o 20), .ref (o 21), .ref (o 22), .ref (o 23), .ref (o 24), .ref (o 25)])), ((o 18), .inl (k 0, 12, .inl f18)), ((o 19), .inl (k 0, 12, .inl f19)), ((o 20), .inl (k 0, 12, .inl f_228)), ((o 21), .inl (k 0, 12, .inl f_234))]) S hK hP hD hS 4 rfl (vp_in_nI (by omega) (by decide)) (fun _ => rfl) dX2_findNeighbours_110 (fun f_234 H locs ef_234 hP hD hS => ?_)
                    refine lv_iinc (v := (nI (j_204 + 1))) (lv' := [(2, .int (nI (j_204 + 1))), (4, .int v_216), (3, .int v_212), (1, .int (nI j_164)), (0, .ref (o 2))]) hx hb dX2_findNeighbours_111 hl (k := 2) rfl (ni_inc _) (by decide) rfl (fun ls hl => ?_)
                    refine lv_goto (tgt := 26) hx hb dX2_findNeighbours_114 (by decide) ?_
                    exact ihj_204 (j_204 + 1) f_234 f_228 _ _ _ (by omega) (by omega) hP hD hS (lv_sub hl [0, 3, 4] rfl)
        exact lp_207 (dheads + 1) 0 f_169 f_170 _ _ _ (by omega) (by omega) hP hD hS (lv_sub hl [0, 1, 2] rfl)
  exact lp_167 (dheads + 1) 0 f20 f21 _ _ _ (by omega) (by omega) hP hD hS (lv_sub hl [0, 1] rfl)

set_option maxHeartbeats 4000000 in
set_option maxRecDepth 100000 in
theorem ctX3_enter (l : Launch) (D : va_G) (k : Nat → ClassId) (z : Nat → Nat) (o : Nat → Nat) (f69 : Nat → Int32) (f70 : Nat → Int32) (f71 : Nat → Int32) (p0 : Int32) (p1 : Int32) (p2 : Int32)  : MU l yX3_enter cX3_enter 4 none 1 D k z [.ref (o 4), .int p0, .int p1, .int p2] [((o 4), .inr (3, [.ref (o 69), .ref (o 70), .ref (o 71)])), ((o 69), .inl (k 0, 17, .inl f69)), ((o 70), .inl (k 0, 17, .inl f70)), ((o 71), .inl (k 0, 17, .inl f71))] 0 0 (Uv D (fun _ : (Nat → Int32) × (Nat → Nat) × (Nat → Nat → Int32) × (Nat → Nat → Int64) × (Nat → Int64) => True) (fun u : (Nat → Int32) × (Nat → Nat) × (Nat → Nat → Int32) × (Nat → Nat → Int64) × (Nat → Int64) => [((o 4), .inr (3, [.ref (o 69), .ref (o 70), .ref (o 71)])), ((o 69), .inl (k 0, 17, .inl (u.2.2.1 0))), ((o 70), .inl (k 0, 17, .inl (u.2.2.1 1))), ((o 71), .inl (k 0, 17, .inl f71))])) := by
  refine MU.of (by decide) (Nat.le_of_ble_eq_true rfl) ?_
  intro p e s m below meth c ls A args Q S hr hlk hnm hQ hK hP hD hZ hA hS hl
  have hx := S.1
  have hb := S.2.1
  have hl : lv_has ls 4 [(0, .ref (o 4)), (1, .int p0), (2, .int p1), (3, .int p2)] := hl
  refine lv_iload_n hx hb dX3_enter_0 rfl (lv_at hl 3 rfl) ?_
  refine lv_if_lt (tgt := 10) hx hb dX3_enter_1 (by decide) (fun c_1 => ?_) (fun c_1 => ?_)
  · skip
    exact x_retv S hr hlk hQ hS ((fun i => ([] : List (Int32)).getD i 0), (fun i => ([] : List (Nat)).getD i 0), (fun i => ([f69, f70] : List (Nat → Int32)).getD i (fun _ => 0)), (fun i => ([] : List (Nat → Int64)).getD i (fun _ => 0)), (fun i => ([] : List (Int64)).getD i 0)) trivial (x_B hP hD) dX3_enter_10
  · skip
    obtain ⟨hh, hhh, ehh⟩ : ∃ hh : Nat, hh < 2147483648 ∧ p2 = nI hh := natp c_1
    have hl : lv_has ls 4 [(0, .ref (o 4)), (1, .int p0), (2, .int p1), (3, .int (nI hh))] := by rw [ehh] at hl; exact hl
    refine lv_iload_n hx hb dX3_enter_4 rfl (lv_at hl 3 rfl) ?_
    refine lv_bipush (v := 16) hx hb dX3_enter_5 (by decide) ?_
    refine lv_icmp_le (tgt := 11) hx hb dX3_enter_7 (by decide) (fun c_2 => ?_) (fun c_2 => ?_)
    · skip
      have c_2 : hh ≤ 16 := (ni_le rfl (by decide) (by omega) (by omega)).mp c_2
      refine lv_iload_n hx hb dX3_enter_11 rfl (lv_at hl 1 rfl) ?_
      refine lv_if_ne (tgt := 28) hx hb dX3_enter_12 (by decide) (fun c_3 => ?_) (fun c_3 => ?_)
      · skip
        refine lv_aload_n hx hb dX3_enter_28 rfl (lv_at hl 0 rfl) ?_
        refine x_get S hK hP 0 rfl cfX3 0 lkX3_9 (by decide) rfl dX3_enter_29 ?_
        refine lv_iload_n hx hb dX3_enter_32 rfl (lv_at hl 3 rfl) ?_
        refine lv_aload_n hx hb dX3_enter_33 rfl (lv_at hl 0 rfl) ?_
        refine x_get S hK hP 0 rfl cfX3 0 lkX3_9 (by decide) rfl dX3_enter_34 ?_
        refine lv_iload_n hx hb dX3_enter_37 rfl (lv_at hl 3 rfl) ?_
        refine x_iald S hK hP 1 rfl (vp_in_nI (by omega) (by decide)) dX3_enter_38 ?_
        refine lv_topi (fun v_4 ev_4 => ?_)
        refine lv_iload_n hx hb dX3_enter_39 rfl (lv_at hl 2 rfl) ?_
        refine lv_iload_n hx hb dX3_enter_40 rfl (lv_at hl 1 rfl) ?_
        refine x_roSNi (As := [.int p1, .int p0]) S hK hP hD hZ (fun _ h => h) hA hS hA hl mwX10_inHalf lkX3_51 (ctX10_inHalf l D k z p1 p0 ) [] rfl (by decide) rfl rfl ⟨Nat.le_of_ble_eq_true rfl, Nat.le_of_ble_eq_true rfl, Nat.le_of_ble_eq_true rfl⟩ dX3_enter_41 ⟨Nat.le_of_ble_eq_true rfl, Nat.le_of_ble_eq_true rfl⟩ (fun r_5 H locs hr_5 hP hS => ?_)
        refine x_roSNi (As := [.int v_4, .int r_5]) S hK hP hD hZ (fun _ h => h) hA hS hA hl mwX10_heard lkX3_55 (ctX10_heard l D k z v_4 r_5 ) [] rfl (by decide) rfl rfl ⟨Nat.le_of_ble_eq_true rfl, Nat.le_of_ble_eq_true rfl, Nat.le_of_ble_eq_true rfl⟩ dX3_enter_44 ⟨Nat.le_of_ble_eq_true rfl, Nat.le_of_ble_eq_true rfl⟩ (fun r_7 H locs hr_7 hP hS => ?_)
        refine x_iast (ws' := fun f_9 => [((o 4), .inr (3, [.ref (o 69), .ref (o 70), .ref (o 71)])), ((o 69), .inl (k 0, 17, .inl f_9)), ((o 70), .inl (k 0, 17, .inl f70)), ((o 71), .inl (k 0, 17, .inl f71))]) S hK hP hD hS 1 rfl (vp_in_nI (by omega) (by decide)) (fun _ => rfl) dX3_enter_47 (fun f_9 H locs ef_9 hP hD hS => ?_)
        exact x_retv S hr hlk hQ hS ((fun i => ([] : List (Int32)).getD i 0), (fun i => ([] : List (Nat)).getD i 0), (fun i => ([f_9, f70] : List (Nat → Int32)).getD i (fun _ => 0)), (fun i => ([] : List (Nat → Int64)).getD i (fun _ => 0)), (fun i => ([] : List (Int64)).getD i 0)) trivial (x_B hP hD) dX3_enter_48
      · skip
        refine lv_aload_n hx hb dX3_enter_15 rfl (lv_at hl 0 rfl) ?_
        refine x_get S hK hP 0 rfl cfX3 1 lkX3_15 (by decide) rfl dX3_enter_16 ?_
        refine lv_iload_n hx hb dX3_enter_19 rfl (lv_at hl 3 rfl) ?_
        refine lv_dup2_11 hx hb dX3_enter_20 rfl rfl ?_
        refine x_iald S hK hP 2 rfl (vp_in_nI (by omega) (by decide)) dX3_enter_21 ?_
        refine lv_topi (fun v_10 ev_10 => ?_)
        refine lv_iload_n hx hb dX3_enter_22 rfl (lv_at hl 2 rfl) ?_
        refine lv_ior hx hb dX3_enter_23 ?_
        refine lv_topi (fun v_11 ev_11 => ?_)
        refine x_iast (ws' := fun f_12 => [((o 4), .inr (3, [.ref (o 69), .ref (o 70), .ref (o 71)])), ((o 69), .inl (k 0, 17, .inl f69)), ((o 70), .inl (k 0, 17, .inl f_12)), ((o 71), .inl (k 0, 17, .inl f71))]) S hK hP hD hS 2 rfl (vp_in_nI (by omega) (by decide)) (fun _ => rfl) dX3_enter_24 (fun f_12 H locs ef_12 hP hD hS => ?_)
        refine lv_goto (tgt := 48) hx hb dX3_enter_25 (by decide) ?_
        exact x_retv S hr hlk hQ hS ((fun i => ([] : List (Int32)).getD i 0), (fun i => ([] : List (Nat)).getD i 0), (fun i => ([f69, f_12] : List (Nat → Int32)).getD i (fun _ => 0)), (fun i => ([] : List (Nat → Int64)).getD i (fun _ => 0)), (fun i => ([] : List (Int64)).getD i 0)) trivial (x_B hP hD) dX3_enter_48
    · skip
      have c_2 : ¬ hh ≤ 16 := fun q => c_2 ((ni_le rfl (by decide) (by omega) (by omega)).mpr q)
      exact x_retv S hr hlk hQ hS ((fun i => ([] : List (Int32)).getD i 0), (fun i => ([] : List (Nat)).getD i 0), (fun i => ([f69, f70] : List (Nat → Int32)).getD i (fun _ => 0)), (fun i => ([] : List (Nat → Int64)).getD i (fun _ => 0)), (fun i => ([] : List (Int64)).getD i 0)) trivial (x_B hP hD) dX3_enter_10

set_option maxHeartbeats 4000000 in
set_option maxRecDepth 100000 in
theorem ctX3_openFrom (l : Launch) (D : va_G) (k : Nat → ClassId) (z : Nat → Nat) (o : Nat → Nat) (f71 : Nat → Int32) (p0 : Int32) (p1 : Int32)  : MU l yX3_openFrom cX3_openFrom 4 none 1 D k z [.ref (o 4), .int p0, .int p1] [((o 4), .inr (3, [.ref (o 69), .ref (o 70), .ref (o 71)])), ((o 71), .inl (k 0, 17, .inl f71))] 0 0 (Uv D (fun _ : (Nat → Int32) × (Nat → Nat) × (Nat → Nat → Int32) × (Nat → Nat → Int64) × (Nat → Int64) => True) (fun u : (Nat → Int32) × (Nat → Nat) × (Nat → Nat → Int32) × (Nat → Nat → Int64) × (Nat → Int64) => [((o 4), .inr (3, [.ref (o 69), .ref (o 70), .ref (o 71)])), ((o 71), .inl (k 0, 17, .inl (u.2.2.1 0)))])) := by
  refine MU.of (by decide) (Nat.le_of_ble_eq_true rfl) ?_
  intro p e s m below meth c ls A args Q S hr hlk hnm hQ hK hP hD hZ hA hS hl
  have hx := S.1
  have hb := S.2.1
  have hl : lv_has ls 4 [(0, .ref (o 4)), (1, .int p0), (2, .int p1)] := hl
  refine lv_iconst (v := 0) hx hb dX3_openFrom_0 (by decide) ?_
  refine lv_iload_n hx hb dX3_openFrom_1 rfl (lv_at hl 1 rfl) ?_
  refine x_mmax S hl lkX3_58 (Nat.le_of_ble_eq_true rfl) (Nat.le_of_ble_eq_true rfl) ⟨Nat.le_of_ble_eq_true rfl, Nat.le_of_ble_eq_true rfl⟩ dX3_openFrom_2 (fun v_1 ev_1 => ?_)
  obtain ⟨n_2, rfl, hn_2⟩ := max0 ev_1
  refine lv_istore_n (lv' := [(3, .int (nI n_2)), (0, .ref (o 4)), (1, .int p0), (2, .int p1)]) hx hb dX3_openFrom_5 rfl hl (by decide) rfl (fun ls hl => ?_)
  have lp_16 : ∀ (nn j_14 : Nat) (g_15 : Nat → Int32) (H : Heap) (locs : List Loc) (ls : Array Slot), j_14 ≤ n_2 + 17 → n_2 + 17 - j_14 < nn → j_14 ≤ 2147483647 → va_P D vwCl [((o 4), .inr (3, [.ref (o 69), .ref (o 70), .ref (o 71)])), ((o 71), .inl (k 0, 17, .inl g_15))] H → va_D A [((o 4), .inr (3, [.ref (o 69), .ref (o 70), .ref (o 71)])), ((o 71), .inl (k 0, 17, .inl g_15))] → va_S A s.heap H locs → lv_has ls 4 [(3, .int (nI j_14)), (0, .ref (o 4)), (1, .int p0), (2, .int p1)] → W p l e (Rm 1 0 0) s m args below meth c H locs 0 0 Q (F0 m 6 ls []) := by
    intro nn
    induction nn with
    | zero => intro j_14 g_15 H locs ls hjj_14 hnj_14 hmj_14; exact absurd hnj_14 (by omega)
    | succ nn ihj_14 =>
      intro j_14 g_15 H locs ls hjj_14 hnj_14 hmj_14 hP hD hS hl
      refine lv_iload_n hx hb dX3_openFrom_6 rfl (lv_at hl 0 rfl) ?_
      refine lv_bipush (v := 16) hx hb dX3_openFrom_7 (by decide) ?_
      refine lv_icmp_gt (tgt := 28) hx hb dX3_openFrom_9 (by decide) (fun c_17 => ?_) (fun c_17 => ?_)
      · skip
        have c_17 : 16 < j_14 := (ni_lt (by decide) rfl (by omega) (by omega)).mp c_17
        exact x_retv S hr hlk hQ hS ((fun i => ([] : List (Int32)).getD i 0), (fun i => ([] : List (Nat)).getD i 0), (fun i => ([g_15] : List (Nat → Int32)).getD i (fun _ => 0)), (fun i => ([] : List (Nat → Int64)).getD i (fun _ => 0)), (fun i => ([] : List (Int64)).getD i 0)) trivial (x_B hP hD) dX3_openFrom_28
      · skip
        have c_17 : ¬ 16 < j_14 := fun q => c_17 ((ni_lt (by decide) rfl (by omega) (by omega)).mpr q)
        refine lv_aload_n hx hb dX3_openFrom_12 rfl (lv_at hl 1 rfl) ?_
        refine x_get S hK hP 0 rfl cfX3 2 lkX3_18 (by decide) rfl dX3_openFrom_13 ?_
        refine lv_iload_n hx hb dX3_openFrom_16 rfl (lv_at hl 0 rfl) ?_
        refine lv_dup2_11 hx hb dX3_openFrom_17 rfl rfl ?_
        refine x_iald S hK hP 1 rfl (vp_in_nI (by omega) (by decide)) dX3_openFrom_18 ?_
        refine lv_topi (fun v_18 ev_18 => ?_)
        refine lv_iload_n hx hb dX3_openFrom_19 rfl (lv_at hl 3 rfl) ?_
        refine lv_ior hx hb dX3_openFrom_20 ?_
        refine lv_topi (fun v_19 ev_19 => ?_)
        refine x_iast (ws' := fun f_20 => [((o 4), .inr (3, [.ref (o 69), .ref (o 70), .ref (o 71)])), ((o 71), .inl (k 0, 17, .inl f_20))]) S hK hP hD hS 1 rfl (vp_in_nI (by omega) (by decide)) (fun _ => rfl) dX3_openFrom_21 (fun f_20 H locs ef_20 hP hD hS => ?_)
        refine lv_iinc (v := (nI (j_14 + 1))) (lv' := [(3, .int (nI (j_14 + 1))), (0, .ref (o 4)), (1, .int p0), (2, .int p1)]) hx hb dX3_openFrom_22 hl (k := 0) rfl (ni_inc _) (by decide) rfl (fun ls hl => ?_)
        refine lv_goto (tgt := 6) hx hb dX3_openFrom_25 (by decide) ?_
        exact ihj_14 (j_14 + 1) f_20 _ _ _ (by omega) (by omega) (by omega) hP hD hS (lv_sub hl [0, 1, 2, 3] rfl)
  exact lp_16 (n_2 + 17 + 1) n_2 f71 _ _ _ (by omega) (by omega) (by omega) hP hD hS (lv_sub hl [0, 1, 2, 3] rfl)

set_option maxHeartbeats 4000000 in
set_option maxRecDepth 100000 in
theorem ctX3_make (l : Launch) (D : va_G) (k : Nat → ClassId) (z : Nat → Nat) (o : Nat → Nat) (f69 : Nat → Int32) (f70 : Nat → Int32) (f71 : Nat → Int32) (glines : Int32) (ghours : Nat) (glaw : Int32) (godds : Int32) (grows : Nat) (gheads : Nat) (gsayings : Nat) (gslugs : Nat) (gacts : Nat) (f27 : Nat → Int32) (f33 : Nat → Int32) (f34 : Nat → Int32) (f35 : Nat → Int32) (hghours : ghours ≤ 16) (hgrows : grows ≤ 4) (hgheads : gheads ≤ 12) (hgsayings : gsayings ≤ 8) (hgslugs : gslugs ≤ 4) (hgacts : gacts ≤ 30) : MU l yX3_make cX3_make 3 none 2 D k z [.ref (o 4), .ref (o 3)] [((o 4), .inr (3, [.ref (o 69), .ref (o 70), .ref (o 71)])), ((o 69), .inl (k 0, 17, .inl f69)), ((o 70), .inl (k 0, 17, .inl f70)), ((o 71), .inl (k 0, 17, .inl f71)), ((o 3), .inr (2, [.int glines, .int (nI ghours), .int glaw, .int godds, .int (nI grows), .int (nI gheads), .int (nI gsayings), .int (nI gslugs), .int (nI gacts), .ref (o 26), .ref (o 27), .ref (o 28), .ref (o 29), .ref (o 30), .ref (o 31), .ref (o 32), .ref (o 33), .ref (o 34), .ref (o 35)])), ((o 27), .inl (k 0, 12, .inl f27)), ((o 33), .inl (k 0, 42, .inl f33)), ((o 34), .inl (k 0, 42, .inl f34)), ((o 35), .inl (k 0, 42, .inl f35))] 0 0 (Uv D (fun _ : (Nat → Int32) × (Nat → Nat) × (Nat → Nat → Int32) × (Nat → Nat → Int64) × (Nat → Int64) => True) (fun u : (Nat → Int32) × (Nat → Nat) × (Nat → Nat → Int32) × (Nat → Nat → Int64) × (Nat → Int64) => [((o 4), .inr (3, [.ref (o 69), .ref (o 70), .ref (o 71)])), ((o 69), .inl (k 0, 17, .inl (u.2.2.1 0))), ((o 70), .inl (k 0, 17, .inl (u.2.2.1 1))), ((o 71), .inl (k 0, 17, .inl (u.2.2.1 2))), ((o 3), .inr (2, [.int glines, .int (nI ghours), .int glaw, .int godds, .int (nI grows), .int (nI gheads), .int (nI gsayings), .int (nI gslugs), .int (nI gacts), .ref (o 26), .ref (o 27), .ref (o 28), .ref (o 29), .ref (o 30), .ref (o 31), .ref (o 32), .ref (o 33), .ref (o 34), .ref (o 35)])), ((o 27), .inl (k 0, 12, .inl f27)), ((o 33), .inl (k 0, 42, .inl f33)), ((o 34), .inl (k 0, 42, .inl f34)), ((o 35), .inl (k 0, 42, .inl f35))])) := by
  refine MU.of (by decide) (Nat.le_of_ble_eq_true rfl) ?_
  intro p e s m below meth c ls A args Q S hr hlk hnm hQ hK hP hD hZ hA hS hl
  have hx := S.1
  have hb := S.2.1
  have hl : lv_has ls 3 [(0, .ref (o 4)), (1, .ref (o 3))] := hl
  refine lv_iconst (v := 0) hx hb dX3_make_0 (by decide) ?_
  refine lv_istore_n (lv' := [(2, .int 0), (0, .ref (o 4)), (1, .ref (o 3))]) hx hb dX3_make_1 rfl hl (by decide) rfl (fun ls hl => ?_)
  have lp_19 : ∀ (nn j_15 : Nat) (g_16 : Nat → Int32) (g_17 : Nat → Int32) (g_18 : Nat → Int32) (H : Heap) (locs : List Loc) (ls : Array Slot), j_15 ≤ 16 + 1 → 16 + 1 - j_15 < nn → va_P D vwCl [((o 4), .inr (3, [.ref (o 69), .ref (o 70), .ref (o 71)])), ((o 69), .inl (k 0, 17, .inl g_16)), ((o 70), .inl (k 0, 17, .inl g_17)), ((o 71), .inl (k 0, 17, .inl g_18)), ((o 3), .inr (2, [.int glines, .int (nI ghours), .int glaw, .int godds, .int (nI grows), .int (nI gheads), .int (nI gsayings), .int (nI gslugs), .int (nI gacts), .ref (o 26), .ref (o 27), .ref (o 28), .ref (o 29), .ref (o 30), .ref (o 31), .ref (o 32), .ref (o 33), .ref (o 34), .ref (o 35)])), ((o 27), .inl (k 0, 12, .inl f27)), ((o 33), .inl (k 0, 42, .inl f33)), ((o 34), .inl (k 0, 42, .inl f34)), ((o 35), .inl (k 0, 42, .inl f35))] H → va_D A [((o 4), .inr (3, [.ref (o 69), .ref (o 70), .ref (o 71)])), ((o 69), .inl (k 0, 17, .inl g_16)), ((o 70), .inl (k 0, 17, .inl g_17)), ((o 71), .inl (k 0, 17, .inl g_18)), ((o 3), .inr (2, [.int glines, .int (nI ghours), .int glaw, .int godds, .int (nI grows), .int (nI gheads), .int (nI gsayings), .int (nI gslugs), .int (nI gacts), .ref (o 26), .ref (o 27), .ref (o 28), .ref (o 29), .ref (o 30), .ref (o 31), .ref (o 32), .ref (o 33), .ref (o 34), .ref (o 35)])), ((o 27), .inl (k 0, 12, .inl f27)), ((o 33), .inl (k 0, 42, .inl f33)), ((o 34), .inl (k 0, 42, .inl f34)), ((o 35), .inl (k 0, 42, .inl f35))] → va_S A s.heap H locs → lv_has ls 3 [(2, .int (nI j_15)), (0, .ref (o 4)), (1, .ref (o 3))] → W p l e (Rm 2 0 0) s m args below meth c H locs 0 0 Q (F0 m 2 ls []) := by
    intro nn
    induction nn with
    | zero => intro j_15 g_16 g_17 g_18 H locs ls hjj_15 hnj_15; exact absurd hnj_15 (by omega)
    | succ nn ihj_15 =>
      intro j_15 g_16 g_17 g_18 H locs ls hjj_15 hnj_15 hP hD hS hl
      refine lv_iload_n hx hb dX3_make_2 rfl (lv_at hl 0 rfl) ?_
      refine lv_bipush (v := 16) hx hb dX3_make_3 (by decide) ?_
      refine lv_icmp_gt (tgt := 35) hx hb dX3_make_5 (by decide) (fun c_20 => ?_) (fun c_20 => ?_)
      · skip
        have c_20 : 16 < j_15 := (ni_lt (by decide) rfl (by omega) (by omega)).mp c_20
        refine lv_iconst (v := 0) hx hb dX3_make_35 (by decide) ?_
        refine lv_istore_n (lv' := [(2, .int 0), (0, .ref (o 4)), (1, .ref (o 3))]) hx hb dX3_make_36 rfl hl (by decide) rfl (fun ls hl => ?_)
        have lp_49 : ∀ (nn j_46 : Nat) (g_47 : Nat → Int32) (g_48 : Nat → Int32) (H : Heap) (locs : List Loc) (ls : Array Slot), j_46 ≤ gsayings + gslugs + gacts → gsayings + gslugs + gacts - j_46 < nn → va_P D vwCl [((o 4), .inr (3, [.ref (o 69), .ref (o 70), .ref (o 71)])), ((o 69), .inl (k 0, 17, .inl g_47)), ((o 70), .inl (k 0, 17, .inl g_48)), ((o 71), .inl (k 0, 17, .inl g_18)), ((o 3), .inr (2, [.int glines, .int (nI ghours), .int glaw, .int godds, .int (nI grows), .int (nI gheads), .int (nI gsayings), .int (nI gslugs), .int (nI gacts), .ref (o 26), .ref (o 27), .ref (o 28), .ref (o 29), .ref (o 30), .ref (o 31), .ref (o 32), .ref (o 33), .ref (o 34), .ref (o 35)])), ((o 27), .inl (k 0, 12, .inl f27)), ((o 33), .inl (k 0, 42, .inl f33)), ((o 34), .inl (k 0, 42, .inl f34)), ((o 35), .inl (k 0, 42, .inl f35))] H → va_D A [((o 4), .inr (3, [.ref (o 69), .ref (o 70), .ref (o 71)])), ((o 69), .inl (k 0, 17, .inl g_47)), ((o 70), .inl (k 0, 17, .inl g_48)), ((o 71), .inl (k 0, 17, .inl g_18)), ((o 3), .inr (2, [.int glines, .int (nI ghours), .int glaw, .int godds, .int (nI grows), .int (nI gheads), .int (nI gsayings), .int (nI gslugs), .int (nI gacts), .ref (o 26), .ref (o 27), .ref (o 28), .ref (o 29), .ref (o 30), .ref (o 31), .ref (o 32), .ref (o 33), .ref (o 34), .ref (o 35)])), ((o 27), .inl (k 0, 12, .inl f27)), ((o 33), .inl (k 0, 42, .inl f33)), ((o 34), .inl (k 0, 42, .inl f34)), ((o 35), .inl (k 0, 42, .inl f35))] → va_S A s.heap H locs → lv_has ls 3 [(2, .int (nI j_46)), (0, .ref (o 4)), (1, .ref (o 3))] → W p l e (Rm 2 0 0) s m args below meth c H locs 0 0 Q (F0 m 37 ls []) := by
          intro nn
          induction nn with
          | zero => intro j_46 g_47 g_48 H locs ls hjj_46 hnj_46; exact absurd hnj_46 (by omega)
          | succ nn ihj_46 =>
            intro j_46 g_47 g_48 H locs ls hjj_46 hnj_46 hP hD hS hl
            refine lv_iload_n hx hb dX3_make_37 rfl (lv_at hl 0 rfl) ?_
            refine lv_aload_n hx hb dX3_make_38 rfl (lv_at hl 2 rfl) ?_
            refine x_roVi (As := []) S hK hP hD hZ (fun _ h => h) hA hS hA hl mwX2_events lkX3_21 (ctX2_events_g l D k z o glines ghours glaw godds grows gheads gsayings gslugs gacts (by omega) (by omega) (by omega) (by omega) (by omega) (by omega)) [4] rfl (by decide) rfl rfl rfl rfl rfl ⟨Nat.le_of_ble_eq_true rfl, Nat.le_of_ble_eq_true rfl, Nat.le_of_ble_eq_true rfl⟩ dX3_make_39 ⟨Nat.le_of_ble_eq_true rfl, Nat.le_of_ble_eq_true rfl⟩ (fun r_50 H locs hr_50 hP hS => ?_)
            obtain rfl := hr_50
            refine lv_icmp_ge (tgt := 75) hx hb dX3_make_42 (by decide) (fun c_52 => ?_) (fun c_52 => ?_)
            · skip
              have c_52 : gsayings + gslugs + gacts ≤ j_46 := (ni_le rfl rfl (by omega) (by omega)).mp c_52
              refine lv_iconst (v := 1) hx hb dX3_make_75 (by decide) ?_
              refine lv_istore_n (lv' := [(2, .int 1), (0, .ref (o 4)), (1, .ref (o 3))]) hx hb dX3_make_76 rfl hl (by decide) rfl (fun ls hl => ?_)
              have lp_68 : ∀ (nn j_66 : Nat) (g_67 : Nat → Int32) (H : Heap) (locs : List Loc) (ls : Array Slot), 1 ≤ j_66 → j_66 ≤ 17 → 17 - j_66 < nn → va_P D vwCl [((o 4), .inr (3, [.ref (o 69), .ref (o 70), .ref (o 71)])), ((o 69), .inl (k 0, 17, .inl g_47)), ((o 70), .inl (k 0, 17, .inl g_67)), ((o 71), .inl (k 0, 17, .inl g_18)), ((o 3), .inr (2, [.int glines, .int (nI ghours), .int glaw, .int godds, .int (nI grows), .int (nI gheads), .int (nI gsayings), .int (nI gslugs), .int (nI gacts), .ref (o 26), .ref (o 27), .ref (o 28), .ref (o 29), .ref (o 30), .ref (o 31), .ref (o 32), .ref (o 33), .ref (o 34), .ref (o 35)])), ((o 27), .inl (k 0, 12, .inl f27)), ((o 33), .inl (k 0, 42, .inl f33)), ((o 34), .inl (k 0, 42, .inl f34)), ((o 35), .inl (k 0, 42, .inl f35))] H → va_D A [((o 4), .inr (3, [.ref (o 69), .ref (o 70), .ref (o 71)])), ((o 69), .inl (k 0, 17, .inl g_47)), ((o 70), .inl (k 0, 17, .inl g_67)), ((o 71), .inl (k 0, 17, .inl g_18)), ((o 3), .inr (2, [.int glines, .int (nI ghours), .int glaw, .int godds, .int (nI grows), .int (nI gheads), .int (nI gsayings), .int (nI gslugs), .int (nI gacts), .ref (o 26), .ref (o 27), .ref (o 28), .ref (o 29), .ref (o 30), .ref (o 31), .ref (o 32), .ref (o 33), .ref (o 34), .ref (o 35)])), ((o 27), .inl (k 0, 12, .inl f27)), ((o 33), .inl (k 0, 42, .inl f33)), ((o 34), .inl (k 0, 42, .inl f34)), ((o 35), .inl (k 0, 42, .inl f35))] → va_S A s.heap H locs → lv_has ls 3 [(2, .int (nI j_66)), (0, .ref (o 4)), (1, .ref (o 3))] → W p l e (Rm 2 0 0) s m args below meth c H locs 0 0 Q (F0 m 77 ls []) := by
                intro nn
                induction nn with
                | zero => intro j_66 g_67 H locs ls hlj_66 hjj_66 hnj_66; exact absurd hnj_66 (by omega)
                | succ nn ihj_66 =>
                  intro j_66 g_67 H locs ls hlj_66 hjj_66 hnj_66 hP hD hS hl
                  refine lv_iload_n hx hb dX3_make_77 rfl (lv_at hl 0 rfl) ?_
                  refine lv_bipush (v := 16) hx hb dX3_make_78 (by decide) ?_
                  refine lv_icmp_gt (tgt := 106) hx hb dX3_make_80 (by decide) (fun c_69 => ?_) (fun c_69 => ?_)
                  · skip
                    have c_69 : 16 < j_66 := (ni_lt (by decide) rfl (by omega) (by omega)).mp c_69
                    refine lv_iconst (v := 0) hx hb dX3_make_106 (by decide) ?_
                    refine lv_istore_n (lv' := [(2, .int 0), (0, .ref (o 4)), (1, .ref (o 3))]) hx hb dX3_make_107 rfl hl (by decide) rfl (fun ls hl => ?_)
                    have lp_86 : ∀ (nn j_84 : Nat) (g_85 : Nat → Int32) (H : Heap) (locs : List Loc) (ls : Array Slot), j_84 ≤ gheads → gheads - j_84 < nn → va_P D vwCl [((o 4), .inr (3, [.ref (o 69), .ref (o 70), .ref (o 71)])), ((o 69), .inl (k 0, 17, .inl g_47)), ((o 70), .inl (k 0, 17, .inl g_67)), ((o 71), .inl (k 0, 17, .inl g_85)), ((o 3), .inr (2, [.int glines, .int (nI ghours), .int glaw, .int godds, .int (nI grows), .int (nI gheads), .int (nI gsayings), .int (nI gslugs), .int (nI gacts), .ref (o 26), .ref (o 27), .ref (o 28), .ref (o 29), .ref (o 30), .ref (o 31), .ref (o 32), .ref (o 33), .ref (o 34), .ref (o 35)])), ((o 27), .inl (k 0, 12, .inl f27)), ((o 33), .inl (k 0, 42, .inl f33)), ((o 34), .inl (k 0, 42, .inl f34)), ((o 35), .inl (k 0, 42, .inl f35))] H → va_D A [((o 4), .inr (3, [.ref (o 69), .ref (o 70), .ref (o 71)])), ((o 69), .inl (k 0, 17, .inl g_47)), ((o 70), .inl (k 0, 17, .inl g_67)), ((o 71), .inl (k 0, 17, .inl g_85)), ((o 3), .inr (2, [.int glines, .int (nI ghours), .int glaw, .int godds, .int (nI grows), .int (nI gheads), .int (nI gsayings), .int (nI gslugs), .int (nI gacts), .ref (o 26), .ref (o 27), .ref (o 28), .ref (o 29), .ref (o 30), .ref (o 31), .ref (o 32), .ref (o 33), .ref (o 34), .ref (o 35)])), ((o 27), .inl (k 0, 12, .inl f27)), ((o 33), .inl (k 0, 42, .inl f33)), ((o 34), .inl (k 0, 42, .inl f34)), ((o 35), .inl (k 0, 42, .inl f35))] → va_S A s.heap H locs → lv_has ls 3 [(2, .int (nI j_84)), (0, .ref (o 4)), (1, .ref (o 3))] → W p l e (Rm 2 0 0) s m args below meth c H locs 0 0 Q (F0 m 108 ls []) := by
                      intro nn
                      induction nn with
                      | zero => intro j_84 g_85 H locs ls hjj_84 hnj_84; exact absurd hnj_84 (by omega)
                      | succ nn ihj_84 =>
                        intro j_84 g_85 H locs ls hjj_84 hnj_84 hP hD hS hl
                        refine lv_iload_n hx hb dX3_make_108 rfl (lv_at hl 0 rfl) ?_
                        refine lv_aload_n hx hb dX3_make_109 rfl (lv_at hl 2 rfl) ?_
                        refine x_get S hK hP 4 rfl cfX2 5 lkX3_40 (by decide) rfl dX3_make_110 ?_
                        refine lv_icmp_ge (tgt := 135) hx hb dX3_make_113 (by decide) (fun c_87 => ?_) (fun c_87 => ?_)
                        · skip
                          have c_87 : gheads ≤ j_84 := (ni_le rfl rfl (by omega) (by omega)).mp c_87
                          exact x_retv S hr hlk hQ hS ((fun i => ([] : List (Int32)).getD i 0), (fun i => ([] : List (Nat)).getD i 0), (fun i => ([g_47, g_67, g_85] : List (Nat → Int32)).getD i (fun _ => 0)), (fun i => ([] : List (Nat → Int64)).getD i (fun _ => 0)), (fun i => ([] : List (Int64)).getD i 0)) trivial (x_B hP hD) dX3_make_135
                        · skip
                          have c_87 : ¬ gheads ≤ j_84 := fun q => c_87 ((ni_le rfl rfl (by omega) (by omega)).mpr q)
                          refine lv_aload_n hx hb dX3_make_116 rfl (lv_at hl 1 rfl) ?_
                          refine lv_aload_n hx hb dX3_make_117 rfl (lv_at hl 2 rfl) ?_
                          refine x_get S hK hP 4 rfl cfX2 10 lkX3_44 (by decide) rfl dX3_make_118 ?_
                          refine lv_iload_n hx hb dX3_make_121 rfl (lv_at hl 0 rfl) ?_
                          refine x_iald S hK hP 5 rfl (vp_in_nI (by omega) (by decide)) dX3_make_122 ?_
                          refine lv_topi (fun v_88 ev_88 => ?_)
                          refine lv_iconst (v := 1) hx hb dX3_make_123 (by decide) ?_
                          refine lv_iload_n hx hb dX3_make_124 rfl (lv_at hl 0 rfl) ?_
                          refine lv_ishl hx hb dX3_make_125 ?_
                          refine lv_topi (fun v_89 ev_89 => ?_)
                          refine x_muVv (wr := [((o 69), .inl (k 0, 17, .inl g_47)), ((o 70), .inl (k 0, 17, .inl g_67)), ((o 3), .inr (2, [.int glines, .int (nI ghours), .int glaw, .int godds, .int (nI grows), .int (nI gheads), .int (nI gsayings), .int (nI gslugs), .int (nI gacts), .ref (o 26), .ref (o 27), .ref (o 28), .ref (o 29), .ref (o 30), .ref (o 31), .ref (o 32), .ref (o 33), .ref (o 34), .ref (o 35)])), ((o 27), .inl (k 0, 12, .inl f27)), ((o 33), .inl (k 0, 42, .inl f33)), ((o 34), .inl (k 0, 42, .inl f34)), ((o 35), .inl (k 0, 42, .inl f35))]) (As := [.int v_88, .int v_89]) S hK hP hD hZ hS hA hl mwX3_openFrom lkX3_47 (ctX3_openFrom l D k z o g_85 v_88 v_89 ) [0, 3] [1, 2, 4, 5, 6, 7, 8] rfl rfl (by decide) (by decide) (by decide) rfl rfl rfl rfl rfl ⟨Nat.le_of_ble_eq_true rfl, Nat.le_of_ble_eq_true rfl, Nat.le_of_ble_eq_true rfl⟩ dX3_make_126 ⟨Nat.le_of_ble_eq_true rfl, Nat.le_of_ble_eq_true rfl⟩ (fun u_91 H locs hr_90 hP hD hS => ?_)
                          have hP : va_P D vwCl [((o 4), .inr (3, [.ref (o 69), .ref (o 70), .ref (o 71)])), ((o 69), .inl (k 0, 17, .inl g_47)), ((o 70), .inl (k 0, 17, .inl g_67)), ((o 71), .inl (k 0, 17, .inl (u_91.2.2.1 0))), ((o 3), .inr (2, [.int glines, .int (nI ghours), .int glaw, .int godds, .int (nI grows), .int (nI gheads), .int (nI gsayings), .int (nI gslugs), .int (nI gacts), .ref (o 26), .ref (o 27), .ref (o 28), .ref (o 29), .ref (o 30), .ref (o 31), .ref (o 32), .ref (o 33), .ref (o 34), .ref (o 35)])), ((o 27), .inl (k 0, 12, .inl f27)), ((o 33), .inl (k 0, 42, .inl f33)), ((o 34), .inl (k 0, 42, .inl f34)), ((o 35), .inl (k 0, 42, .inl f35))] H := hP.sub [7, 0, 1, 8, 2, 3, 4, 5, 6] rfl
                          have hD : va_D A [((o 4), .inr (3, [.ref (o 69), .ref (o 70), .ref (o 71)])), ((o 69), .inl (k 0, 17, .inl g_47)), ((o 70), .inl (k 0, 17, .inl g_67)), ((o 71), .inl (k 0, 17, .inl (u_91.2.2.1 0))), ((o 3), .inr (2, [.int glines, .int (nI ghours), .int glaw, .int godds, .int (nI grows), .int (nI gheads), .int (nI gsayings), .int (nI gslugs), .int (nI gacts), .ref (o 26), .ref (o 27), .ref (o 28), .ref (o 29), .ref (o 30), .ref (o 31), .ref (o 32), .ref (o 33), .ref (o 34), .ref (o 35)])), ((o 27), .inl (k 0, 12, .inl f27)), ((o 33), .inl (k 0, 42, .inl f33)), ((o 34), .inl (k 0, 42, .inl f34)), ((o 35), .inl (k 0, 42, .inl f35))] := hD.sub [7, 0, 1, 8, 2, 3, 4, 5, 6] (by decide) rfl
                          refine lv_iinc (v := (nI (j_84 + 1))) (lv' := [(2, .int (nI (j_84 + 1))), (0, .ref (o 4)), (1, .ref (o 3))]) hx hb dX3_make_129 hl (k := 0) rfl (ni_inc _) (by decide) rfl (fun ls hl => ?_)
                          refine lv_goto (tgt := 108) hx hb dX3_make_132 (by decide) ?_
                          exact ihj_84 (j_84 + 1) (u_91.2.2.1 0) _ _ _ (by omega) (by omega) hP hD hS (lv_sub hl [0, 1, 2] rfl)
                    exact lp_86 (gheads + 1) 0 g_18 _ _ _ (by omega) (by omega) hP hD hS (lv_sub hl [0, 1, 2] rfl)
                  · skip
                    have c_69 : ¬ 16 < j_66 := fun q => c_69 ((ni_lt (by decide) rfl (by omega) (by omega)).mpr q)
                    refine lv_aload_n hx hb dX3_make_83 rfl (lv_at hl 1 rfl) ?_
                    refine x_get S hK hP 0 rfl cfX3 1 lkX3_15 (by decide) rfl dX3_make_84 ?_
                    refine lv_iload_n hx hb dX3_make_87 rfl (lv_at hl 0 rfl) ?_
                    refine lv_dup2_11 hx hb dX3_make_88 rfl rfl ?_
                    refine x_iald S hK hP 2 rfl (vp_in_nI (by omega) (by decide)) dX3_make_89 ?_
                    refine lv_topi (fun v_92 ev_92 => ?_)
                    refine lv_aload_n hx hb dX3_make_90 rfl (lv_at hl 1 rfl) ?_
                    refine x_get S hK hP 0 rfl cfX3 1 lkX3_15 (by decide) rfl dX3_make_91 ?_
                    refine lv_iload_n hx hb dX3_make_94 rfl (lv_at hl 0 rfl) ?_
                    refine lv_iconst (v := 1) hx hb dX3_make_95 (by decide) ?_
                    refine lv_isub hx hb dX3_make_96 ?_
                    refine x_is (nI (j_66 - 1)) (ni_sub rfl (by decide) (by omega)) ?_
                    refine x_iald S hK hP 2 rfl (vp_in_nI (by omega) (by decide)) dX3_make_97 ?_
                    refine lv_topi (fun v_93 ev_93 => ?_)
                    refine lv_ior hx hb dX3_make_98 ?_
                    refine lv_topi (fun v_94 ev_94 => ?_)
                    refine x_iast (ws' := fun f_95 => [((o 4), .inr (3, [.ref (o 69), .ref (o 70), .ref (o 71)])), ((o 69), .inl (k 0, 17, .inl g_47)), ((o 70), .inl (k 0, 17, .inl f_95)), ((o 71), .inl (k 0, 17, .inl g_18)), ((o 3), .inr (2, [.int glines, .int (nI ghours), .int glaw, .int godds, .int (nI grows), .int (nI gheads), .int (nI gsayings), .int (nI gslugs), .int (nI gacts), .ref (o 26), .ref (o 27), .ref (o 28), .ref (o 29), .ref (o 30), .ref (o 31), .ref (o 32), .ref (o 33), .ref (o 34), .ref (o 35)])), ((o 27), .inl (k 0, 12, .inl f27)), ((o 33), .inl (k 0, 42, .inl f33)), ((o 34), .inl (k 0, 42, .inl f34)), ((o 35), .inl (k 0, 42, .inl f35))]) S hK hP hD hS 2 rfl (vp_in_nI (by omega) (by decide)) (fun _ => rfl) dX3_make_99 (fun f_95 H locs ef_95 hP hD hS => ?_)
                    refine lv_iinc (v := (nI (j_66 + 1))) (lv' := [(2, .int (nI (j_66 + 1))), (0, .ref (o 4)), (1, .ref (o 3))]) hx hb dX3_make_100 hl (k := 0) rfl (ni_inc _) (by decide) rfl (fun ls hl => ?_)
                    refine lv_goto (tgt := 77) hx hb dX3_make_103 (by decide) ?_
                    exact ihj_66 (j_66 + 1) f_95 _ _ _ (by omega) (by omega) (by omega) hP hD hS (lv_sub hl [0, 1, 2] rfl)
              exact lp_68 (17 + 1) 1 g_48 _ _ _ (by omega) (by omega) (by omega) hP hD hS (lv_sub hl [0, 1, 2] rfl)
            · skip
              have c_52 : ¬ gsayings + gslugs + gacts ≤ j_46 := fun q => c_52 ((ni_le rfl rfl (by omega) (by omega)).mpr q)
              refine lv_aload_n hx hb dX3_make_45 rfl (lv_at hl 1 rfl) ?_
              refine lv_aload_n hx hb dX3_make_46 rfl (lv_at hl 2 rfl) ?_
              refine x_get S hK hP 4 rfl cfX2 16 lkX3_27 (by decide) rfl dX3_make_47 ?_
              refine lv_iload_n hx hb dX3_make_50 rfl (lv_at hl 0 rfl) ?_
              refine x_iald S hK hP 6 rfl (vp_in_nI (by omega) (by decide)) dX3_make_51 ?_
              refine lv_topi (fun v_96 ev_96 => ?_)
              refine lv_iconst (v := 1) hx hb dX3_make_52 (by decide) ?_
              refine lv_aload_n hx hb dX3_make_53 rfl (lv_at hl 2 rfl) ?_
              refine x_get S hK hP 4 rfl cfX2 17 lkX3_30 (by decide) rfl dX3_make_54 ?_
              refine lv_iload_n hx hb dX3_make_57 rfl (lv_at hl 0 rfl) ?_
              refine x_iald S hK hP 7 rfl (vp_in_nI (by omega) (by decide)) dX3_make_58 ?_
              refine lv_topi (fun v_97 ev_97 => ?_)
              refine lv_ishl hx hb dX3_make_59 ?_
              refine lv_topi (fun v_98 ev_98 => ?_)
              refine lv_aload_n hx hb dX3_make_60 rfl (lv_at hl 2 rfl) ?_
              refine x_get S hK hP 4 rfl cfX2 18 lkX3_33 (by decide) rfl dX3_make_61 ?_
              refine lv_iload_n hx hb dX3_make_64 rfl (lv_at hl 0 rfl) ?_
              refine x_iald S hK hP 8 rfl (vp_in_nI (by omega) (by decide)) dX3_make_65 ?_
              refine lv_topi (fun v_99 ev_99 => ?_)
              refine x_muVv (wr := [((o 3), .inr (2, [.int glines, .int (nI ghours), .int glaw, .int godds, .int (nI grows), .int (nI gheads), .int (nI gsayings), .int (nI gslugs), .int (nI gacts), .ref (o 26), .ref (o 27), .ref (o 28), .ref (o 29), .ref (o 30), .ref (o 31), .ref (o 32), .ref (o 33), .ref (o 34), .ref (o 35)])), ((o 27), .inl (k 0, 12, .inl f27)), ((o 33), .inl (k 0, 42, .inl f33)), ((o 34), .inl (k 0, 42, .inl f34)), ((o 35), .inl (k 0, 42, .inl f35))]) (As := [.int v_96, .int v_98, .int v_99]) S hK hP hD hZ hS hA hl mwX3_enter lkX3_36 (ctX3_enter l D k z o g_47 g_48 g_18 v_96 v_98 v_99 ) [0, 1, 2, 3] [4, 5, 6, 7, 8] rfl rfl (by decide) (by decide) (by decide) rfl rfl rfl rfl rfl ⟨Nat.le_of_ble_eq_true rfl, Nat.le_of_ble_eq_true rfl, Nat.le_of_ble_eq_true rfl⟩ dX3_make_66 ⟨Nat.le_of_ble_eq_true rfl, Nat.le_of_ble_eq_true rfl⟩ (fun u_101 H locs hr_100 hP hD hS => ?_)
              have hP : va_P D vwCl [((o 4), .inr (3, [.ref (o 69), .ref (o 70), .ref (o 71)])), ((o 69), .inl (k 0, 17, .inl (u_101.2.2.1 0))), ((o 70), .inl (k 0, 17, .inl (u_101.2.2.1 1))), ((o 71), .inl (k 0, 17, .inl g_18)), ((o 3), .inr (2, [.int glines, .int (nI ghours), .int glaw, .int godds, .int (nI grows), .int (nI gheads), .int (nI gsayings), .int (nI gslugs), .int (nI gacts), .ref (o 26), .ref (o 27), .ref (o 28), .ref (o 29), .ref (o 30), .ref (o 31), .ref (o 32), .ref (o 33), .ref (o 34), .ref (o 35)])), ((o 27), .inl (k 0, 12, .inl f27)), ((o 33), .inl (k 0, 42, .inl f33)), ((o 34), .inl (k 0, 42, .inl f34)), ((o 35), .inl (k 0, 42, .inl f35))] H := hP.sub [5, 6, 7, 8, 0, 1, 2, 3, 4] rfl
              have hD : va_D A [((o 4), .inr (3, [.ref (o 69), .ref (o 70), .ref (o 71)])), ((o 69), .inl (k 0, 17, .inl (u_101.2.2.1 0))), ((o 70), .inl (k 0, 17, .inl (u_101.2.2.1 1))), ((o 71), .inl (k 0, 17, .inl g_18)), ((o 3), .inr (2, [.int glines, .int (nI ghours), .int glaw, .int godds, .int (nI grows), .int (nI gheads), .int (nI gsayings), .int (nI gslugs), .int (nI gacts), .ref (o 26), .ref (o 27), .ref (o 28), .ref (o 29), .ref (o 30), .ref (o 31), .ref (o 32), .ref (o 33), .ref (o 34), .ref (o 35)])), ((o 27), .inl (k 0, 12, .inl f27)), ((o 33), .inl (k 0, 42, .inl f33)), ((o 34), .inl (k 0, 42, .inl f34)), ((o 35), .inl (k 0, 42, .inl f35))] := hD.sub [5, 6, 7, 8, 0, 1, 2, 3, 4] (by decide) rfl
              refine lv_iinc (v := (nI (j_46 + 1))) (lv' := [(2, .int (nI (j_46 + 1))), (0, .ref (o 4)), (1, .ref (o 3))]) hx hb dX3_make_69 hl (k := 0) rfl (ni_inc _) (by decide) rfl (fun ls hl => ?_)
              refine lv_goto (tgt := 37) hx hb dX3_make_72 (by decide) ?_
              exact ihj_46 (j_46 + 1) (u_101.2.2.1 0) (u_101.2.2.1 1) _ _ _ (by omega) (by omega) hP hD hS (lv_sub hl [0, 1, 2] rfl)
        exact lp_49 (gsayings + gslugs + gacts + 1) 0 g_16 g_17 _ _ _ (by omega) (by omega) hP hD hS (lv_sub hl [0, 1, 2] rfl)
      · skip
        have c_20 : ¬ 16 < j_15 := fun q => c_20 ((ni_lt (by decide) rfl (by omega) (by omega)).mpr q)
        refine lv_aload_n hx hb dX3_make_8 rfl (lv_at hl 1 rfl) ?_
        refine x_get S hK hP 0 rfl cfX3 0 lkX3_9 (by decide) rfl dX3_make_9 ?_
        refine lv_iload_n hx hb dX3_make_12 rfl (lv_at hl 0 rfl) ?_
        refine lv_iconst (v := 0) hx hb dX3_make_13 (by decide) ?_
        refine x_iast (ws' := fun f_102 => [((o 4), .inr (3, [.ref (o 69), .ref (o 70), .ref (o 71)])), ((o 69), .inl (k 0, 17, .inl f_102)), ((o 70), .inl (k 0, 17, .inl g_17)), ((o 71), .inl (k 0, 17, .inl g_18)), ((o 3), .inr (2, [.int glines, .int (nI ghours), .int glaw, .int godds, .int (nI grows), .int (nI gheads), .int (nI gsayings), .int (nI gslugs), .int (nI gacts), .ref (o 26), .ref (o 27), .ref (o 28), .ref (o 29), .ref (o 30), .ref (o 31), .ref (o 32), .ref (o 33), .ref (o 34), .ref (o 35)])), ((o 27), .inl (k 0, 12, .inl f27)), ((o 33), .inl (k 0, 42, .inl f33)), ((o 34), .inl (k 0, 42, .inl f34)), ((o 35), .inl (k 0, 42, .inl f35))]) S hK hP hD hS 1 rfl (vp_in_nI (by omega) (by decide)) (fun _ => rfl) dX3_make_14 (fun f_102 H locs ef_102 hP hD hS => ?_)
        refine lv_aload_n hx hb dX3_make_15 rfl (lv_at hl 1 rfl) ?_
        refine x_get S hK hP 0 rfl cfX3 1 lkX3_15 (by decide) rfl dX3_make_16 ?_
        refine lv_iload_n hx hb dX3_make_19 rfl (lv_at hl 0 rfl) ?_
        refine lv_iconst (v := 0) hx hb dX3_make_20 (by decide) ?_
        refine x_iast (ws' := fun f_103 => [((o 4), .inr (3, [.ref (o 69), .ref (o 70), .ref (o 71)])), ((o 69), .inl (k 0, 17, .inl f_102)), ((o 70), .inl (k 0, 17, .inl f_103)), ((o 71), .inl (k 0, 17, .inl g_18)), ((o 3), .inr (2, [.int glines, .int (nI ghours), .int glaw, .int godds, .int (nI grows), .int (nI gheads), .int (nI gsayings), .int (nI gslugs), .int (nI gacts), .ref (o 26), .ref (o 27), .ref (o 28), .ref (o 29), .ref (o 30), .ref (o 31), .ref (o 32), .ref (o 33), .ref (o 34), .ref (o 35)])), ((o 27), .inl (k 0, 12, .inl f27)), ((o 33), .inl (k 0, 42, .inl f33)), ((o 34), .inl (k 0, 42, .inl f34)), ((o 35), .inl (k 0, 42, .inl f35))]) S hK hP hD hS 2 rfl (vp_in_nI (by omega) (by decide)) (fun _ => rfl) dX3_make_21 (fun f_103 H locs ef_103 hP hD hS => ?_)
        refine lv_aload_n hx hb dX3_make_22 rfl (lv_at hl 1 rfl) ?_
        refine x_get S hK hP 0 rfl cfX3 2 lkX3_18 (by decide) rfl dX3_make_23 ?_
        refine lv_iload_n hx hb dX3_make_26 rfl (lv_at hl 0 rfl) ?_
        refine lv_iconst (v := 0) hx hb dX3_make_27 (by decide) ?_
        refine x_iast (ws' := fun f_104 => [((o 4), .inr (3, [.ref (o 69), .ref (o 70), .ref (o 71)])), ((o 69), .inl (k 0, 17, .inl f_102)), ((o 70), .inl (k 0, 17, .inl f_103)), ((o 71), .inl (k 0, 17, .inl f_104)), ((o 3), .inr (2, [.int glines, .int (nI ghours), .int glaw, .int godds, .int (nI grows), .int (nI gheads), .int (nI gsayings), .int (nI gslugs), .int (nI gacts), .ref (o 26), .ref (o 27), .ref (o 28), .ref (o 29), .ref (o 30), .ref (o 31), .ref (o 32), .ref (o 33), .ref (o 34), .ref (o 35)])), ((o 27), .inl (k 0, 12, .inl f27)), ((o 33), .inl (k 0, 42, .inl f33)), ((o 34), .inl (k 0, 42, .inl f34)), ((o 35), .inl (k 0, 42, .inl f35))]) S hK hP hD hS 3 rfl (vp_in_nI (by omega) (by decide)) (fun _ => rfl) dX3_make_28 (fun f_104 H locs ef_104 hP hD hS => ?_)
        refine lv_iinc (v := (nI (j_15 + 1))) (lv' := [(2, .int (nI (j_15 + 1))), (0, .ref (o 4)), (1, .ref (o 3))]) hx hb dX3_make_29 hl (k := 0) rfl (ni_inc _) (by decide) rfl (fun ls hl => ?_)
        refine lv_goto (tgt := 2) hx hb dX3_make_32 (by decide) ?_
        exact ihj_15 (j_15 + 1) f_102 f_103 f_104 _ _ _ (by omega) (by omega) hP hD hS (lv_sub hl [0, 1, 2] rfl)
  exact lp_19 (16 + 1 + 1) 0 f69 f70 f71 _ _ _ (by omega) (by omega) hP hD hS (lv_sub hl [0, 1, 2] rfl)

