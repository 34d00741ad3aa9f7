theorem dX2_events_0 : decode cX2_events 0 = .ok (.aload_n 0, 1) := by decide +kernel
theorem dX2_events_1 : decode cX2_events 1 = .ok (.getfield 61, 3) := by decide +kernel
theorem dX2_events_4 : decode cX2_events 4 = .ok (.aload_n 0, 1) := by decide +kernel
theorem dX2_events_5 : decode cX2_events 5 = .ok (.getfield 64, 3) := by decide +kernel
theorem dX2_events_8 : decode cX2_events 8 = .ok (.iadd, 1) := by decide +kernel
theorem dX2_events_9 : decode cX2_events 9 = .ok (.aload_n 0, 1) := by decide +kernel
theorem dX2_events_10 : decode cX2_events 10 = .ok (.getfield 67, 3) := by decide +kernel
theorem dX2_events_13 : decode cX2_events 13 = .ok (.iadd, 1) := by decide +kernel
theorem dX2_events_14 : decode cX2_events 14 = .ok (.ireturn, 1) := by decide +kernel
theorem dX3_make_0 : decode cX3_make 0 = .ok (.iconst 0, 1) := by decide +kernel
theorem dX3_make_1 : decode cX3_make 1 = .ok (.istore_n 2, 1) := by decide +kernel
theorem dX3_make_2 : decode cX3_make 2 = .ok (.iload_n 2, 1) := by decide +kernel
theorem dX3_make_3 : decode cX3_make 3 = .ok (.bipush 16, 2) := by decide +kernel
theorem dX3_make_5 : decode cX3_make 5 = .ok (.if_icmp .gt 30, 3) := by decide +kernel
theorem dX3_make_8 : decode cX3_make 8 = .ok (.aload_n 0, 1) := by decide +kernel
theorem dX3_make_9 : decode cX3_make 9 = .ok (.getfield 9, 3) := by decide +kernel
theorem dX3_make_12 : decode cX3_make 12 = .ok (.iload_n 2, 1) := by decide +kernel
theorem dX3_make_13 : decode cX3_make 13 = .ok (.iconst 0, 1) := by decide +kernel
theorem dX3_make_14 : decode cX3_make 14 = .ok (.iastore, 1) := by decide +kernel
theorem dX3_make_15 : decode cX3_make 15 = .ok (.aload_n 0, 1) := by decide +kernel
theorem dX3_make_16 : decode cX3_make 16 = .ok (.getfield 15, 3) := by decide +kernel
theorem dX3_make_19 : decode cX3_make 19 = .ok (.iload_n 2, 1) := by decide +kernel
theorem dX3_make_20 : decode cX3_make 20 = .ok (.iconst 0, 1) := by decide +kernel
theorem dX3_make_21 : decode cX3_make 21 = .ok (.iastore, 1) := by decide +kernel
theorem dX3_make_22 : decode cX3_make 22 = .ok (.aload_n 0, 1) := by decide +kernel
theorem dX3_make_23 : decode cX3_make 23 = .ok (.getfield 18, 3) := by decide +kernel
theorem dX3_make_26 : decode cX3_make 26 = .ok (.iload_n 2, 1) := by decide +kernel
theorem dX3_make_27 : decode cX3_make 27 = .ok (.iconst 0, 1) := by decide +kernel
theorem dX3_make_28 : decode cX3_make 28 = .ok (.iastore, 1) := by decide +kernel
theorem dX3_make_29 : decode cX3_make 29 = .ok (.iinc 2 1, 3) := by decide +kernel
theorem dX3_make_32 : decode cX3_make 32 = .ok (.goto (-30), 3) := by decide +kernel
theorem dX3_make_35 : decode cX3_make 35 = .ok (.iconst 0, 1) := by decide +kernel
theorem dX3_make_36 : decode cX3_make 36 = .ok (.istore_n 2, 1) := by decide +kernel
theorem dX3_make_37 : decode cX3_make 37 = .ok (.iload_n 2, 1) := by decide +kernel
theorem dX3_make_38 : decode cX3_make 38 = .ok (.aload_n 1, 1) := by decide +kernel
theorem dX3_make_39 : decode cX3_make 39 = .ok (.invokevirtual 21, 3) := by decide +kernel
theorem dX3_make_42 : decode cX3_make 42 = .ok (.if_icmp .ge 33, 3) := by decide +kernel
theorem dX3_make_45 : decode cX3_make 45 = .ok (.aload_n 0, 1) := by decide +kernel
theorem dX3_make_46 : decode cX3_make 46 = .ok (.aload_n 1, 1) := by decide +kernel
theorem dX3_make_47 : decode cX3_make 47 = .ok (.getfield 27, 3) := by decide +kernel
theorem dX3_make_50 : decode cX3_make 50 = .ok (.iload_n 2, 1) := by decide +kernel
theorem dX3_make_51 : decode cX3_make 51 = .ok (.iaload, 1) := by decide +kernel
theorem dX3_make_52 : decode cX3_make 52 = .ok (.iconst 1, 1) := by decide +kernel
theorem dX3_make_53 : decode cX3_make 53 = .ok (.aload_n 1, 1) := by decide +kernel
theorem dX3_make_54 : decode cX3_make 54 = .ok (.getfield 30, 3) := by decide +kernel
theorem dX3_make_57 : decode cX3_make 57 = .ok (.iload_n 2, 1) := by decide +kernel
theorem dX3_make_58 : decode cX3_make 58 = .ok (.iaload, 1) := by decide +kernel
theorem dX3_make_59 : decode cX3_make 59 = .ok (.ishl, 1) := by decide +kernel
theorem dX3_make_60 : decode cX3_make 60 = .ok (.aload_n 1, 1) := by decide +kernel
theorem dX3_make_61 : decode cX3_make 61 = .ok (.getfield 33, 3) := by decide +kernel
theorem dX3_make_64 : decode cX3_make 64 = .ok (.iload_n 2, 1) := by decide +kernel
theorem dX3_make_65 : decode cX3_make 65 = .ok (.iaload, 1) := by decide +kernel
theorem dX3_make_66 : decode cX3_make 66 = .ok (.invokevirtual 36, 3) := by decide +kernel
theorem dX3_make_69 : decode cX3_make 69 = .ok (.iinc 2 1, 3) := by decide +kernel
theorem dX3_make_72 : decode cX3_make 72 = .ok (.goto (-35), 3) := by decide +kernel
theorem dX3_make_75 : decode cX3_make 75 = .ok (.iconst 1, 1) := by decide +kernel
theorem dX3_make_76 : decode cX3_make 76 = .ok (.istore_n 2, 1) := by decide +kernel
theorem dX3_make_77 : decode cX3_make 77 = .ok (.iload_n 2, 1) := by decide +kernel
theorem dX3_make_78 : decode cX3_make 78 = .ok (.bipush 16, 2) := by decide +kernel
theorem dX3_make_80 : decode cX3_make 80 = .ok (.if_icmp .gt 26, 3) := by decide +kernel
theorem dX3_make_83 : decode cX3_make 83 = .ok (.aload_n 0, 1) := by decide +kernel
theorem dX3_make_84 : decode cX3_make 84 = .ok (.getfield 15, 3) := by decide +kernel
theorem dX3_make_87 : decode cX3_make 87 = .ok (.iload_n 2, 1) := by decide +kernel
theorem dX3_make_88 : decode cX3_make 88 = .ok (.dup2, 1) := by decide +kernel
theorem dX3_make_89 : decode cX3_make 89 = .ok (.iaload, 1) := by decide +kernel
theorem dX3_make_90 : decode cX3_make 90 = .ok (.aload_n 0, 1) := by decide +kernel
theorem dX3_make_91 : decode cX3_make 91 = .ok (.getfield 15, 3) := by decide +kernel
theorem dX3_make_94 : decode cX3_make 94 = .ok (.iload_n 2, 1) := by decide +kernel
theorem dX3_make_95 : decode cX3_make 95 = .ok (.iconst 1, 1) := by decide +kernel
theorem dX3_make_96 : decode cX3_make 96 = .ok (.isub, 1) := by decide +kernel
theorem dX3_make_97 : decode cX3_make 97 = .ok (.iaload, 1) := by decide +kernel
theorem dX3_make_98 : decode cX3_make 98 = .ok (.ior, 1) := by decide +kernel
theorem dX3_make_99 : decode cX3_make 99 = .ok (.iastore, 1) := by decide +kernel
theorem dX3_make_100 : decode cX3_make 100 = .ok (.iinc 2 1, 3) := by decide +kernel
theorem dX3_make_103 : decode cX3_make 103 = .ok (.goto (-26), 3) := by decide +kernel
theorem dX3_make_106 : decode cX3_make 106 = .ok (.iconst 0, 1) := by decide +kernel
theorem dX3_make_107 : decode cX3_make 107 = .ok (.istore_n 2, 1) := by decide +kernel
theorem dX3_make_108 : decode cX3_make 108 = .ok (.iload_n 2, 1) := by decide +kernel
theorem dX3_make_109 : decode cX3_make 109 = .ok (.aload_n 1, 1) := by decide +kernel
theorem dX3_make_110 : decode cX3_make 110 = .ok (.getfield 40, 3) := by decide +kernel
theorem dX3_make_113 : decode cX3_make 113 = .ok (.if_icmp .ge 22, 3) := by decide +kernel
theorem dX3_make_116 : decode cX3_make 116 = .ok (.aload_n 0, 1) := by decide +kernel
theorem dX3_make_117 : decode cX3_make 117 = .ok (.aload_n 1, 1) := by decide +kernel
theorem dX3_make_118 : decode cX3_make 118 = .ok (.getfield 44, 3) := by decide +kernel
theorem dX3_make_121 : decode cX3_make 121 = .ok (.iload_n 2, 1) := by decide +kernel
theorem dX3_make_122 : decode cX3_make 122 = .ok (.iaload, 1) := by decide +kernel
theorem dX3_make_123 : decode cX3_make 123 = .ok (.iconst 1, 1) := by decide +kernel
theorem dX3_make_124 : decode cX3_make 124 = .ok (.iload_n 2, 1) := by decide +kernel
theorem dX3_make_125 : decode cX3_make 125 = .ok (.ishl, 1) := by decide +kernel
theorem dX3_make_126 : decode cX3_make 126 = .ok (.invokevirtual 47, 3) := by decide +kernel
theorem dX3_make_129 : decode cX3_make 129 = .ok (.iinc 2 1, 3) := by decide +kernel
theorem dX3_make_132 : decode cX3_make 132 = .ok (.goto (-24), 3) := by decide +kernel
theorem dX3_make_135 : decode cX3_make 135 = .ok (.return_, 1) := by decide +kernel
theorem dX1_asItIs_0 : decode cX1_asItIs 0 = .ok (.aload_n 0, 1) := by decide +kernel
theorem dX1_asItIs_1 : decode cX1_asItIs 1 = .ok (.aload_n 0, 1) := by decide +kernel
theorem dX1_asItIs_2 : decode cX1_asItIs 2 = .ok (.getfield 15, 3) := by decide +kernel
theorem dX1_asItIs_5 : decode cX1_asItIs 5 = .ok (.getfield 23, 3) := by decide +kernel
theorem dX1_asItIs_8 : decode cX1_asItIs 8 = .ok (.putfield 29, 3) := by decide +kernel
theorem dX1_asItIs_11 : decode cX1_asItIs 11 = .ok (.aload_n 0, 1) := by decide +kernel
theorem dX1_asItIs_12 : decode cX1_asItIs 12 = .ok (.iconst 0, 1) := by decide +kernel
theorem dX1_asItIs_13 : decode cX1_asItIs 13 = .ok (.putfield 32, 3) := by decide +kernel
theorem dX1_asItIs_16 : decode cX1_asItIs 16 = .ok (.aload_n 0, 1) := by decide +kernel
theorem dX1_asItIs_17 : decode cX1_asItIs 17 = .ok (.iconst 0, 1) := by decide +kernel
theorem dX1_asItIs_18 : decode cX1_asItIs 18 = .ok (.putfield 35, 3) := by decide +kernel
theorem dX1_asItIs_21 : decode cX1_asItIs 21 = .ok (.aload_n 0, 1) := by decide +kernel
theorem dX1_asItIs_22 : decode cX1_asItIs 22 = .ok (.iconst 0, 1) := by decide +kernel
theorem dX1_asItIs_23 : decode cX1_asItIs 23 = .ok (.putfield 38, 3) := by decide +kernel
theorem dX1_asItIs_26 : decode cX1_asItIs 26 = .ok (.aload_n 0, 1) := by decide +kernel
theorem dX1_asItIs_27 : decode cX1_asItIs 27 = .ok (.iconst 0, 1) := by decide +kernel
theorem dX1_asItIs_28 : decode cX1_asItIs 28 = .ok (.putfield 41, 3) := by decide +kernel
theorem dX1_asItIs_31 : decode cX1_asItIs 31 = .ok (.return_, 1) := by decide +kernel
theorem dX10_heard_0 : decode cX10_heard 0 = .ok (.iload_n 1, 1) := by decide +kernel
theorem dX10_heard_1 : decode cX10_heard 1 = .ok (.bipush 16, 2) := by decide +kernel
theorem dX10_heard_3 : decode cX10_heard 3 = .ok (.ishl, 1) := by decide +kernel
theorem dX10_heard_4 : decode cX10_heard 4 = .ok (.iload_n 1, 1) := by decide +kernel
theorem dX10_heard_5 : decode cX10_heard 5 = .ok (.bipush 16, 2) := by decide +kernel
theorem dX10_heard_7 : decode cX10_heard 7 = .ok (.iushr, 1) := by decide +kernel
theorem dX10_heard_8 : decode cX10_heard 8 = .ok (.ior, 1) := by decide +kernel
theorem dX10_heard_9 : decode cX10_heard 9 = .ok (.istore_n 2, 1) := by decide +kernel
theorem dX10_heard_10 : decode cX10_heard 10 = .ok (.iload_n 0, 1) := by decide +kernel
theorem dX10_heard_11 : decode cX10_heard 11 = .ok (.iload_n 2, 1) := by decide +kernel
theorem dX10_heard_12 : decode cX10_heard 12 = .ok (.iconst (-1), 1) := by decide +kernel
theorem dX10_heard_13 : decode cX10_heard 13 = .ok (.ixor, 1) := by decide +kernel
theorem dX10_heard_14 : decode cX10_heard 14 = .ok (.iand, 1) := by decide +kernel
theorem dX10_heard_15 : decode cX10_heard 15 = .ok (.iload_n 1, 1) := by decide +kernel
theorem dX10_heard_16 : decode cX10_heard 16 = .ok (.ior, 1) := by decide +kernel
theorem dX10_heard_17 : decode cX10_heard 17 = .ok (.ireturn, 1) := by decide +kernel
theorem dX10_inBoth_0 : decode cX10_inBoth 0 = .ok (.iload_n 0, 1) := by decide +kernel
theorem dX10_inBoth_1 : decode cX10_inBoth 1 = .ok (.iload_n 0, 1) := by decide +kernel
theorem dX10_inBoth_2 : decode cX10_inBoth 2 = .ok (.bipush 16, 2) := by decide +kernel
theorem dX10_inBoth_4 : decode cX10_inBoth 4 = .ok (.ishl, 1) := by decide +kernel
theorem dX10_inBoth_5 : decode cX10_inBoth 5 = .ok (.ior, 1) := by decide +kernel
theorem dX10_inBoth_6 : decode cX10_inBoth 6 = .ok (.ireturn, 1) := by decide +kernel
theorem dX1_run_0 : decode cX1_run 0 = .ok (.aload_n 0, 1) := by decide +kernel
theorem dX1_run_1 : decode cX1_run 1 = .ok (.getfield 19, 3) := by decide +kernel
theorem dX1_run_4 : decode cX1_run 4 = .ok (.getfield 51, 3) := by decide +kernel
theorem dX1_run_7 : decode cX1_run 7 = .ok (.iconst 0, 1) := by decide +kernel
theorem dX1_run_8 : decode cX1_run 8 = .ok (.iaload, 1) := by decide +kernel
theorem dX1_run_9 : decode cX1_run 9 = .ok (.aload_n 0, 1) := by decide +kernel
theorem dX1_run_10 : decode cX1_run 10 = .ok (.getfield 35, 3) := by decide +kernel
theorem dX1_run_13 : decode cX1_run 13 = .ok (.invokestatic 56, 3) := by decide +kernel
theorem dX1_run_16 : decode cX1_run 16 = .ok (.aload_n 0, 1) := by decide +kernel
theorem dX1_run_17 : decode cX1_run 17 = .ok (.getfield 38, 3) := by decide +kernel
theorem dX1_run_20 : decode cX1_run 20 = .ok (.invokestatic 56, 3) := by decide +kernel
theorem dX1_run_23 : decode cX1_run 23 = .ok (.aload_n 0, 1) := by decide +kernel
theorem dX1_run_24 : decode cX1_run 24 = .ok (.getfield 19, 3) := by decide +kernel
theorem dX1_run_27 : decode cX1_run 27 = .ok (.getfield 59, 3) := by decide +kernel
theorem dX1_run_30 : decode cX1_run 30 = .ok (.iconst 0, 1) := by decide +kernel
theorem dX1_run_31 : decode cX1_run 31 = .ok (.iaload, 1) := by decide +kernel
theorem dX1_run_32 : decode cX1_run 32 = .ok (.invokestatic 62, 3) := by decide +kernel
theorem dX1_run_35 : decode cX1_run 35 = .ok (.iconst (-1), 1) := by decide +kernel
theorem dX1_run_36 : decode cX1_run 36 = .ok (.ixor, 1) := by decide +kernel
theorem dX1_run_37 : decode cX1_run 37 = .ok (.iand, 1) := by decide +kernel
theorem dX1_run_38 : decode cX1_run 38 = .ok (.istore_n 1, 1) := by decide +kernel
theorem dX1_run_39 : decode cX1_run 39 = .ok (.aload_n 0, 1) := by decide +kernel
theorem dX1_run_40 : decode cX1_run 40 = .ok (.getfield 9, 3) := by decide +kernel
theorem dX1_run_43 : decode cX1_run 43 = .ok (.iconst 0, 1) := by decide +kernel
theorem dX1_run_44 : decode cX1_run 44 = .ok (.iload_n 1, 1) := by decide +kernel
theorem dX1_run_45 : decode cX1_run 45 = .ok (.iastore, 1) := by decide +kernel
theorem dX1_run_46 : decode cX1_run 46 = .ok (.iload_n 1, 1) := by decide +kernel
theorem dX1_run_47 : decode cX1_run 47 = .ok (.istore_n 2, 1) := by decide +kernel
theorem dX1_run_48 : decode cX1_run 48 = .ok (.iconst (-1), 1) := by decide +kernel
theorem dX1_run_49 : decode cX1_run 49 = .ok (.istore_n 3, 1) := by decide +kernel
theorem dX1_run_50 : decode cX1_run 50 = .ok (.iconst 0, 1) := by decide +kernel
theorem dX1_run_51 : decode cX1_run 51 = .ok (.istore 4, 2) := by decide +kernel
theorem dX1_run_53 : decode cX1_run 53 = .ok (.iload 4, 2) := by decide +kernel
theorem dX1_run_55 : decode cX1_run 55 = .ok (.aload_n 0, 1) := by decide +kernel
theorem dX1_run_56 : decode cX1_run 56 = .ok (.getfield 15, 3) := by decide +kernel
theorem dX1_run_59 : decode cX1_run 59 = .ok (.getfield 66, 3) := by decide +kernel
theorem dX1_run_62 : decode cX1_run 62 = .ok (.if_icmp .ge 101, 3) := by decide +kernel
theorem dX1_run_65 : decode cX1_run 65 = .ok (.iload 4, 2) := by decide +kernel
theorem dX1_run_67 : decode cX1_run 67 = .ok (.bipush 16, 2) := by decide +kernel
theorem dX1_run_69 : decode cX1_run 69 = .ok (.if_icmp .ge 94, 3) := by decide +kernel
theorem dX1_run_72 : decode cX1_run 72 = .ok (.aload_n 0, 1) := by decide +kernel
theorem dX1_run_73 : decode cX1_run 73 = .ok (.iload 4, 2) := by decide +kernel
theorem dX1_run_75 : decode cX1_run 75 = .ok (.invokevirtual 69, 3) := by decide +kernel
theorem dX1_run_78 : decode cX1_run 78 = .ok (.istore 5, 2) := by decide +kernel
theorem dX1_run_80 : decode cX1_run 80 = .ok (.iload_n 1, 1) := by decide +kernel
theorem dX1_run_81 : decode cX1_run 81 = .ok (.iload_n 2, 1) := by decide +kernel
theorem dX1_run_82 : decode cX1_run 82 = .ok (.if_icmp .ne 13, 3) := by decide +kernel
theorem dX1_run_85 : decode cX1_run 85 = .ok (.iload 5, 2) := by decide +kernel
theorem dX1_run_87 : decode cX1_run 87 = .ok (.iload_n 3, 1) := by decide +kernel
theorem dX1_run_88 : decode cX1_run 88 = .ok (.if_icmp .ne 7, 3) := by decide +kernel
theorem dX1_run_91 : decode cX1_run 91 = .ok (.iconst 1, 1) := by decide +kernel
theorem dX1_run_92 : decode cX1_run 92 = .ok (.goto 4, 3) := by decide +kernel
theorem dX1_run_95 : decode cX1_run 95 = .ok (.iconst 0, 1) := by decide +kernel
theorem dX1_run_96 : decode cX1_run 96 = .ok (.istore 6, 2) := by decide +kernel
theorem dX1_run_98 : decode cX1_run 98 = .ok (.iload 6, 2) := by decide +kernel
theorem dX1_run_100 : decode cX1_run 100 = .ok (.ifCond .ne 37, 3) := by decide +kernel
theorem dX1_run_103 : decode cX1_run 103 = .ok (.aload_n 0, 1) := by decide +kernel
theorem dX1_run_104 : decode cX1_run 104 = .ok (.getfield 41, 3) := by decide +kernel
theorem dX1_run_107 : decode cX1_run 107 = .ok (.iload 4, 2) := by decide +kernel
theorem dX1_run_109 : decode cX1_run 109 = .ok (.iushr, 1) := by decide +kernel
theorem dX1_run_110 : decode cX1_run 110 = .ok (.iconst 1, 1) := by decide +kernel
theorem dX1_run_111 : decode cX1_run 111 = .ok (.iand, 1) := by decide +kernel
theorem dX1_run_112 : decode cX1_run 112 = .ok (.ifCond .ne 25, 3) := by decide +kernel
theorem dX1_run_115 : decode cX1_run 115 = .ok (.iload_n 1, 1) := by decide +kernel
theorem dX1_run_116 : decode cX1_run 116 = .ok (.istore_n 2, 1) := by decide +kernel
theorem dX1_run_117 : decode cX1_run 117 = .ok (.aload_n 0, 1) := by decide +kernel
theorem dX1_run_118 : decode cX1_run 118 = .ok (.iload 5, 2) := by decide +kernel
theorem dX1_run_120 : decode cX1_run 120 = .ok (.iload_n 1, 1) := by decide +kernel
theorem dX1_run_121 : decode cX1_run 121 = .ok (.invokevirtual 72, 3) := by decide +kernel
theorem dX1_run_124 : decode cX1_run 124 = .ok (.istore_n 1, 1) := by decide +kernel
theorem dX1_run_125 : decode cX1_run 125 = .ok (.iload_n 1, 1) := by decide +kernel
theorem dX1_run_126 : decode cX1_run 126 = .ok (.iload_n 2, 1) := by decide +kernel
theorem dX1_run_127 : decode cX1_run 127 = .ok (.if_icmp .ne 8, 3) := by decide +kernel
theorem dX1_run_130 : decode cX1_run 130 = .ok (.iload 5, 2) := by decide +kernel
theorem dX1_run_132 : decode cX1_run 132 = .ok (.goto 4, 3) := by decide +kernel
theorem dX1_run_135 : decode cX1_run 135 = .ok (.iconst (-1), 1) := by decide +kernel
theorem dX1_run_136 : decode cX1_run 136 = .ok (.istore_n 3, 1) := by decide +kernel
theorem dX1_run_137 : decode cX1_run 137 = .ok (.aload_n 0, 1) := by decide +kernel
theorem dX1_run_138 : decode cX1_run 138 = .ok (.iload 4, 2) := by decide +kernel
theorem dX1_run_140 : decode cX1_run 140 = .ok (.iconst 1, 1) := by decide +kernel
theorem dX1_run_141 : decode cX1_run 141 = .ok (.iadd, 1) := by decide +kernel
theorem dX1_run_142 : decode cX1_run 142 = .ok (.iload_n 1, 1) := by decide +kernel
theorem dX1_run_143 : decode cX1_run 143 = .ok (.invokevirtual 75, 3) := by decide +kernel
theorem dX1_run_146 : decode cX1_run 146 = .ok (.istore_n 1, 1) := by decide +kernel
theorem dX1_run_147 : decode cX1_run 147 = .ok (.aload_n 0, 1) := by decide +kernel
theorem dX1_run_148 : decode cX1_run 148 = .ok (.getfield 9, 3) := by decide +kernel
theorem dX1_run_151 : decode cX1_run 151 = .ok (.iload 4, 2) := by decide +kernel
theorem dX1_run_153 : decode cX1_run 153 = .ok (.iconst 1, 1) := by decide +kernel
theorem dX1_run_154 : decode cX1_run 154 = .ok (.iadd, 1) := by decide +kernel
theorem dX1_run_155 : decode cX1_run 155 = .ok (.iload_n 1, 1) := by decide +kernel
theorem dX1_run_156 : decode cX1_run 156 = .ok (.iastore, 1) := by decide +kernel
theorem dX1_run_157 : decode cX1_run 157 = .ok (.iinc 4 1, 3) := by decide +kernel
theorem dX1_run_160 : decode cX1_run 160 = .ok (.goto (-107), 3) := by decide +kernel
theorem dX1_run_163 : decode cX1_run 163 = .ok (.return_, 1) := by decide +kernel
theorem dX8_forget_0 : decode cX8_forget 0 = .ok (.iconst 0, 1) := by decide +kernel
theorem dX8_forget_1 : decode cX8_forget 1 = .ok (.istore_n 1, 1) := by decide +kernel
theorem dX8_forget_2 : decode cX8_forget 2 = .ok (.iload_n 1, 1) := by decide +kernel
theorem dX8_forget_3 : decode cX8_forget 3 = .ok (.iconst 3, 1) := by decide +kernel
theorem dX8_forget_4 : decode cX8_forget 4 = .ok (.if_icmp .ge 24, 3) := by decide +kernel
theorem dX8_forget_7 : decode cX8_forget 7 = .ok (.aload_n 0, 1) := by decide +kernel
theorem dX8_forget_8 : decode cX8_forget 8 = .ok (.getfield 11, 3) := by decide +kernel
theorem dX8_forget_11 : decode cX8_forget 11 = .ok (.iload_n 1, 1) := by decide +kernel
theorem dX8_forget_12 : decode cX8_forget 12 = .ok (.bipush (-2), 2) := by decide +kernel
theorem dX8_forget_14 : decode cX8_forget 14 = .ok (.iastore, 1) := by decide +kernel
theorem dX8_forget_15 : decode cX8_forget 15 = .ok (.aload_n 0, 1) := by decide +kernel
theorem dX8_forget_16 : decode cX8_forget 16 = .ok (.getfield 20, 3) := by decide +kernel
theorem dX8_forget_19 : decode cX8_forget 19 = .ok (.iload_n 1, 1) := by decide +kernel
theorem dX8_forget_20 : decode cX8_forget 20 = .ok (.iconst 0, 1) := by decide +kernel
theorem dX8_forget_21 : decode cX8_forget 21 = .ok (.bastore, 1) := by decide +kernel
theorem dX8_forget_22 : decode cX8_forget 22 = .ok (.iinc 1 1, 3) := by decide +kernel
theorem dX8_forget_25 : decode cX8_forget 25 = .ok (.goto (-23), 3) := by decide +kernel
theorem dX8_forget_28 : decode cX8_forget 28 = .ok (.return_, 1) := by decide +kernel
theorem dX0_forget_0 : decode cX0_forget 0 = .ok (.aload_n 0, 1) := by decide +kernel
theorem dX0_forget_1 : decode cX0_forget 1 = .ok (.bipush (-2), 2) := by decide +kernel
theorem dX0_forget_3 : decode cX0_forget 3 = .ok (.putfield 11, 3) := by decide +kernel
theorem dX0_forget_6 : decode cX0_forget 6 = .ok (.return_, 1) := by decide +kernel
theorem dX10_retell_0 : decode cX10_retell 0 = .ok (.aload_n 0, 1) := by decide +kernel
theorem dX10_retell_1 : decode cX10_retell 1 = .ok (.getfield 29, 3) := by decide +kernel
theorem dX10_retell_4 : decode cX10_retell 4 = .ok (.aload_n 0, 1) := by decide +kernel
theorem dX10_retell_5 : decode cX10_retell 5 = .ok (.getfield 23, 3) := by decide +kernel
theorem dX10_retell_8 : decode cX10_retell 8 = .ok (.invokevirtual 472, 3) := by decide +kernel
theorem dX10_retell_11 : decode cX10_retell 11 = .ok (.aload_n 0, 1) := by decide +kernel
theorem dX10_retell_12 : decode cX10_retell 12 = .ok (.getfield 38, 3) := by decide +kernel
theorem dX10_retell_15 : decode cX10_retell 15 = .ok (.invokevirtual 475, 3) := by decide +kernel
theorem dX10_retell_18 : decode cX10_retell 18 = .ok (.aload_n 0, 1) := by decide +kernel
theorem dX10_retell_19 : decode cX10_retell 19 = .ok (.getfield 38, 3) := by decide +kernel
theorem dX10_retell_22 : decode cX10_retell 22 = .ok (.invokevirtual 359, 3) := by decide +kernel
theorem dX10_retell_25 : decode cX10_retell 25 = .ok (.aload_n 0, 1) := by decide +kernel
theorem dX10_retell_26 : decode cX10_retell 26 = .ok (.getfield 57, 3) := by decide +kernel
theorem dX10_retell_29 : decode cX10_retell 29 = .ok (.invokevirtual 478, 3) := by decide +kernel
theorem dX10_retell_32 : decode cX10_retell 32 = .ok (.aload_n 0, 1) := by decide +kernel
theorem dX10_retell_33 : decode cX10_retell 33 = .ok (.getfield 66, 3) := by decide +kernel
theorem dX10_retell_36 : decode cX10_retell 36 = .ok (.invokevirtual 481, 3) := by decide +kernel
theorem dX10_retell_39 : decode cX10_retell 39 = .ok (.return_, 1) := by decide +kernel

set_option maxHeartbeats 4000000 in
set_option maxRecDepth 100000 in
theorem ctX2_events (l : Launch) (D : va_G) (k : Nat → ClassId) (o : Nat → Nat)  : RO l yX2_events cX2_events 1 (some .int) 0 D k [.ref (o 3)] [((o 3), .inr (2, [.int 0, .int 0, .int 0, .int 0, .int 0, .int 0, .int 0, .int 0, .int 0, .ref (o 26), .ref (o 27), .ref (o 28), .ref (o 29), .ref (o 30), .ref (o 31), .ref (o 32), .ref (o 33), .ref (o 34), .ref (o 35)]))] (Qi (fun r : Int32 => r = 0)) := by
  refine RO.of (by decide) (Nat.le_of_ble_eq_true rfl) ?_
  intro p e s m below meth c ls A args Q S hr hlk hQ hK hP hDW hA hS hl
  have hx := S.1
  have hb := S.2.1
  have hl : lv_has ls 1 [(0, .ref (o 3))] := hl
  refine lv_aload_n hx hb dX2_events_0 rfl (lv_at hl 0 rfl) ?_
  refine x_get S hK hP 0 rfl cfX2 6 lkX2_61 (by decide) rfl dX2_events_1 ?_
  refine lv_aload_n hx hb dX2_events_4 rfl (lv_at hl 0 rfl) ?_
  refine x_get S hK hP 0 rfl cfX2 7 lkX2_64 (by decide) rfl dX2_events_5 ?_
  refine lv_iadd hx hb dX2_events_8 ?_
  refine x_is 0 (by decide) ?_
  refine lv_aload_n hx hb dX2_events_9 rfl (lv_at hl 0 rfl) ?_
  refine x_get S hK hP 0 rfl cfX2 8 lkX2_67 (by decide) rfl dX2_events_10 ?_
  refine lv_iadd hx hb dX2_events_13 ?_
  refine x_is 0 (by decide) ?_
  exact x_reti S hr hlk hQ hS () rfl x_T dX2_events_14

set_option maxHeartbeats 4000000 in
set_option maxRecDepth 100000 in
theorem ctX3_make (l : Launch) (D : va_G) (k : Nat → ClassId) (o : Nat → Nat) (f0 : Nat → Int32) (f1 : Nat → Int32) (f2 : Nat → Int32)  : MU l yX3_make cX3_make 3 none 1 D k [.ref (o 4), .ref (o 3)] [((o 4), .inr (3, [.ref (o 69), .ref (o 70), .ref (o 71)])), ((o 69), .inl (k 0, 17, .inl f0)), ((o 70), .inl (k 0, 17, .inl f1)), ((o 71), .inl (k 0, 17, .inl f2)), ((o 3), .inr (2, [.int 0, .int 0, .int 0, .int 0, .int 0, .int 0, .int 0, .int 0, .int 0, .ref (o 26), .ref (o 27), .ref (o 28), .ref (o 29), .ref (o 30), .ref (o 31), .ref (o 32), .ref (o 33), .ref (o 34), .ref (o 35)]))] 0 0 (Uv D (fun _ : Nat → Nat → Int32 => True) (fun u : Nat → Nat → Int32 => [((o 4), .inr (3, [.ref (o 69), .ref (o 70), .ref (o 71)])), ((o 69), .inl (k 0, 17, .inl (u 0))), ((o 70), .inl (k 0, 17, .inl (u 1))), ((o 71), .inl (k 0, 17, .inl (u 2))), ((o 3), .inr (2, [.int 0, .int 0, .int 0, .int 0, .int 0, .int 0, .int 0, .int 0, .int 0, .ref (o 26), .ref (o 27), .ref (o 28), .ref (o 29), .ref (o 30), .ref (o 31), .ref (o 32), .ref (o 33), .ref (o 34), .ref (o 35)]))])) := by
  refine MU.of (by decide) (Nat.le_of_ble_eq_true rfl) ?_
  intro p e s m below meth c ls A args Q S hr hlk hnm hQ hK hP hD hA hS hl
  have hx := S.1
  have hb := S.2.1
  have hl : lv_has ls 3 [(0, .ref (o 4)), (1, .ref (o 3))] := hl
  refine lv_iconst (v := 0) hx hb dX3_make_0 (by decide) ?_
  refine lv_istore_n (lv' := [(2, .int 0), (0, .ref (o 4)), (1, .ref (o 3))]) hx hb dX3_make_1 rfl hl (by decide) rfl (fun ls hl => ?_)
  have lp_5 : ∀ (nn j_1 : Nat) (g_2 : Nat → Int32) (g_3 : Nat → Int32) (g_4 : Nat → Int32) (H : Heap) (locs : List Loc) (ls : Array Slot), j_1 ≤ 17 → 17 - j_1 < nn → va_P D vwCl [((o 4), .inr (3, [.ref (o 69), .ref (o 70), .ref (o 71)])), ((o 69), .inl (k 0, 17, .inl g_2)), ((o 70), .inl (k 0, 17, .inl g_3)), ((o 71), .inl (k 0, 17, .inl g_4)), ((o 3), .inr (2, [.int 0, .int 0, .int 0, .int 0, .int 0, .int 0, .int 0, .int 0, .int 0, .ref (o 26), .ref (o 27), .ref (o 28), .ref (o 29), .ref (o 30), .ref (o 31), .ref (o 32), .ref (o 33), .ref (o 34), .ref (o 35)]))] H → va_D A [((o 4), .inr (3, [.ref (o 69), .ref (o 70), .ref (o 71)])), ((o 69), .inl (k 0, 17, .inl g_2)), ((o 70), .inl (k 0, 17, .inl g_3)), ((o 71), .inl (k 0, 17, .inl g_4)), ((o 3), .inr (2, [.int 0, .int 0, .int 0, .int 0, .int 0, .int 0, .int 0, .int 0, .int 0, .ref (o 26), .ref (o 27), .ref (o 28), .ref (o 29), .ref (o 30), .ref (o 31), .ref (o 32), .ref (o 33), .ref (o 34), .ref (o 35)]))] → va_S A s.heap H locs → lv_has ls 3 [(2, .int (nI j_1)), (0, .ref (o 4)), (1, .ref (o 3))] → W p l e (Rm 1 0 0) s m args below meth c H locs 0 0 Q (F0 m 2 ls []) := by
    intro nn
    induction nn with
    | zero => intro j_1 g_2 g_3 g_4 H locs ls hjj_1 hnj_1; exact absurd hnj_1 (by omega)
    | succ nn ihj_1 =>
      intro j_1 g_2 g_3 g_4 H locs ls hjj_1 hnj_1 hP hD hS hl
      refine lv_iload_n hx hb dX3_make_2 rfl (lv_at hl 0 rfl) ?_
      refine lv_bipush (v := 16) hx hb dX3_make_3 (by decide) ?_
      refine lv_icmp_gt (tgt := 35) hx hb dX3_make_5 (by decide) (fun c_6 => ?_) (fun c_6 => ?_)
      · skip
        have c_6 : 16 < j_1 := (ni_lt (by decide) rfl (by omega) (by omega)).mp c_6
        refine lv_iconst (v := 0) hx hb dX3_make_35 (by decide) ?_
        refine lv_istore_n (lv' := [(2, .int 0), (0, .ref (o 4)), (1, .ref (o 3))]) hx hb dX3_make_36 rfl hl (by decide) rfl (fun ls hl => ?_)
        refine lv_iload_n hx hb dX3_make_37 rfl (lv_at hl 0 rfl) ?_
        refine lv_aload_n hx hb dX3_make_38 rfl (lv_at hl 2 rfl) ?_
        refine x_roVi (As := []) S hK hP hS hA hl mwX2_events lkX3_21 (ctX2_events l D k o ) [4] rfl ((hD.sub [4] (by decide) rfl).weaken (fun _ _ _ _ => trivial)) rfl rfl rfl rfl rfl ⟨Nat.le_of_ble_eq_true rfl, Nat.le_of_ble_eq_true rfl, Nat.le_of_ble_eq_true rfl⟩ dX3_make_39 ⟨Nat.le_of_ble_eq_true rfl, Nat.le_of_ble_eq_true rfl⟩ (fun r_7 H locs hr_7 hP hS => ?_)
        subst hr_7
        refine lv_icmp_ge (tgt := 75) hx hb dX3_make_42 (by decide) (fun c_8 => ?_) (fun c_8 => absurd (by decide) c_8)
        refine lv_iconst (v := 1) hx hb dX3_make_75 (by decide) ?_
        refine lv_istore_n (lv' := [(2, .int 1), (0, .ref (o 4)), (1, .ref (o 3))]) hx hb dX3_make_76 rfl hl (by decide) rfl (fun ls hl => ?_)
        have lp_11 : ∀ (nn j_9 : Nat) (g_10 : Nat → Int32) (H : Heap) (locs : List Loc) (ls : Array Slot), 1 ≤ j_9 → j_9 ≤ 17 → 17 - j_9 < nn → va_P D vwCl [((o 4), .inr (3, [.ref (o 69), .ref (o 70), .ref (o 71)])), ((o 69), .inl (k 0, 17, .inl g_2)), ((o 70), .inl (k 0, 17, .inl g_10)), ((o 71), .inl (k 0, 17, .inl g_4)), ((o 3), .inr (2, [.int 0, .int 0, .int 0, .int 0, .int 0, .int 0, .int 0, .int 0, .int 0, .ref (o 26), .ref (o 27), .ref (o 28), .ref (o 29), .ref (o 30), .ref (o 31), .ref (o 32), .ref (o 33), .ref (o 34), .ref (o 35)]))] H → va_D A [((o 4), .inr (3, [.ref (o 69), .ref (o 70), .ref (o 71)])), ((o 69), .inl (k 0, 17, .inl g_2)), ((o 70), .inl (k 0, 17, .inl g_10)), ((o 71), .inl (k 0, 17, .inl g_4)), ((o 3), .inr (2, [.int 0, .int 0, .int 0, .int 0, .int 0, .int 0, .int 0, .int 0, .int 0, .ref (o 26), .ref (o 27), .ref (o 28), .ref (o 29), .ref (o 30), .ref (o 31), .ref (o 32), .ref (o 33), .ref (o 34), .ref (o 35)]))] → va_S A s.heap H locs → lv_has ls 3 [(2, .int (nI j_9)), (0, .ref (o 4)), (1, .ref (o 3))] → W p l e (Rm 1 0 0) s m args below meth c H locs 0 0 Q (F0 m 77 ls []) := by
          intro nn
          induction nn with
          | zero => intro j_9 g_10 H locs ls hlj_9 hjj_9 hnj_9; exact absurd hnj_9 (by omega)
          | succ nn ihj_9 =>
            intro j_9 g_10 H locs ls hlj_9 hjj_9 hnj_9 hP hD hS hl
            refine lv_iload_n hx hb dX3_make_77 rfl (lv_at hl 0 rfl) ?_
            refine lv_bipush (v := 16) hx hb dX3_make_78 (by decide) ?_
            refine lv_icmp_gt (tgt := 106) hx hb dX3_make_80 (by decide) (fun c_12 => ?_) (fun c_12 => ?_)
            · skip
              have c_12 : 16 < j_9 := (ni_lt (by decide) rfl (by omega) (by omega)).mp c_12
              refine lv_iconst (v := 0) hx hb dX3_make_106 (by decide) ?_
              refine lv_istore_n (lv' := [(2, .int 0), (0, .ref (o 4)), (1, .ref (o 3))]) hx hb dX3_make_107 rfl hl (by decide) rfl (fun ls hl => ?_)
              refine lv_iload_n hx hb dX3_make_108 rfl (lv_at hl 0 rfl) ?_
              refine lv_aload_n hx hb dX3_make_109 rfl (lv_at hl 2 rfl) ?_
              refine x_get S hK hP 4 rfl cfX2 5 lkX3_40 (by decide) rfl dX3_make_110 ?_
              refine lv_icmp_ge (tgt := 135) hx hb dX3_make_113 (by decide) (fun c_13 => ?_) (fun c_13 => absurd (by decide) c_13)
              exact x_retv S hr hlk hQ hS (fun i => ([g_2, g_10, g_4] : List (Nat → Int32)).getD i (fun _ => 0)) trivial (x_B (hP.sub [0, 1, 2, 3, 4] rfl) (hD.sub [0, 1, 2, 3, 4] (by decide) rfl)) dX3_make_135
            · skip
              have c_12 : ¬ 16 < j_9 := fun q => c_12 ((ni_lt (by decide) rfl (by omega) (by omega)).mpr q)
              refine lv_aload_n hx hb dX3_make_83 rfl (lv_at hl 1 rfl) ?_
              refine x_get S hK hP 0 rfl cfX3 1 lkX3_15 (by decide) rfl dX3_make_84 ?_
              refine lv_iload_n hx hb dX3_make_87 rfl (lv_at hl 0 rfl) ?_
              refine lv_dup2_11 hx hb dX3_make_88 rfl rfl ?_
              refine x_iald S hK hP 2 rfl (vp_in_nI (by omega) (by decide)) dX3_make_89 ?_
              refine lv_topi (fun v_14 ev_14 => ?_)
              refine lv_aload_n hx hb dX3_make_90 rfl (lv_at hl 1 rfl) ?_
              refine x_get S hK hP 0 rfl cfX3 1 lkX3_15 (by decide) rfl dX3_make_91 ?_
              refine lv_iload_n hx hb dX3_make_94 rfl (lv_at hl 0 rfl) ?_
              refine lv_iconst (v := 1) hx hb dX3_make_95 (by decide) ?_
              refine lv_isub hx hb dX3_make_96 ?_
              refine x_is (nI (j_9 - 1)) (ni_sub rfl (by decide) (by omega)) ?_
              refine x_iald S hK hP 2 rfl (vp_in_nI (by omega) (by decide)) dX3_make_97 ?_
              refine lv_topi (fun v_15 ev_15 => ?_)
              refine lv_ior hx hb dX3_make_98 ?_
              refine lv_topi (fun v_16 ev_16 => ?_)
              refine x_iast (ws' := fun f_17 => [((o 4), .inr (3, [.ref (o 69), .ref (o 70), .ref (o 71)])), ((o 69), .inl (k 0, 17, .inl g_2)), ((o 70), .inl (k 0, 17, .inl f_17)), ((o 71), .inl (k 0, 17, .inl g_4)), ((o 3), .inr (2, [.int 0, .int 0, .int 0, .int 0, .int 0, .int 0, .int 0, .int 0, .int 0, .ref (o 26), .ref (o 27), .ref (o 28), .ref (o 29), .ref (o 30), .ref (o 31), .ref (o 32), .ref (o 33), .ref (o 34), .ref (o 35)]))]) S hK hP hD hS 2 rfl (vp_in_nI (by omega) (by decide)) (fun _ => rfl) dX3_make_99 (fun f_17 H locs ef_17 hP hD hS => ?_)
              refine lv_iinc (v := (nI (j_9 + 1))) (lv' := [(2, .int (nI (j_9 + 1))), (0, .ref (o 4)), (1, .ref (o 3))]) hx hb dX3_make_100 hl (k := 0) rfl (ni_inc _) (by decide) rfl (fun ls hl => ?_)
              refine lv_goto (tgt := 77) hx hb dX3_make_103 (by decide) ?_
              exact ihj_9 (j_9 + 1) f_17 _ _ _ (by omega) (by omega) (by omega) hP hD hS (lv_sub hl [0, 1, 2] rfl)
        exact lp_11 (17 + 1) 1 g_3 _ _ _ (by omega) (by omega) (by omega) hP hD hS (lv_sub hl [0, 1, 2] rfl)
      · skip
        have c_6 : ¬ 16 < j_1 := fun q => c_6 ((ni_lt (by decide) rfl (by omega) (by omega)).mpr q)
        refine lv_aload_n hx hb dX3_make_8 rfl (lv_at hl 1 rfl) ?_
        refine x_get S hK hP 0 rfl cfX3 0 lkX3_9 (by decide) rfl dX3_make_9 ?_
        refine lv_iload_n hx hb dX3_make_12 rfl (lv_at hl 0 rfl) ?_
        refine lv_iconst (v := 0) hx hb dX3_make_13 (by decide) ?_
        refine x_iast (ws' := fun f_18 => [((o 4), .inr (3, [.ref (o 69), .ref (o 70), .ref (o 71)])), ((o 69), .inl (k 0, 17, .inl f_18)), ((o 70), .inl (k 0, 17, .inl g_3)), ((o 71), .inl (k 0, 17, .inl g_4)), ((o 3), .inr (2, [.int 0, .int 0, .int 0, .int 0, .int 0, .int 0, .int 0, .int 0, .int 0, .ref (o 26), .ref (o 27), .ref (o 28), .ref (o 29), .ref (o 30), .ref (o 31), .ref (o 32), .ref (o 33), .ref (o 34), .ref (o 35)]))]) S hK hP hD hS 1 rfl (vp_in_nI (by omega) (by decide)) (fun _ => rfl) dX3_make_14 (fun f_18 H locs ef_18 hP hD hS => ?_)
        refine lv_aload_n hx hb dX3_make_15 rfl (lv_at hl 1 rfl) ?_
        refine x_get S hK hP 0 rfl cfX3 1 lkX3_15 (by decide) rfl dX3_make_16 ?_
        refine lv_iload_n hx hb dX3_make_19 rfl (lv_at hl 0 rfl) ?_
        refine lv_iconst (v := 0) hx hb dX3_make_20 (by decide) ?_
        refine x_iast (ws' := fun f_19 => [((o 4), .inr (3, [.ref (o 69), .ref (o 70), .ref (o 71)])), ((o 69), .inl (k 0, 17, .inl f_18)), ((o 70), .inl (k 0, 17, .inl f_19)), ((o 71), .inl (k 0, 17, .inl g_4)), ((o 3), .inr (2, [.int 0, .int 0, .int 0, .int 0, .int 0, .int 0, .int 0, .int 0, .int 0, .ref (o 26), .ref (o 27), .ref (o 28), .ref (o 29), .ref (o 30), .ref (o 31), .ref (o 32), .ref (o 33), .ref (o 34), .ref (o 35)]))]) S hK hP hD hS 2 rfl (vp_in_nI (by omega) (by decide)) (fun _ => rfl) dX3_make_21 (fun f_19 H locs ef_19 hP hD hS => ?_)
        refine lv_aload_n hx hb dX3_make_22 rfl (lv_at hl 1 rfl) ?_
        refine x_get S hK hP 0 rfl cfX3 2 lkX3_18 (by decide) rfl dX3_make_23 ?_
        refine lv_iload_n hx hb dX3_make_26 rfl (lv_at hl 0 rfl) ?_
        refine lv_iconst (v := 0) hx hb dX3_make_27 (by decide) ?_
        refine x_iast (ws' := fun f_20 => [((o 4), .inr (3, [.ref (o 69), .ref (o 70), .ref (o 71)])), ((o 69), .inl (k 0, 17, .inl f_18)), ((o 70), .inl (k 0, 17, .inl f_19)), ((o 71), .inl (k 0, 17, .inl f_20)), ((o 3), .inr (2, [.int 0, .int 0, .int 0, .int 0, .int 0, .int 0, .int 0, .int 0, .int 0, .ref (o 26), .ref (o 27), .ref (o 28), .ref (o 29), .ref (o 30), .ref (o 31), .ref (o 32), .ref (o 33), .ref (o 34), .ref (o 35)]))]) S hK hP hD hS 3 rfl (vp_in_nI (by omega) (by decide)) (fun _ => rfl) dX3_make_28 (fun f_20 H locs ef_20 hP hD hS => ?_)
        refine lv_iinc (v := (nI (j_1 + 1))) (lv' := [(2, .int (nI (j_1 + 1))), (0, .ref (o 4)), (1, .ref (o 3))]) hx hb dX3_make_29 hl (k := 0) rfl (ni_inc _) (by decide) rfl (fun ls hl => ?_)
        refine lv_goto (tgt := 2) hx hb dX3_make_32 (by decide) ?_
        exact ihj_1 (j_1 + 1) f_18 f_19 f_20 _ _ _ (by omega) (by omega) hP hD hS (lv_sub hl [0, 1, 2] rfl)
  exact lp_5 (17 + 1) 0 f0 f1 f2 _ _ _ (by omega) (by omega) hP hD hS (lv_sub hl [0, 1, 2] rfl)

set_option maxHeartbeats 4000000 in
set_option maxRecDepth 100000 in
theorem ctX1_asItIs (l : Launch) (D : va_G) (k : Nat → ClassId) (o : Nat → Nat)  : MU l yX1_asItIs cX1_asItIs 1 none 0 D k [.ref (o 5)] [((o 5), .inr (1, [.ref (o 3), .ref (o 4), .int 0, .int 0, .int 0, .int 0, .int 0, .ref (o 72)])), ((o 3), .inr (2, [.int 0, .int 0, .int 0, .int 0, .int 0, .int 0, .int 0, .int 0, .int 0, .ref (o 26), .ref (o 27), .ref (o 28), .ref (o 29), .ref (o 30), .ref (o 31), .ref (o 32), .ref (o 33), .ref (o 34), .ref (o 35)]))] 0 0 (Uv D (fun _ : Unit => True) (fun u : Unit => [((o 5), .inr (1, [.ref (o 3), .ref (o 4), .int 0, .int 0, .int 0, .int 0, .int 0, .ref (o 72)])), ((o 3), .inr (2, [.int 0, .int 0, .int 0, .int 0, .int 0, .int 0, .int 0, .int 0, .int 0, .ref (o 26), .ref (o 27), .ref (o 28), .ref (o 29), .ref (o 30), .ref (o 31), .ref (o 32), .ref (o 33), .ref (o 34), .ref (o 35)]))])) := by
  refine MU.of (by decide) (Nat.le_of_ble_eq_true rfl) ?_
  intro p e s m below meth c ls A args Q S hr hlk hnm hQ hK hP hD hA hS hl
  have hx := S.1
  have hb := S.2.1
  have hl : lv_has ls 1 [(0, .ref (o 5))] := hl
  refine lv_aload_n hx hb dX1_asItIs_0 rfl (lv_at hl 0 rfl) ?_
  refine lv_aload_n hx hb dX1_asItIs_1 rfl (lv_at hl 0 rfl) ?_
  refine x_get S hK hP 0 rfl cfX1 0 lkX1_15 (by decide) rfl dX1_asItIs_2 ?_
  refine x_get S hK hP 1 rfl cfX2 2 lkX1_23 (by decide) rfl dX1_asItIs_5 ?_
  refine x_put (ws' := [((o 5), .inr (1, [.ref (o 3), .ref (o 4), .int 0, .int 0, .int 0, .int 0, .int 0, .ref (o 72)])), ((o 3), .inr (2, [.int 0, .int 0, .int 0, .int 0, .int 0, .int 0, .int 0, .int 0, .int 0, .ref (o 26), .ref (o 27), .ref (o 28), .ref (o 29), .ref (o 30), .ref (o 31), .ref (o 32), .ref (o 33), .ref (o 34), .ref (o 35)]))]) S hK hP hD hS 0 rfl cfX1 2 lkX1_29 (by decide) rfl rfl rfl (Nat.le_of_ble_eq_true rfl) rfl dX1_asItIs_8 (fun H locs hP hD hS => ?_)
  refine lv_aload_n hx hb dX1_asItIs_11 rfl (lv_at hl 0 rfl) ?_
  refine lv_iconst (v := 0) hx hb dX1_asItIs_12 (by decide) ?_
  refine x_put (ws' := [((o 5), .inr (1, [.ref (o 3), .ref (o 4), .int 0, .int 0, .int 0, .int 0, .int 0, .ref (o 72)])), ((o 3), .inr (2, [.int 0, .int 0, .int 0, .int 0, .int 0, .int 0, .int 0, .int 0, .int 0, .ref (o 26), .ref (o 27), .ref (o 28), .ref (o 29), .ref (o 30), .ref (o 31), .ref (o 32), .ref (o 33), .ref (o 34), .ref (o 35)]))]) S hK hP hD hS 0 rfl cfX1 3 lkX1_32 (by decide) rfl rfl rfl (Nat.le_of_ble_eq_true rfl) rfl dX1_asItIs_13 (fun H locs hP hD hS => ?_)
  refine lv_aload_n hx hb dX1_asItIs_16 rfl (lv_at hl 0 rfl) ?_
  refine lv_iconst (v := 0) hx hb dX1_asItIs_17 (by decide) ?_
  refine x_put (ws' := [((o 5), .inr (1, [.ref (o 3), .ref (o 4), .int 0, .int 0, .int 0, .int 0, .int 0, .ref (o 72)])), ((o 3), .inr (2, [.int 0, .int 0, .int 0, .int 0, .int 0, .int 0, .int 0, .int 0, .int 0, .ref (o 26), .ref (o 27), .ref (o 28), .ref (o 29), .ref (o 30), .ref (o 31), .ref (o 32), .ref (o 33), .ref (o 34), .ref (o 35)]))]) S hK hP hD hS 0 rfl cfX1 4 lkX1_35 (by decide) rfl rfl rfl (Nat.le_of_ble_eq_true rfl) rfl dX1_asItIs_18 (fun H locs hP hD hS => ?_)
  refine lv_aload_n hx hb dX1_asItIs_21 rfl (lv_at hl 0 rfl) ?_
  refine lv_iconst (v := 0) hx hb dX1_asItIs_22 (by decide) ?_
  refine x_put (ws' := [((o 5), .inr (1, [.ref (o 3), .ref (o 4), .int 0, .int 0, .int 0, .int 0, .int 0, .ref (o 72)])), ((o 3), .inr (2, [.int 0, .int 0, .int 0, .int 0, .int 0, .int 0, .int 0, .int 0, .int 0, .ref (o 26), .ref (o 27), .ref (o 28), .ref (o 29), .ref (o 30), .ref (o 31), .ref (o 32), .ref (o 33), .ref (o 34), .ref (o 35)]))]) S hK hP hD hS 0 rfl cfX1 5 lkX1_38 (by decide) rfl rfl rfl (Nat.le_of_ble_eq_true rfl) rfl dX1_asItIs_23 (fun H locs hP hD hS => ?_)
  refine lv_aload_n hx hb dX1_asItIs_26 rfl (lv_at hl 0 rfl) ?_
  refine lv_iconst (v := 0) hx hb dX1_asItIs_27 (by decide) ?_
  refine x_put (ws' := [((o 5), .inr (1, [.ref (o 3), .ref (o 4), .int 0, .int 0, .int 0, .int 0, .int 0, .ref (o 72)])), ((o 3), .inr (2, [.int 0, .int 0, .int 0, .int 0, .int 0, .int 0, .int 0, .int 0, .int 0, .ref (o 26), .ref (o 27), .ref (o 28), .ref (o 29), .ref (o 30), .ref (o 31), .ref (o 32), .ref (o 33), .ref (o 34), .ref (o 35)]))]) S hK hP hD hS 0 rfl cfX1 6 lkX1_41 (by decide) rfl rfl rfl (Nat.le_of_ble_eq_true rfl) rfl dX1_asItIs_28 (fun H locs hP hD hS => ?_)
  exact x_retv S hr hlk hQ hS () trivial (x_B (hP.sub [0, 1] rfl) (hD.sub [0, 1] (by decide) rfl)) dX1_asItIs_31

set_option maxHeartbeats 4000000 in
set_option maxRecDepth 100000 in
theorem ctX10_heard (l : Launch) (D : va_G) (k : Nat → ClassId) (p0 : Int32) (p1 : Int32)  : RO l yX10_heard cX10_heard 3 (some .int) 0 D k [.int p0, .int p1] [] (Qi (fun r : Int32 => True)) := by
  refine RO.of (by decide) (Nat.le_of_ble_eq_true rfl) ?_
  intro p e s m below meth c ls A args Q S hr hlk hQ hK hP hDW hA hS hl
  have hx := S.1
  have hb := S.2.1
  have hl : lv_has ls 3 [(0, .int p0), (1, .int p1)] := hl
  refine lv_iload_n hx hb dX10_heard_0 rfl (lv_at hl 1 rfl) ?_
  refine lv_bipush (v := 16) hx hb dX10_heard_1 (by decide) ?_
  refine lv_ishl hx hb dX10_heard_3 ?_
  refine lv_topi (fun v_1 ev_1 => ?_)
  refine lv_iload_n hx hb dX10_heard_4 rfl (lv_at hl 1 rfl) ?_
  refine lv_bipush (v := 16) hx hb dX10_heard_5 (by decide) ?_
  refine lv_iushr hx hb dX10_heard_7 rfl ?_
  refine lv_topi (fun v_2 ev_2 => ?_)
  refine lv_ior hx hb dX10_heard_8 ?_
  refine lv_topi (fun v_3 ev_3 => ?_)
  refine lv_istore_n (lv' := [(2, .int v_3), (0, .int p0), (1, .int p1)]) hx hb dX10_heard_9 rfl hl (by decide) rfl (fun ls hl => ?_)
  refine lv_iload_n hx hb dX10_heard_10 rfl (lv_at hl 1 rfl) ?_
  refine lv_iload_n hx hb dX10_heard_11 rfl (lv_at hl 0 rfl) ?_
  refine lv_iconst (v := (-1)) hx hb dX10_heard_12 (by decide) ?_
  refine lv_ixor hx hb dX10_heard_13 ?_
  refine lv_topi (fun v_4 ev_4 => ?_)
  refine lv_iand hx hb dX10_heard_14 ?_
  refine lv_topi (fun v_5 ev_5 => ?_)
  refine lv_iload_n hx hb dX10_heard_15 rfl (lv_at hl 2 rfl) ?_
  refine lv_ior hx hb dX10_heard_16 ?_
  refine lv_topi (fun v_6 ev_6 => ?_)
  exact x_reti S hr hlk hQ hS () trivial x_T dX10_heard_17

set_option maxHeartbeats 4000000 in
set_option maxRecDepth 100000 in
theorem ctX10_inBoth (l : Launch) (D : va_G) (k : Nat → ClassId) (p0 : Int32)  : RO l yX10_inBoth cX10_inBoth 1 (some .int) 0 D k [.int p0] [] (Qi (fun r : Int32 => True)) := by
  refine RO.of (by decide) (Nat.le_of_ble_eq_true rfl) ?_
  intro p e s m below meth c ls A args Q S hr hlk hQ hK hP hDW hA hS hl
  have hx := S.1
  have hb := S.2.1
  have hl : lv_has ls 1 [(0, .int p0)] := hl
  refine lv_iload_n hx hb dX10_inBoth_0 rfl (lv_at hl 0 rfl) ?_
  refine lv_iload_n hx hb dX10_inBoth_1 rfl (lv_at hl 0 rfl) ?_
  refine lv_bipush (v := 16) hx hb dX10_inBoth_2 (by decide) ?_
  refine lv_ishl hx hb dX10_inBoth_4 ?_
  refine lv_topi (fun v_1 ev_1 => ?_)
  refine lv_ior hx hb dX10_inBoth_5 ?_
  refine lv_topi (fun v_2 ev_2 => ?_)
  exact x_reti S hr hlk hQ hS () trivial x_T dX10_inBoth_6

set_option maxHeartbeats 4000000 in
set_option maxRecDepth 100000 in
theorem ctX1_run (l : Launch) (D : va_G) (k : Nat → ClassId) (o : Nat → Nat) (f0 : Nat → Int32) (f1 : Nat → Int32) (f3 : Nat → Int32)  : MU l yX1_run cX1_run 7 none 1 D k [.ref (o 5)] [((o 5), .inr (1, [.ref (o 3), .ref (o 4), .int 0, .int 0, .int 0, .int 0, .int 0, .ref (o 72)])), ((o 72), .inl (k 0, 17, .inl f3)), ((o 4), .inr (3, [.ref (o 69), .ref (o 70), .ref (o 71)])), ((o 69), .inl (k 0, 17, .inl f0)), ((o 70), .inl (k 0, 17, .inl f1)), ((o 3), .inr (2, [.int 0, .int 0, .int 0, .int 0, .int 0, .int 0, .int 0, .int 0, .int 0, .ref (o 26), .ref (o 27), .ref (o 28), .ref (o 29), .ref (o 30), .ref (o 31), .ref (o 32), .ref (o 33), .ref (o 34), .ref (o 35)]))] 0 0 (Uv D (fun _ : Nat → Int32 => True) (fun u : Nat → Int32 => [((o 5), .inr (1, [.ref (o 3), .ref (o 4), .int 0, .int 0, .int 0, .int 0, .int 0, .ref (o 72)])), ((o 72), .inl (k 0, 17, .inl u)), ((o 4), .inr (3, [.ref (o 69), .ref (o 70), .ref (o 71)])), ((o 69), .inl (k 0, 17, .inl f0)), ((o 70), .inl (k 0, 17, .inl f1)), ((o 3), .inr (2, [.int 0, .int 0, .int 0, .int 0, .int 0, .int 0, .int 0, .int 0, .int 0, .ref (o 26), .ref (o 27), .ref (o 28), .ref (o 29), .ref (o 30), .ref (o 31), .ref (o 32), .ref (o 33), .ref (o 34), .ref (o 35)]))])) := by
  refine MU.of (by decide) (Nat.le_of_ble_eq_true rfl) ?_
  intro p e s m below meth c ls A args Q S hr hlk hnm hQ hK hP hD hA hS hl
  have hx := S.1
  have hb := S.2.1
  have hl : lv_has ls 7 [(0, .ref (o 5))] := hl
  refine lv_aload_n hx hb dX1_run_0 rfl (lv_at hl 0 rfl) ?_
  refine x_get S hK hP 0 rfl cfX1 1 lkX1_19 (by decide) rfl dX1_run_1 ?_
  refine x_get S hK hP 2 rfl cfX3 0 lkX1_51 (by decide) rfl dX1_run_4 ?_
  refine lv_iconst (v := 0) hx hb dX1_run_7 (by decide) ?_
  refine x_iald S hK hP 3 rfl (vp_lit (by decide)) dX1_run_8 ?_
  refine lv_topi (fun v_1 ev_1 => ?_)
  refine lv_aload_n hx hb dX1_run_9 rfl (lv_at hl 0 rfl) ?_
  refine x_get S hK hP 0 rfl cfX1 4 lkX1_35 (by decide) rfl dX1_run_10 ?_
  refine x_roSNi (As := [.int v_1, .int 0]) S hK hP hS hA hl mwX10_heard lkX1_56 (ctX10_heard l D k v_1 0 ) [] rfl D_nil rfl rfl ⟨Nat.le_of_ble_eq_true rfl, Nat.le_of_ble_eq_true rfl, Nat.le_of_ble_eq_true rfl⟩ dX1_run_13 ⟨Nat.le_of_ble_eq_true rfl, Nat.le_of_ble_eq_true rfl⟩ (fun r_2 H locs hr_2 hP hS => ?_)
  refine lv_aload_n hx hb dX1_run_16 rfl (lv_at hl 0 rfl) ?_
  refine x_get S hK hP 0 rfl cfX1 5 lkX1_38 (by decide) rfl dX1_run_17 ?_
  refine x_roSNi (As := [.int r_2, .int 0]) S hK hP hS hA hl mwX10_heard lkX1_56 (ctX10_heard l D k r_2 0 ) [] rfl D_nil rfl rfl ⟨Nat.le_of_ble_eq_true rfl, Nat.le_of_ble_eq_true rfl, Nat.le_of_ble_eq_true rfl⟩ dX1_run_20 ⟨Nat.le_of_ble_eq_true rfl, Nat.le_of_ble_eq_true rfl⟩ (fun r_3 H locs hr_3 hP hS => ?_)
  refine lv_aload_n hx hb dX1_run_23 rfl (lv_at hl 0 rfl) ?_
  refine x_get S hK hP 0 rfl cfX1 1 lkX1_19 (by decide) rfl dX1_run_24 ?_
  refine x_get S hK hP 2 rfl cfX3 1 lkX1_59 (by decide) rfl dX1_run_27 ?_
  refine lv_iconst (v := 0) hx hb dX1_run_30 (by decide) ?_
  refine x_iald S hK hP 4 rfl (vp_lit (by decide)) dX1_run_31 ?_
  refine lv_topi (fun v_4 ev_4 => ?_)
  refine x_roSNi (As := [.int v_4]) S hK hP hS hA hl mwX10_inBoth lkX1_62 (ctX10_inBoth l D k v_4 ) [] rfl D_nil rfl rfl ⟨Nat.le_of_ble_eq_true rfl, Nat.le_of_ble_eq_true rfl, Nat.le_of_ble_eq_true rfl⟩ dX1_run_32 ⟨Nat.le_of_ble_eq_true rfl, Nat.le_of_ble_eq_true rfl⟩ (fun r_5 H locs hr_5 hP hS => ?_)
  refine lv_iconst (v := (-1)) hx hb dX1_run_35 (by decide) ?_
  refine lv_ixor hx hb dX1_run_36 ?_
  refine lv_topi (fun v_6 ev_6 => ?_)
  refine lv_iand hx hb dX1_run_37 ?_
  refine lv_topi (fun v_7 ev_7 => ?_)
  refine lv_istore_n (lv' := [(1, .int v_7), (0, .ref (o 5))]) hx hb dX1_run_38 rfl hl (by decide) rfl (fun ls hl => ?_)
  refine lv_aload_n hx hb dX1_run_39 rfl (lv_at hl 1 rfl) ?_
  refine x_get S hK hP 0 rfl cfX1 7 lkX1_9 (by decide) rfl dX1_run_40 ?_
  refine lv_iconst (v := 0) hx hb dX1_run_43 (by decide) ?_
  refine lv_iload_n hx hb dX1_run_44 rfl (lv_at hl 0 rfl) ?_
  refine x_iast (ws' := fun f_8 => [((o 5), .inr (1, [.ref (o 3), .ref (o 4), .int 0, .int 0, .int 0, .int 0, .int 0, .ref (o 72)])), ((o 72), .inl (k 0, 17, .inl f_8)), ((o 4), .inr (3, [.ref (o 69), .ref (o 70), .ref (o 71)])), ((o 69), .inl (k 0, 17, .inl f0)), ((o 70), .inl (k 0, 17, .inl f1)), ((o 3), .inr (2, [.int 0, .int 0, .int 0, .int 0, .int 0, .int 0, .int 0, .int 0, .int 0, .ref (o 26), .ref (o 27), .ref (o 28), .ref (o 29), .ref (o 30), .ref (o 31), .ref (o 32), .ref (o 33), .ref (o 34), .ref (o 35)]))]) S hK hP hD hS 1 rfl (vp_lit (by decide)) (fun _ => rfl) dX1_run_45 (fun f_8 H locs ef_8 hP hD hS => ?_)
  refine lv_iload_n hx hb dX1_run_46 rfl (lv_at hl 0 rfl) ?_
  refine lv_istore_n (lv' := [(2, .int v_7), (1, .int v_7), (0, .ref (o 5))]) hx hb dX1_run_47 rfl hl (by decide) rfl (fun ls hl => ?_)
  refine lv_iconst (v := (-1)) hx hb dX1_run_48 (by decide) ?_
  refine lv_istore_n (lv' := [(3, .int (-1)), (2, .int v_7), (1, .int v_7), (0, .ref (o 5))]) hx hb dX1_run_49 rfl hl (by decide) rfl (fun ls hl => ?_)
  refine lv_iconst (v := 0) hx hb dX1_run_50 (by decide) ?_
  refine lv_istore (lv' := [(4, .int 0), (3, .int (-1)), (2, .int v_7), (1, .int v_7), (0, .ref (o 5))]) hx hb dX1_run_51 hl (by decide) rfl (fun ls hl => ?_)
  refine lv_iload hx hb dX1_run_53 (lv_at hl 0 rfl) ?_
  refine lv_aload_n hx hb dX1_run_55 rfl (lv_at hl 4 rfl) ?_
  refine x_get S hK hP 0 rfl cfX1 0 lkX1_15 (by decide) rfl dX1_run_56 ?_
  refine x_get S hK hP 5 rfl cfX2 1 lkX1_66 (by decide) rfl dX1_run_59 ?_
  refine lv_icmp_ge (tgt := 163) hx hb dX1_run_62 (by decide) (fun c_9 => ?_) (fun c_9 => absurd (by decide) c_9)
  exact x_retv S hr hlk hQ hS f_8 trivial (x_B (hP.sub [0, 1, 2, 3, 4, 5] rfl) (hD.sub [0, 1, 2, 3, 4, 5] (by decide) rfl)) dX1_run_163

set_option maxHeartbeats 4000000 in
set_option maxRecDepth 100000 in
theorem ctX8_forget (l : Launch) (D : va_G) (k : Nat → ClassId) (o : Nat → Nat) (f4 : Nat → Int32) (f5 : Nat → Int32)  : MU l yX8_forget cX8_forget 2 none 0 D k [.ref (o 8)] [((o 8), .inr (8, [.ref (o 3), .ref (o 4), .ref (o 6), .ref (o 74), .ref (o 75), .ref (o 76)])), ((o 74), .inl (k 0, 3, .inl f4)), ((o 76), .inl (k 3, 3, .inl f5))] 0 0 (Uv D (fun _ : Nat → Nat → Int32 => True) (fun u : Nat → Nat → Int32 => [((o 8), .inr (8, [.ref (o 3), .ref (o 4), .ref (o 6), .ref (o 74), .ref (o 75), .ref (o 76)])), ((o 74), .inl (k 0, 3, .inl (u 0))), ((o 76), .inl (k 3, 3, .inl (u 1)))])) := by
  refine MU.of (by decide) (Nat.le_of_ble_eq_true rfl) ?_
  intro p e s m below meth c ls A args Q S hr hlk hnm hQ hK hP hD hA hS hl
  have hx := S.1
  have hb := S.2.1
  have hl : lv_has ls 2 [(0, .ref (o 8))] := hl
  refine lv_iconst (v := 0) hx hb dX8_forget_0 (by decide) ?_
  refine lv_istore_n (lv' := [(1, .int 0), (0, .ref (o 8))]) hx hb dX8_forget_1 rfl hl (by decide) rfl (fun ls hl => ?_)
  refine lv_iload_n hx hb dX8_forget_2 rfl (lv_at hl 0 rfl) ?_
  refine lv_iconst (v := 3) hx hb dX8_forget_3 (by decide) ?_
  refine lv_icmp_ge (tgt := 28) hx hb dX8_forget_4 (by decide) (fun c_1 => absurd c_1 (by decide)) (fun c_1 => ?_)
  refine lv_aload_n hx hb dX8_forget_7 rfl (lv_at hl 1 rfl) ?_
  refine x_get S hK hP 0 rfl cfX8 3 lkX8_11 (by decide) rfl dX8_forget_8 ?_
  refine lv_iload_n hx hb dX8_forget_11 rfl (lv_at hl 0 rfl) ?_
  refine lv_bipush (v := (-2)) hx hb dX8_forget_12 (by decide) ?_
  refine x_iast (ws' := fun f_2 => [((o 8), .inr (8, [.ref (o 3), .ref (o 4), .ref (o 6), .ref (o 74), .ref (o 75), .ref (o 76)])), ((o 74), .inl (k 0, 3, .inl f_2)), ((o 76), .inl (k 3, 3, .inl f5))]) S hK hP hD hS 1 rfl (vp_lit (by decide)) (fun _ => rfl) dX8_forget_14 (fun f_2 H locs ef_2 hP hD hS => ?_)
  refine lv_aload_n hx hb dX8_forget_15 rfl (lv_at hl 1 rfl) ?_
  refine x_get S hK hP 0 rfl cfX8 5 lkX8_20 (by decide) rfl dX8_forget_16 ?_
  refine lv_iload_n hx hb dX8_forget_19 rfl (lv_at hl 0 rfl) ?_
  refine lv_iconst (v := 0) hx hb dX8_forget_20 (by decide) ?_
  refine x_zast (ws' := fun f_3 => [((o 8), .inr (8, [.ref (o 3), .ref (o 4), .ref (o 6), .ref (o 74), .ref (o 75), .ref (o 76)])), ((o 74), .inl (k 0, 3, .inl f_2)), ((o 76), .inl (k 3, 3, .inl f_3))]) S hK hP hD hS 2 rfl (vp_lit (by decide)) (fun _ => rfl) dX8_forget_21 (fun f_3 H locs ef_3 hP hD hS => ?_)
  refine lv_iinc (v := 1) (lv' := [(1, .int 1), (0, .ref (o 8))]) hx hb dX8_forget_22 hl (k := 0) rfl (by decide) (by decide) rfl (fun ls hl => ?_)
  refine lv_goto (tgt := 2) hx hb dX8_forget_25 (by decide) ?_
  refine lv_iload_n hx hb dX8_forget_2 rfl (lv_at hl 0 rfl) ?_
  refine lv_iconst (v := 3) hx hb dX8_forget_3 (by decide) ?_
  refine lv_icmp_ge (tgt := 28) hx hb dX8_forget_4 (by decide) (fun c_4 => absurd c_4 (by decide)) (fun c_4 => ?_)
  refine lv_aload_n hx hb dX8_forget_7 rfl (lv_at hl 1 rfl) ?_
  refine x_get S hK hP 0 rfl cfX8 3 lkX8_11 (by decide) rfl dX8_forget_8 ?_
  refine lv_iload_n hx hb dX8_forget_11 rfl (lv_at hl 0 rfl) ?_
  refine lv_bipush (v := (-2)) hx hb dX8_forget_12 (by decide) ?_
  refine x_iast (ws' := fun f_5 => [((o 8), .inr (8, [.ref (o 3), .ref (o 4), .ref (o 6), .ref (o 74), .ref (o 75), .ref (o 76)])), ((o 74), .inl (k 0, 3, .inl f_5)), ((o 76), .inl (k 3, 3, .inl f_3))]) S hK hP hD hS 1 rfl (vp_lit (by decide)) (fun _ => rfl) dX8_forget_14 (fun f_5 H locs ef_5 hP hD hS => ?_)
  refine lv_aload_n hx hb dX8_forget_15 rfl (lv_at hl 1 rfl) ?_
  refine x_get S hK hP 0 rfl cfX8 5 lkX8_20 (by decide) rfl dX8_forget_16 ?_
  refine lv_iload_n hx hb dX8_forget_19 rfl (lv_at hl 0 rfl) ?_
  refine lv_iconst (v := 0) hx hb dX8_forget_20 (by decide) ?_
  refine x_zast (ws' := fun f_6 => [((o 8), .inr (8, [.ref (o 3), .ref (o 4), .ref (o 6), .ref (o 74), .ref (o 75), .ref (o 76)])), ((o 74), .inl (k 0, 3, .inl f_5)), ((o 76), .inl (k 3, 3, .inl f_6))]) S hK hP hD hS 2 rfl (vp_lit (by decide)) (fun _ => rfl) dX8_forget_21 (fun f_6 H locs ef_6 hP hD hS => ?_)
  refine lv_iinc (v := 2) (lv' := [(1, .int 2), (0, .ref (o 8))]) hx hb dX8_forget_22 hl (k := 0) rfl (by decide) (by decide) rfl (fun ls hl => ?_)
  refine lv_goto (tgt := 2) hx hb dX8_forget_25 (by decide) ?_
  refine lv_iload_n hx hb dX8_forget_2 rfl (lv_at hl 0 rfl) ?_
  refine lv_iconst (v := 3) hx hb dX8_forget_3 (by decide) ?_
  refine lv_icmp_ge (tgt := 28) hx hb dX8_forget_4 (by decide) (fun c_7 => absurd c_7 (by decide)) (fun c_7 => ?_)
  refine lv_aload_n hx hb dX8_forget_7 rfl (lv_at hl 1 rfl) ?_
  refine x_get S hK hP 0 rfl cfX8 3 lkX8_11 (by decide) rfl dX8_forget_8 ?_
  refine lv_iload_n hx hb dX8_forget_11 rfl (lv_at hl 0 rfl) ?_
  refine lv_bipush (v := (-2)) hx hb dX8_forget_12 (by decide) ?_
  refine x_iast (ws' := fun f_8 => [((o 8), .inr (8, [.ref (o 3), .ref (o 4), .ref (o 6), .ref (o 74), .ref (o 75), .ref (o 76)])), ((o 74), .inl (k 0, 3, .inl f_8)), ((o 76), .inl (k 3, 3, .inl f_6))]) S hK hP hD hS 1 rfl (vp_lit (by decide)) (fun _ => rfl) dX8_forget_14 (fun f_8 H locs ef_8 hP hD hS => ?_)
  refine lv_aload_n hx hb dX8_forget_15 rfl (lv_at hl 1 rfl) ?_
  refine x_get S hK hP 0 rfl cfX8 5 lkX8_20 (by decide) rfl dX8_forget_16 ?_
  refine lv_iload_n hx hb dX8_forget_19 rfl (lv_at hl 0 rfl) ?_
  refine lv_iconst (v := 0) hx hb dX8_forget_20 (by decide) ?_
  refine x_zast (ws' := fun f_9 => [((o 8), .inr (8, [.ref (o 3), .ref (o 4), .ref (o 6), .ref (o 74), .ref (o 75), .ref (o 76)])), ((o 74), .inl (k 0, 3, .inl f_8)), ((o 76), .inl (k 3, 3, .inl f_9))]) S hK hP hD hS 2 rfl (vp_lit (by decide)) (fun _ => rfl) dX8_forget_21 (fun f_9 H locs ef_9 hP hD hS => ?_)
  refine lv_iinc (v := 3) (lv' := [(1, .int 3), (0, .ref (o 8))]) hx hb dX8_forget_22 hl (k := 0) rfl (by decide) (by decide) rfl (fun ls hl => ?_)
  refine lv_goto (tgt := 2) hx hb dX8_forget_25 (by decide) ?_
  refine lv_iload_n hx hb dX8_forget_2 rfl (lv_at hl 0 rfl) ?_
  refine lv_iconst (v := 3) hx hb dX8_forget_3 (by decide) ?_
  refine lv_icmp_ge (tgt := 28) hx hb dX8_forget_4 (by decide) (fun c_10 => ?_) (fun c_10 => absurd (by decide) c_10)
  exact x_retv S hr hlk hQ hS (fun i => ([f_8, f_9] : List (Nat → Int32)).getD i (fun _ => 0)) trivial (x_B (hP.sub [0, 1, 2] rfl) (hD.sub [0, 1, 2] (by decide) rfl)) dX8_forget_28

set_option maxHeartbeats 4000000 in
set_option maxRecDepth 100000 in
theorem ctX0_forget (l : Launch) (D : va_G) (k : Nat → ClassId) (o : Nat → Nat)  : MU l yX0_forget cX0_forget 1 none 0 D k [.ref (o 9)] [((o 9), .inr (0, [.ref (o 3), .ref (o 6), .int (-2), .int 0]))] 0 0 (Uv D (fun _ : Unit => True) (fun u : Unit => [((o 9), .inr (0, [.ref (o 3), .ref (o 6), .int (-2), .int 0]))])) := by
  refine MU.of (by decide) (Nat.le_of_ble_eq_true rfl) ?_
  intro p e s m below meth c ls A args Q S hr hlk hnm hQ hK hP hD hA hS hl
  have hx := S.1
  have hb := S.2.1
  have hl : lv_has ls 1 [(0, .ref (o 9))] := hl
  refine lv_aload_n hx hb dX0_forget_0 rfl (lv_at hl 0 rfl) ?_
  refine lv_bipush (v := (-2)) hx hb dX0_forget_1 (by decide) ?_
  refine x_put (ws' := [((o 9), .inr (0, [.ref (o 3), .ref (o 6), .int (-2), .int 0]))]) S hK hP hD hS 0 rfl cfX0 2 lkX0_11 (by decide) rfl rfl rfl (Nat.le_of_ble_eq_true rfl) rfl dX0_forget_3 (fun H locs hP hD hS => ?_)
  exact x_retv S hr hlk hQ hS () trivial (x_B (hP.sub [0] rfl) (hD.sub [0] (by decide) rfl)) dX0_forget_6

set_option maxHeartbeats 4000000 in
set_option maxRecDepth 100000 in
theorem ctX10_retell (l : Launch) (D : va_G) (k : Nat → ClassId) (o : Nat → Nat) (f0 : Nat → Int32) (f1 : Nat → Int32) (f2 : Nat → Int32) (f3 : Nat → Int32) (f4 : Nat → Int32) (f5 : Nat → Int32)  : MU l yX10_retell cX10_retell 1 none 2 D k [.ref (o 0)] [((o 0), .inr (10, [.ref (o 1), .ref (o 2), .ref (o 3), .ref (o 4), .ref (o 5), .ref (o 6), .ref (o 7), .ref (o 8), .ref (o 9), .ref (o 10), .ref (o 11), .ref (o 12), .ref (o 13), .ref (o 14)])), ((o 3), .inr (2, [.int 0, .int 0, .int 0, .int 0, .int 0, .int 0, .int 0, .int 0, .int 0, .ref (o 26), .ref (o 27), .ref (o 28), .ref (o 29), .ref (o 30), .ref (o 31), .ref (o 32), .ref (o 33), .ref (o 34), .ref (o 35)])), ((o 4), .inr (3, [.ref (o 69), .ref (o 70), .ref (o 71)])), ((o 69), .inl (k 0, 17, .inl f0)), ((o 70), .inl (k 0, 17, .inl f1)), ((o 71), .inl (k 0, 17, .inl f2)), ((o 5), .inr (1, [.ref (o 3), .ref (o 4), .int 0, .int 0, .int 0, .int 0, .int 0, .ref (o 72)])), ((o 72), .inl (k 0, 17, .inl f3)), ((o 8), .inr (8, [.ref (o 3), .ref (o 4), .ref (o 6), .ref (o 74), .ref (o 75), .ref (o 76)])), ((o 74), .inl (k 0, 3, .inl f4)), ((o 76), .inl (k 3, 3, .inl f5)), ((o 9), .inr (0, [.ref (o 3), .ref (o 6), .int (-2), .int 0]))] 0 0 (Uv D (fun _ : Nat → Nat → Int32 => True) (fun u : Nat → Nat → Int32 => [((o 0), .inr (10, [.ref (o 1), .ref (o 2), .ref (o 3), .ref (o 4), .ref (o 5), .ref (o 6), .ref (o 7), .ref (o 8), .ref (o 9), .ref (o 10), .ref (o 11), .ref (o 12), .ref (o 13), .ref (o 14)])), ((o 3), .inr (2, [.int 0, .int 0, .int 0, .int 0, .int 0, .int 0, .int 0, .int 0, .int 0, .ref (o 26), .ref (o 27), .ref (o 28), .ref (o 29), .ref (o 30), .ref (o 31), .ref (o 32), .ref (o 33), .ref (o 34), .ref (o 35)])), ((o 4), .inr (3, [.ref (o 69), .ref (o 70), .ref (o 71)])), ((o 69), .inl (k 0, 17, .inl (u 0))), ((o 70), .inl (k 0, 17, .inl (u 1))), ((o 71), .inl (k 0, 17, .inl (u 2))), ((o 5), .inr (1, [.ref (o 3), .ref (o 4), .int 0, .int 0, .int 0, .int 0, .int 0, .ref (o 72)])), ((o 72), .inl (k 0, 17, .inl (u 3))), ((o 8), .inr (8, [.ref (o 3), .ref (o 4), .ref (o 6), .ref (o 74), .ref (o 75), .ref (o 76)])), ((o 74), .inl (k 0, 3, .inl (u 4))), ((o 76), .inl (k 3, 3, .inl (u 5))), ((o 9), .inr (0, [.ref (o 3), .ref (o 6), .int (-2), .int 0]))])) := by
  refine MU.of (by decide) (Nat.le_of_ble_eq_true rfl) ?_
  intro p e s m below meth c ls A args Q S hr hlk hnm hQ hK hP hD hA hS hl
  have hx := S.1
  have hb := S.2.1
  have hl : lv_has ls 1 [(0, .ref (o 0))] := hl
  refine lv_aload_n hx hb dX10_retell_0 rfl (lv_at hl 0 rfl) ?_
  refine x_get S hK hP 0 rfl cfX10 3 lkX10_29 (by decide) rfl dX10_retell_1 ?_
  refine lv_aload_n hx hb dX10_retell_4 rfl (lv_at hl 0 rfl) ?_
  refine x_get S hK hP 0 rfl cfX10 2 lkX10_23 (by decide) rfl dX10_retell_5 ?_
  refine x_muVv (wr := [((o 0), .inr (10, [.ref (o 1), .ref (o 2), .ref (o 3), .ref (o 4), .ref (o 5), .ref (o 6), .ref (o 7), .ref (o 8), .ref (o 9), .ref (o 10), .ref (o 11), .ref (o 12), .ref (o 13), .ref (o 14)])), ((o 5), .inr (1, [.ref (o 3), .ref (o 4), .int 0, .int 0, .int 0, .int 0, .int 0, .ref (o 72)])), ((o 72), .inl (k 0, 17, .inl f3)), ((o 8), .inr (8, [.ref (o 3), .ref (o 4), .ref (o 6), .ref (o 74), .ref (o 75), .ref (o 76)])), ((o 74), .inl (k 0, 3, .inl f4)), ((o 76), .inl (k 3, 3, .inl f5)), ((o 9), .inr (0, [.ref (o 3), .ref (o 6), .int (-2), .int 0]))]) (As := [.ref (o 3)]) S hK hP hD hS hA hl mwX3_make lkX10_472 (ctX3_make l D k o f0 f1 f2 ) [2, 3, 4, 5, 1] [0, 6, 7, 8, 9, 10, 11] rfl rfl (by decide) (by decide) (by decide) rfl rfl rfl rfl rfl ⟨Nat.le_of_ble_eq_true rfl, Nat.le_of_ble_eq_true rfl, Nat.le_of_ble_eq_true rfl⟩ dX10_retell_8 ⟨Nat.le_of_ble_eq_true rfl, Nat.le_of_ble_eq_true rfl⟩ (fun u_2 H locs hr_1 hP hD hS => ?_)
  have hP : va_P D vwCl [((o 0), .inr (10, [.ref (o 1), .ref (o 2), .ref (o 3), .ref (o 4), .ref (o 5), .ref (o 6), .ref (o 7), .ref (o 8), .ref (o 9), .ref (o 10), .ref (o 11), .ref (o 12), .ref (o 13), .ref (o 14)])), ((o 5), .inr (1, [.ref (o 3), .ref (o 4), .int 0, .int 0, .int 0, .int 0, .int 0, .ref (o 72)])), ((o 72), .inl (k 0, 17, .inl f3)), ((o 8), .inr (8, [.ref (o 3), .ref (o 4), .ref (o 6), .ref (o 74), .ref (o 75), .ref (o 76)])), ((o 74), .inl (k 0, 3, .inl f4)), ((o 76), .inl (k 3, 3, .inl f5)), ((o 9), .inr (0, [.ref (o 3), .ref (o 6), .int (-2), .int 0])), ((o 4), .inr (3, [.ref (o 69), .ref (o 70), .ref (o 71)])), ((o 69), .inl (k 0, 17, .inl (u_2 0))), ((o 70), .inl (k 0, 17, .inl (u_2 1))), ((o 71), .inl (k 0, 17, .inl (u_2 2))), ((o 3), .inr (2, [.int 0, .int 0, .int 0, .int 0, .int 0, .int 0, .int 0, .int 0, .int 0, .ref (o 26), .ref (o 27), .ref (o 28), .ref (o 29), .ref (o 30), .ref (o 31), .ref (o 32), .ref (o 33), .ref (o 34), .ref (o 35)]))] H := hP
  have hD : va_D A [((o 0), .inr (10, [.ref (o 1), .ref (o 2), .ref (o 3), .ref (o 4), .ref (o 5), .ref (o 6), .ref (o 7), .ref (o 8), .ref (o 9), .ref (o 10), .ref (o 11), .ref (o 12), .ref (o 13), .ref (o 14)])), ((o 5), .inr (1, [.ref (o 3), .ref (o 4), .int 0, .int 0, .int 0, .int 0, .int 0, .ref (o 72)])), ((o 72), .inl (k 0, 17, .inl f3)), ((o 8), .inr (8, [.ref (o 3), .ref (o 4), .ref (o 6), .ref (o 74), .ref (o 75), .ref (o 76)])), ((o 74), .inl (k 0, 3, .inl f4)), ((o 76), .inl (k 3, 3, .inl f5)), ((o 9), .inr (0, [.ref (o 3), .ref (o 6), .int (-2), .int 0])), ((o 4), .inr (3, [.ref (o 69), .ref (o 70), .ref (o 71)])), ((o 69), .inl (k 0, 17, .inl (u_2 0))), ((o 70), .inl (k 0, 17, .inl (u_2 1))), ((o 71), .inl (k 0, 17, .inl (u_2 2))), ((o 3), .inr (2, [.int 0, .int 0, .int 0, .int 0, .int 0, .int 0, .int 0, .int 0, .int 0, .ref (o 26), .ref (o 27), .ref (o 28), .ref (o 29), .ref (o 30), .ref (o 31), .ref (o 32), .ref (o 33), .ref (o 34), .ref (o 35)]))] := hD
  refine lv_aload_n hx hb dX10_retell_11 rfl (lv_at hl 0 rfl) ?_
  refine x_get S hK hP 0 rfl cfX10 4 lkX10_38 (by decide) rfl dX10_retell_12 ?_
  refine x_muVv (wr := [((o 0), .inr (10, [.ref (o 1), .ref (o 2), .ref (o 3), .ref (o 4), .ref (o 5), .ref (o 6), .ref (o 7), .ref (o 8), .ref (o 9), .ref (o 10), .ref (o 11), .ref (o 12), .ref (o 13), .ref (o 14)])), ((o 72), .inl (k 0, 17, .inl f3)), ((o 8), .inr (8, [.ref (o 3), .ref (o 4), .ref (o 6), .ref (o 74), .ref (o 75), .ref (o 76)])), ((o 74), .inl (k 0, 3, .inl f4)), ((o 76), .inl (k 3, 3, .inl f5)), ((o 9), .inr (0, [.ref (o 3), .ref (o 6), .int (-2), .int 0])), ((o 4), .inr (3, [.ref (o 69), .ref (o 70), .ref (o 71)])), ((o 69), .inl (k 0, 17, .inl (u_2 0))), ((o 70), .inl (k 0, 17, .inl (u_2 1))), ((o 71), .inl (k 0, 17, .inl (u_2 2)))]) (As := []) S hK hP hD hS hA hl mwX1_asItIs lkX10_475 (ctX1_asItIs l D k o ) [1, 11] [0, 2, 3, 4, 5, 6, 7, 8, 9, 10] rfl rfl (by decide) (by decide) (by decide) rfl rfl rfl rfl rfl ⟨Nat.le_of_ble_eq_true rfl, Nat.le_of_ble_eq_true rfl, Nat.le_of_ble_eq_true rfl⟩ dX10_retell_15 ⟨Nat.le_of_ble_eq_true rfl, Nat.le_of_ble_eq_true rfl⟩ (fun u_4 H locs hr_3 hP hD hS => ?_)
  have hP : va_P D vwCl [((o 0), .inr (10, [.ref (o 1), .ref (o 2), .ref (o 3), .ref (o 4), .ref (o 5), .ref (o 6), .ref (o 7), .ref (o 8), .ref (o 9), .ref (o 10), .ref (o 11), .ref (o 12), .ref (o 13), .ref (o 14)])), ((o 72), .inl (k 0, 17, .inl f3)), ((o 8), .inr (8, [.ref (o 3), .ref (o 4), .ref (o 6), .ref (o 74), .ref (o 75), .ref (o 76)])), ((o 74), .inl (k 0, 3, .inl f4)), ((o 76), .inl (k 3, 3, .inl f5)), ((o 9), .inr (0, [.ref (o 3), .ref (o 6), .int (-2), .int 0])), ((o 4), .inr (3, [.ref (o 69), .ref (o 70), .ref (o 71)])), ((o 69), .inl (k 0, 17, .inl (u_2 0))), ((o 70), .inl (k 0, 17, .inl (u_2 1))), ((o 71), .inl (k 0, 17, .inl (u_2 2))), ((o 5), .inr (1, [.ref (o 3), .ref (o 4), .int 0, .int 0, .int 0, .int 0, .int 0, .ref (o 72)])), ((o 3), .inr (2, [.int 0, .int 0, .int 0, .int 0, .int 0, .int 0, .int 0, .int 0, .int 0, .ref (o 26), .ref (o 27), .ref (o 28), .ref (o 29), .ref (o 30), .ref (o 31), .ref (o 32), .ref (o 33), .ref (o 34), .ref (o 35)]))] H := hP
  have hD : va_D A [((o 0), .inr (10, [.ref (o 1), .ref (o 2), .ref (o 3), .ref (o 4), .ref (o 5), .ref (o 6), .ref (o 7), .ref (o 8), .ref (o 9), .ref (o 10), .ref (o 11), .ref (o 12), .ref (o 13), .ref (o 14)])), ((o 72), .inl (k 0, 17, .inl f3)), ((o 8), .inr (8, [.ref (o 3), .ref (o 4), .ref (o 6), .ref (o 74), .ref (o 75), .ref (o 76)])), ((o 74), .inl (k 0, 3, .inl f4)), ((o 76), .inl (k 3, 3, .inl f5)), ((o 9), .inr (0, [.ref (o 3), .ref (o 6), .int (-2), .int 0])), ((o 4), .inr (3, [.ref (o 69), .ref (o 70), .ref (o 71)])), ((o 69), .inl (k 0, 17, .inl (u_2 0))), ((o 70), .inl (k 0, 17, .inl (u_2 1))), ((o 71), .inl (k 0, 17, .inl (u_2 2))), ((o 5), .inr (1, [.ref (o 3), .ref (o 4), .int 0, .int 0, .int 0, .int 0, .int 0, .ref (o 72)])), ((o 3), .inr (2, [.int 0, .int 0, .int 0, .int 0, .int 0, .int 0, .int 0, .int 0, .int 0, .ref (o 26), .ref (o 27), .ref (o 28), .ref (o 29), .ref (o 30), .ref (o 31), .ref (o 32), .ref (o 33), .ref (o 34), .ref (o 35)]))] := hD
  refine lv_aload_n hx hb dX10_retell_18 rfl (lv_at hl 0 rfl) ?_
  refine x_get S hK hP 0 rfl cfX10 4 lkX10_38 (by decide) rfl dX10_retell_19 ?_
  refine x_muVv (wr := [((o 0), .inr (10, [.ref (o 1), .ref (o 2), .ref (o 3), .ref (o 4), .ref (o 5), .ref (o 6), .ref (o 7), .ref (o 8), .ref (o 9), .ref (o 10), .ref (o 11), .ref (o 12), .ref (o 13), .ref (o 14)])), ((o 8), .inr (8, [.ref (o 3), .ref (o 4), .ref (o 6), .ref (o 74), .ref (o 75), .ref (o 76)])), ((o 74), .inl (k 0, 3, .inl f4)), ((o 76), .inl (k 3, 3, .inl f5)), ((o 9), .inr (0, [.ref (o 3), .ref (o 6), .int (-2), .int 0])), ((o 71), .inl (k 0, 17, .inl (u_2 2)))]) (As := []) S hK hP hD hS hA hl mwX1_run lkX10_359 (ctX1_run l D k o (u_2 0) (u_2 1) f3 ) [10, 1, 6, 7, 8, 11] [0, 2, 3, 4, 5, 9] rfl rfl (by decide) (by decide) (by decide) rfl rfl rfl rfl rfl ⟨Nat.le_of_ble_eq_true rfl, Nat.le_of_ble_eq_true rfl, Nat.le_of_ble_eq_true rfl⟩ dX10_retell_22 ⟨Nat.le_of_ble_eq_true rfl, Nat.le_of_ble_eq_true rfl⟩ (fun u_6 H locs hr_5 hP hD hS => ?_)
  have hP : va_P D vwCl [((o 0), .inr (10, [.ref (o 1), .ref (o 2), .ref (o 3), .ref (o 4), .ref (o 5), .ref (o 6), .ref (o 7), .ref (o 8), .ref (o 9), .ref (o 10), .ref (o 11), .ref (o 12), .ref (o 13), .ref (o 14)])), ((o 8), .inr (8, [.ref (o 3), .ref (o 4), .ref (o 6), .ref (o 74), .ref (o 75), .ref (o 76)])), ((o 74), .inl (k 0, 3, .inl f4)), ((o 76), .inl (k 3, 3, .inl f5)), ((o 9), .inr (0, [.ref (o 3), .ref (o 6), .int (-2), .int 0])), ((o 71), .inl (k 0, 17, .inl (u_2 2))), ((o 5), .inr (1, [.ref (o 3), .ref (o 4), .int 0, .int 0, .int 0, .int 0, .int 0, .ref (o 72)])), ((o 72), .inl (k 0, 17, .inl u_6)), ((o 4), .inr (3, [.ref (o 69), .ref (o 70), .ref (o 71)])), ((o 69), .inl (k 0, 17, .inl (u_2 0))), ((o 70), .inl (k 0, 17, .inl (u_2 1))), ((o 3), .inr (2, [.int 0, .int 0, .int 0, .int 0, .int 0, .int 0, .int 0, .int 0, .int 0, .ref (o 26), .ref (o 27), .ref (o 28), .ref (o 29), .ref (o 30), .ref (o 31), .ref (o 32), .ref (o 33), .ref (o 34), .ref (o 35)]))] H := hP
  have hD : va_D A [((o 0), .inr (10, [.ref (o 1), .ref (o 2), .ref (o 3), .ref (o 4), .ref (o 5), .ref (o 6), .ref (o 7), .ref (o 8), .ref (o 9), .ref (o 10), .ref (o 11), .ref (o 12), .ref (o 13), .ref (o 14)])), ((o 8), .inr (8, [.ref (o 3), .ref (o 4), .ref (o 6), .ref (o 74), .ref (o 75), .ref (o 76)])), ((o 74), .inl (k 0, 3, .inl f4)), ((o 76), .inl (k 3, 3, .inl f5)), ((o 9), .inr (0, [.ref (o 3), .ref (o 6), .int (-2), .int 0])), ((o 71), .inl (k 0, 17, .inl (u_2 2))), ((o 5), .inr (1, [.ref (o 3), .ref (o 4), .int 0, .int 0, .int 0, .int 0, .int 0, .ref (o 72)])), ((o 72), .inl (k 0, 17, .inl u_6)), ((o 4), .inr (3, [.ref (o 69), .ref (o 70), .ref (o 71)])), ((o 69), .inl (k 0, 17, .inl (u_2 0))), ((o 70), .inl (k 0, 17, .inl (u_2 1))), ((o 3), .inr (2, [.int 0, .int 0, .int 0, .int 0, .int 0, .int 0, .int 0, .int 0, .int 0, .ref (o 26), .ref (o 27), .ref (o 28), .ref (o 29), .ref (o 30), .ref (o 31), .ref (o 32), .ref (o 33), .ref (o 34), .ref (o 35)]))] := hD
  refine lv_aload_n hx hb dX10_retell_25 rfl (lv_at hl 0 rfl) ?_
  refine x_get S hK hP 0 rfl cfX10 7 lkX10_57 (by decide) rfl dX10_retell_26 ?_
  refine x_muVv (wr := [((o 0), .inr (10, [.ref (o 1), .ref (o 2), .ref (o 3), .ref (o 4), .ref (o 5), .ref (o 6), .ref (o 7), .ref (o 8), .ref (o 9), .ref (o 10), .ref (o 11), .ref (o 12), .ref (o 13), .ref (o 14)])), ((o 9), .inr (0, [.ref (o 3), .ref (o 6), .int (-2), .int 0])), ((o 71), .inl (k 0, 17, .inl (u_2 2))), ((o 5), .inr (1, [.ref (o 3), .ref (o 4), .int 0, .int 0, .int 0, .int 0, .int 0, .ref (o 72)])), ((o 72), .inl (k 0, 17, .inl u_6)), ((o 4), .inr (3, [.ref (o 69), .ref (o 70), .ref (o 71)])), ((o 69), .inl (k 0, 17, .inl (u_2 0))), ((o 70), .inl (k 0, 17, .inl (u_2 1))), ((o 3), .inr (2, [.int 0, .int 0, .int 0, .int 0, .int 0, .int 0, .int 0, .int 0, .int 0, .ref (o 26), .ref (o 27), .ref (o 28), .ref (o 29), .ref (o 30), .ref (o 31), .ref (o 32), .ref (o 33), .ref (o 34), .ref (o 35)]))]) (As := []) S hK hP hD hS hA hl mwX8_forget lkX10_478 (ctX8_forget l D k o f4 f5 ) [1, 2, 3] [0, 4, 5, 6, 7, 8, 9, 10, 11] rfl rfl (by decide) (by decide) (by decide) rfl rfl rfl rfl rfl ⟨Nat.le_of_ble_eq_true rfl, Nat.le_of_ble_eq_true rfl, Nat.le_of_ble_eq_true rfl⟩ dX10_retell_29 ⟨Nat.le_of_ble_eq_true rfl, Nat.le_of_ble_eq_true rfl⟩ (fun u_8 H locs hr_7 hP hD hS => ?_)
  have hP : va_P D vwCl [((o 0), .inr (10, [.ref (o 1), .ref (o 2), .ref (o 3), .ref (o 4), .ref (o 5), .ref (o 6), .ref (o 7), .ref (o 8), .ref (o 9), .ref (o 10), .ref (o 11), .ref (o 12), .ref (o 13), .ref (o 14)])), ((o 9), .inr (0, [.ref (o 3), .ref (o 6), .int (-2), .int 0])), ((o 71), .inl (k 0, 17, .inl (u_2 2))), ((o 5), .inr (1, [.ref (o 3), .ref (o 4), .int 0, .int 0, .int 0, .int 0, .int 0, .ref (o 72)])), ((o 72), .inl (k 0, 17, .inl u_6)), ((o 4), .inr (3, [.ref (o 69), .ref (o 70), .ref (o 71)])), ((o 69), .inl (k 0, 17, .inl (u_2 0))), ((o 70), .inl (k 0, 17, .inl (u_2 1))), ((o 3), .inr (2, [.int 0, .int 0, .int 0, .int 0, .int 0, .int 0, .int 0, .int 0, .int 0, .ref (o 26), .ref (o 27), .ref (o 28), .ref (o 29), .ref (o 30), .ref (o 31), .ref (o 32), .ref (o 33), .ref (o 34), .ref (o 35)])), ((o 8), .inr (8, [.ref (o 3), .ref (o 4), .ref (o 6), .ref (o 74), .ref (o 75), .ref (o 76)])), ((o 74), .inl (k 0, 3, .inl (u_8 0))), ((o 76), .inl (k 3, 3, .inl (u_8 1)))] H := hP
  have hD : va_D A [((o 0), .inr (10, [.ref (o 1), .ref (o 2), .ref (o 3), .ref (o 4), .ref (o 5), .ref (o 6), .ref (o 7), .ref (o 8), .ref (o 9), .ref (o 10), .ref (o 11), .ref (o 12), .ref (o 13), .ref (o 14)])), ((o 9), .inr (0, [.ref (o 3), .ref (o 6), .int (-2), .int 0])), ((o 71), .inl (k 0, 17, .inl (u_2 2))), ((o 5), .inr (1, [.ref (o 3), .ref (o 4), .int 0, .int 0, .int 0, .int 0, .int 0, .ref (o 72)])), ((o 72), .inl (k 0, 17, .inl u_6)), ((o 4), .inr (3, [.ref (o 69), .ref (o 70), .ref (o 71)])), ((o 69), .inl (k 0, 17, .inl (u_2 0))), ((o 70), .inl (k 0, 17, .inl (u_2 1))), ((o 3), .inr (2, [.int 0, .int 0, .int 0, .int 0, .int 0, .int 0, .int 0, .int 0, .int 0, .ref (o 26), .ref (o 27), .ref (o 28), .ref (o 29), .ref (o 30), .ref (o 31), .ref (o 32), .ref (o 33), .ref (o 34), .ref (o 35)])), ((o 8), .inr (8, [.ref (o 3), .ref (o 4), .ref (o 6), .ref (o 74), .ref (o 75), .ref (o 76)])), ((o 74), .inl (k 0, 3, .inl (u_8 0))), ((o 76), .inl (k 3, 3, .inl (u_8 1)))] := hD
  refine lv_aload_n hx hb dX10_retell_32 rfl (lv_at hl 0 rfl) ?_
  refine x_get S hK hP 0 rfl cfX10 8 lkX10_66 (by decide) rfl dX10_retell_33 ?_
  refine x_muVv (wr := [((o 0), .inr (10, [.ref (o 1), .ref (o 2), .ref (o 3), .ref (o 4), .ref (o 5), .ref (o 6), .ref (o 7), .ref (o 8), .ref (o 9), .ref (o 10), .ref (o 11), .ref (o 12), .ref (o 13), .ref (o 14)])), ((o 71), .inl (k 0, 17, .inl (u_2 2))), ((o 5), .inr (1, [.ref (o 3), .ref (o 4), .int 0, .int 0, .int 0, .int 0, .int 0, .ref (o 72)])), ((o 72), .inl (k 0, 17, .inl u_6)), ((o 4), .inr (3, [.ref (o 69), .ref (o 70), .ref (o 71)])), ((o 69), .inl (k 0, 17, .inl (u_2 0))), ((o 70), .inl (k 0, 17, .inl (u_2 1))), ((o 3), .inr (2, [.int 0, .int 0, .int 0, .int 0, .int 0, .int 0, .int 0, .int 0, .int 0, .ref (o 26), .ref (o 27), .ref (o 28), .ref (o 29), .ref (o 30), .ref (o 31), .ref (o 32), .ref (o 33), .ref (o 34), .ref (o 35)])), ((o 8), .inr (8, [.ref (o 3), .ref (o 4), .ref (o 6), .ref (o 74), .ref (o 75), .ref (o 76)])), ((o 74), .inl (k 0, 3, .inl (u_8 0))), ((o 76), .inl (k 3, 3, .inl (u_8 1)))]) (As := []) S hK hP hD hS hA hl mwX0_forget lkX10_481 (ctX0_forget l D k o ) [1] [0, 2, 3, 4, 5, 6, 7, 8, 9, 10, 11] rfl rfl (by decide) (by decide) (by decide) rfl rfl rfl rfl rfl ⟨Nat.le_of_ble_eq_true rfl, Nat.le_of_ble_eq_true rfl, Nat.le_of_ble_eq_true rfl⟩ dX10_retell_36 ⟨Nat.le_of_ble_eq_true rfl, Nat.le_of_ble_eq_true rfl⟩ (fun u_10 H locs hr_9 hP hD hS => ?_)
  have hP : va_P D vwCl [((o 0), .inr (10, [.ref (o 1), .ref (o 2), .ref (o 3), .ref (o 4), .ref (o 5), .ref (o 6), .ref (o 7), .ref (o 8), .ref (o 9), .ref (o 10), .ref (o 11), .ref (o 12), .ref (o 13), .ref (o 14)])), ((o 71), .inl (k 0, 17, .inl (u_2 2))), ((o 5), .inr (1, [.ref (o 3), .ref (o 4), .int 0, .int 0, .int 0, .int 0, .int 0, .ref (o 72)])), ((o 72), .inl (k 0, 17, .inl u_6)), ((o 4), .inr (3, [.ref (o 69), .ref (o 70), .ref (o 71)])), ((o 69), .inl (k 0, 17, .inl (u_2 0))), ((o 70), .inl (k 0, 17, .inl (u_2 1))), ((o 3), .inr (2, [.int 0, .int 0, .int 0, .int 0, .int 0, .int 0, .int 0, .int 0, .int 0, .ref (o 26), .ref (o 27), .ref (o 28), .ref (o 29), .ref (o 30), .ref (o 31), .ref (o 32), .ref (o 33), .ref (o 34), .ref (o 35)])), ((o 8), .inr (8, [.ref (o 3), .ref (o 4), .ref (o 6), .ref (o 74), .ref (o 75), .ref (o 76)])), ((o 74), .inl (k 0, 3, .inl (u_8 0))), ((o 76), .inl (k 3, 3, .inl (u_8 1))), ((o 9), .inr (0, [.ref (o 3), .ref (o 6), .int (-2), .int 0]))] H := hP
  have hD : va_D A [((o 0), .inr (10, [.ref (o 1), .ref (o 2), .ref (o 3), .ref (o 4), .ref (o 5), .ref (o 6), .ref (o 7), .ref (o 8), .ref (o 9), .ref (o 10), .ref (o 11), .ref (o 12), .ref (o 13), .ref (o 14)])), ((o 71), .inl (k 0, 17, .inl (u_2 2))), ((o 5), .inr (1, [.ref (o 3), .ref (o 4), .int 0, .int 0, .int 0, .int 0, .int 0, .ref (o 72)])), ((o 72), .inl (k 0, 17, .inl u_6)), ((o 4), .inr (3, [.ref (o 69), .ref (o 70), .ref (o 71)])), ((o 69), .inl (k 0, 17, .inl (u_2 0))), ((o 70), .inl (k 0, 17, .inl (u_2 1))), ((o 3), .inr (2, [.int 0, .int 0, .int 0, .int 0, .int 0, .int 0, .int 0, .int 0, .int 0, .ref (o 26), .ref (o 27), .ref (o 28), .ref (o 29), .ref (o 30), .ref (o 31), .ref (o 32), .ref (o 33), .ref (o 34), .ref (o 35)])), ((o 8), .inr (8, [.ref (o 3), .ref (o 4), .ref (o 6), .ref (o 74), .ref (o 75), .ref (o 76)])), ((o 74), .inl (k 0, 3, .inl (u_8 0))), ((o 76), .inl (k 3, 3, .inl (u_8 1))), ((o 9), .inr (0, [.ref (o 3), .ref (o 6), .int (-2), .int 0]))] := hD
  exact x_retv S hr hlk hQ hS (fun i => ([(u_2 0), (u_2 1), (u_2 2), u_6, (u_8 0), (u_8 1)] : List (Nat → Int32)).getD i (fun _ => 0)) trivial (x_B (hP.sub [0, 7, 4, 5, 6, 1, 2, 3, 8, 9, 10, 11] rfl) (hD.sub [0, 7, 4, 5, 6, 1, 2, 3, 8, 9, 10, 11] (by decide) rfl)) dX10_retell_39
