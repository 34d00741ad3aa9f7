theorem dX11_getsBy_0 : decode cX11_getsBy 0 = .ok (.aload_n 0, 1) := by decide +kernel
theorem dX11_getsBy_1 : decode cX11_getsBy 1 = .ok (.invokevirtual 309, 3) := by decide +kernel
theorem dX11_getsBy_4 : decode cX11_getsBy 4 = .ok (.aload_n 0, 1) := by decide +kernel
theorem dX11_getsBy_5 : decode cX11_getsBy 5 = .ok (.getfield 43, 3) := by decide +kernel
theorem dX11_getsBy_8 : decode cX11_getsBy 8 = .ok (.iload_n 1, 1) := by decide +kernel
theorem dX11_getsBy_9 : decode cX11_getsBy 9 = .ok (.dup2, 1) := by decide +kernel
theorem dX11_getsBy_10 : decode cX11_getsBy 10 = .ok (.iaload, 1) := by decide +kernel
theorem dX11_getsBy_11 : decode cX11_getsBy 11 = .ok (.iload_n 3, 1) := by decide +kernel
theorem dX11_getsBy_12 : decode cX11_getsBy 12 = .ok (.iadd, 1) := by decide +kernel
theorem dX11_getsBy_13 : decode cX11_getsBy 13 = .ok (.iastore, 1) := by decide +kernel
theorem dX11_getsBy_14 : decode cX11_getsBy 14 = .ok (.aload_n 0, 1) := by decide +kernel
theorem dX11_getsBy_15 : decode cX11_getsBy 15 = .ok (.getfield 43, 3) := by decide +kernel
theorem dX11_getsBy_18 : decode cX11_getsBy 18 = .ok (.iload_n 2, 1) := by decide +kernel
theorem dX11_getsBy_19 : decode cX11_getsBy 19 = .ok (.dup2, 1) := by decide +kernel
theorem dX11_getsBy_20 : decode cX11_getsBy 20 = .ok (.iaload, 1) := by decide +kernel
theorem dX11_getsBy_21 : decode cX11_getsBy 21 = .ok (.iload 4, 2) := by decide +kernel
theorem dX11_getsBy_23 : decode cX11_getsBy 23 = .ok (.iadd, 1) := by decide +kernel
theorem dX11_getsBy_24 : decode cX11_getsBy 24 = .ok (.iastore, 1) := by decide +kernel
theorem dX11_getsBy_25 : decode cX11_getsBy 25 = .ok (.aload_n 0, 1) := by decide +kernel
theorem dX11_getsBy_26 : decode cX11_getsBy 26 = .ok (.invokevirtual 312, 3) := by decide +kernel
theorem dX11_getsBy_29 : decode cX11_getsBy 29 = .ok (.iload 5, 2) := by decide +kernel
theorem dX11_getsBy_31 : decode cX11_getsBy 31 = .ok (.ifCond .ne 7, 3) := by decide +kernel
theorem dX11_getsBy_34 : decode cX11_getsBy 34 = .ok (.iload_n 1, 1) := by decide +kernel
theorem dX11_getsBy_35 : decode cX11_getsBy 35 = .ok (.goto 4, 3) := by decide +kernel
theorem dX11_getsBy_38 : decode cX11_getsBy 38 = .ok (.iload_n 2, 1) := by decide +kernel
theorem dX11_getsBy_39 : decode cX11_getsBy 39 = .ok (.istore 6, 2) := by decide +kernel
theorem dX11_getsBy_41 : decode cX11_getsBy 41 = .ok (.bipush (-3), 2) := by decide +kernel
theorem dX11_getsBy_43 : decode cX11_getsBy 43 = .ok (.iload 5, 2) := by decide +kernel
theorem dX11_getsBy_45 : decode cX11_getsBy 45 = .ok (.ifCond .ne 7, 3) := by decide +kernel
theorem dX11_getsBy_48 : decode cX11_getsBy 48 = .ok (.iload_n 3, 1) := by decide +kernel
theorem dX11_getsBy_49 : decode cX11_getsBy 49 = .ok (.goto 5, 3) := by decide +kernel
theorem dX11_getsBy_52 : decode cX11_getsBy 52 = .ok (.iload 4, 2) := by decide +kernel
theorem dX11_getsBy_54 : decode cX11_getsBy 54 = .ok (.imul, 1) := by decide +kernel
theorem dX11_getsBy_55 : decode cX11_getsBy 55 = .ok (.istore 7, 2) := by decide +kernel
theorem dX11_getsBy_57 : decode cX11_getsBy 57 = .ok (.iconst 1, 1) := by decide +kernel
theorem dX11_getsBy_58 : decode cX11_getsBy 58 = .ok (.istore 8, 2) := by decide +kernel
theorem dX11_getsBy_60 : decode cX11_getsBy 60 = .ok (.iload 8, 2) := by decide +kernel
theorem dX11_getsBy_62 : decode cX11_getsBy 62 = .ok (.aload_n 0, 1) := by decide +kernel
theorem dX11_getsBy_63 : decode cX11_getsBy 63 = .ok (.invokevirtual 103, 3) := by decide +kernel
theorem dX11_getsBy_66 : decode cX11_getsBy 66 = .ok (.if_icmp .gt 51, 3) := by decide +kernel
theorem dX11_getsBy_69 : decode cX11_getsBy 69 = .ok (.iload 7, 2) := by decide +kernel
theorem dX11_getsBy_71 : decode cX11_getsBy 71 = .ok (.aload_n 0, 1) := by decide +kernel
theorem dX11_getsBy_72 : decode cX11_getsBy 72 = .ok (.iload 6, 2) := by decide +kernel
theorem dX11_getsBy_74 : decode cX11_getsBy 74 = .ok (.iload 8, 2) := by decide +kernel
theorem dX11_getsBy_76 : decode cX11_getsBy 76 = .ok (.invokevirtual 333, 3) := by decide +kernel
theorem dX11_getsBy_79 : decode cX11_getsBy 79 = .ok (.ifCond .le 28, 3) := by decide +kernel
theorem dX11_getsBy_82 : decode cX11_getsBy 82 = .ok (.aload_n 0, 1) := by decide +kernel
theorem dX11_getsBy_83 : decode cX11_getsBy 83 = .ok (.iload 6, 2) := by decide +kernel
theorem dX11_getsBy_85 : decode cX11_getsBy 85 = .ok (.iload 8, 2) := by decide +kernel
theorem dX11_getsBy_87 : decode cX11_getsBy 87 = .ok (.invokevirtual 333, 3) := by decide +kernel
theorem dX11_getsBy_90 : decode cX11_getsBy 90 = .ok (.aload_n 0, 1) := by decide +kernel
theorem dX11_getsBy_91 : decode cX11_getsBy 91 = .ok (.iload 6, 2) := by decide +kernel
theorem dX11_getsBy_93 : decode cX11_getsBy 93 = .ok (.iload 8, 2) := by decide +kernel
theorem dX11_getsBy_95 : decode cX11_getsBy 95 = .ok (.iconst 1, 1) := by decide +kernel
theorem dX11_getsBy_96 : decode cX11_getsBy 96 = .ok (.isub, 1) := by decide +kernel
theorem dX11_getsBy_97 : decode cX11_getsBy 97 = .ok (.invokevirtual 333, 3) := by decide +kernel
theorem dX11_getsBy_100 : decode cX11_getsBy 100 = .ok (.if_icmp .ne 7, 3) := by decide +kernel
theorem dX11_getsBy_103 : decode cX11_getsBy 103 = .ok (.iconst 2, 1) := by decide +kernel
theorem dX11_getsBy_104 : decode cX11_getsBy 104 = .ok (.goto 4, 3) := by decide +kernel
theorem dX11_getsBy_107 : decode cX11_getsBy 107 = .ok (.iconst 0, 1) := by decide +kernel
theorem dX11_getsBy_108 : decode cX11_getsBy 108 = .ok (.iadd, 1) := by decide +kernel
theorem dX11_getsBy_109 : decode cX11_getsBy 109 = .ok (.istore 7, 2) := by decide +kernel
theorem dX11_getsBy_111 : decode cX11_getsBy 111 = .ok (.iinc 8 1, 3) := by decide +kernel
theorem dX11_getsBy_114 : decode cX11_getsBy 114 = .ok (.goto (-54), 3) := by decide +kernel
theorem dX11_getsBy_117 : decode cX11_getsBy 117 = .ok (.iload 7, 2) := by decide +kernel
theorem dX11_getsBy_119 : decode cX11_getsBy 119 = .ok (.ireturn, 1) := by decide +kernel
theorem dX11_areTwo_0 : decode cX11_areTwo 0 = .ok (.aload_n 0, 1) := by decide +kernel
theorem dX11_areTwo_1 : decode cX11_areTwo 1 = .ok (.iload_n 1, 1) := by decide +kernel
theorem dX11_areTwo_2 : decode cX11_areTwo 2 = .ok (.i2l, 1) := by decide +kernel
theorem dX11_areTwo_3 : decode cX11_areTwo 3 = .ok (.invokevirtual 237, 3) := by decide +kernel
theorem dX11_areTwo_6 : decode cX11_areTwo 6 = .ok (.ifCond .eq 21, 3) := by decide +kernel
theorem dX11_areTwo_9 : decode cX11_areTwo 9 = .ok (.aload_n 0, 1) := by decide +kernel
theorem dX11_areTwo_10 : decode cX11_areTwo 10 = .ok (.iload_n 2, 1) := by decide +kernel
theorem dX11_areTwo_11 : decode cX11_areTwo 11 = .ok (.i2l, 1) := by decide +kernel
theorem dX11_areTwo_12 : decode cX11_areTwo 12 = .ok (.invokevirtual 237, 3) := by decide +kernel
theorem dX11_areTwo_15 : decode cX11_areTwo 15 = .ok (.ifCond .eq 12, 3) := by decide +kernel
theorem dX11_areTwo_18 : decode cX11_areTwo 18 = .ok (.iload_n 1, 1) := by decide +kernel
theorem dX11_areTwo_19 : decode cX11_areTwo 19 = .ok (.iload_n 2, 1) := by decide +kernel
theorem dX11_areTwo_20 : decode cX11_areTwo 20 = .ok (.if_icmp .eq 7, 3) := by decide +kernel
theorem dX11_areTwo_23 : decode cX11_areTwo 23 = .ok (.iconst 1, 1) := by decide +kernel
theorem dX11_areTwo_24 : decode cX11_areTwo 24 = .ok (.goto 4, 3) := by decide +kernel
theorem dX11_areTwo_27 : decode cX11_areTwo 27 = .ok (.iconst 0, 1) := by decide +kernel
theorem dX11_areTwo_28 : decode cX11_areTwo 28 = .ok (.ireturn, 1) := by decide +kernel
theorem dX11_rests_0 : decode cX11_rests 0 = .ok (.aload_n 0, 1) := by decide +kernel
theorem dX11_rests_1 : decode cX11_rests 1 = .ok (.iload_n 1, 1) := by decide +kernel
theorem dX11_rests_2 : decode cX11_rests 2 = .ok (.iload_n 2, 1) := by decide +kernel
theorem dX11_rests_3 : decode cX11_rests 3 = .ok (.invokevirtual 458, 3) := by decide +kernel
theorem dX11_rests_6 : decode cX11_rests 6 = .ok (.ifCond .ne 6, 3) := by decide +kernel
theorem dX11_rests_9 : decode cX11_rests 9 = .ok (.bipush (-2), 2) := by decide +kernel
theorem dX11_rests_11 : decode cX11_rests 11 = .ok (.ireturn, 1) := by decide +kernel
theorem dX11_rests_12 : decode cX11_rests 12 = .ok (.iconst 0, 1) := by decide +kernel
theorem dX11_rests_13 : decode cX11_rests 13 = .ok (.istore_n 3, 1) := by decide +kernel
theorem dX11_rests_14 : decode cX11_rests 14 = .ok (.iconst 0, 1) := by decide +kernel
theorem dX11_rests_15 : decode cX11_rests 15 = .ok (.istore 4, 2) := by decide +kernel
theorem dX11_rests_17 : decode cX11_rests 17 = .ok (.iload 4, 2) := by decide +kernel
theorem dX11_rests_19 : decode cX11_rests 19 = .ok (.iconst 4, 1) := by decide +kernel
theorem dX11_rests_20 : decode cX11_rests 20 = .ok (.if_icmp .ge 98, 3) := by decide +kernel
theorem dX11_rests_23 : decode cX11_rests 23 = .ok (.iload 4, 2) := by decide +kernel
theorem dX11_rests_25 : decode cX11_rests 25 = .ok (.iconst 1, 1) := by decide +kernel
theorem dX11_rests_26 : decode cX11_rests 26 = .ok (.iand, 1) := by decide +kernel
theorem dX11_rests_27 : decode cX11_rests 27 = .ok (.istore 5, 2) := by decide +kernel
theorem dX11_rests_29 : decode cX11_rests 29 = .ok (.iload 4, 2) := by decide +kernel
theorem dX11_rests_31 : decode cX11_rests 31 = .ok (.iconst 1, 1) := by decide +kernel
theorem dX11_rests_32 : decode cX11_rests 32 = .ok (.ishr, 1) := by decide +kernel
theorem dX11_rests_33 : decode cX11_rests 33 = .ok (.istore 6, 2) := by decide +kernel
theorem dX11_rests_35 : decode cX11_rests 35 = .ok (.aload_n 0, 1) := by decide +kernel
theorem dX11_rests_36 : decode cX11_rests 36 = .ok (.iload_n 1, 1) := by decide +kernel
theorem dX11_rests_37 : decode cX11_rests 37 = .ok (.iload_n 2, 1) := by decide +kernel
theorem dX11_rests_38 : decode cX11_rests 38 = .ok (.iload 5, 2) := by decide +kernel
theorem dX11_rests_40 : decode cX11_rests 40 = .ok (.iload 6, 2) := by decide +kernel
theorem dX11_rests_42 : decode cX11_rests 42 = .ok (.iconst 0, 1) := by decide +kernel
theorem dX11_rests_43 : decode cX11_rests 43 = .ok (.invokevirtual 461, 3) := by decide +kernel
theorem dX11_rests_46 : decode cX11_rests 46 = .ok (.aload_n 0, 1) := by decide +kernel
theorem dX11_rests_47 : decode cX11_rests 47 = .ok (.iload_n 1, 1) := by decide +kernel
theorem dX11_rests_48 : decode cX11_rests 48 = .ok (.iload_n 2, 1) := by decide +kernel
theorem dX11_rests_49 : decode cX11_rests 49 = .ok (.iconst 1, 1) := by decide +kernel
theorem dX11_rests_50 : decode cX11_rests 50 = .ok (.iload 5, 2) := by decide +kernel
theorem dX11_rests_52 : decode cX11_rests 52 = .ok (.isub, 1) := by decide +kernel
theorem dX11_rests_53 : decode cX11_rests 53 = .ok (.iload 6, 2) := by decide +kernel
theorem dX11_rests_55 : decode cX11_rests 55 = .ok (.iconst 0, 1) := by decide +kernel
theorem dX11_rests_56 : decode cX11_rests 56 = .ok (.invokevirtual 461, 3) := by decide +kernel
theorem dX11_rests_59 : decode cX11_rests 59 = .ok (.if_icmp .lt 34, 3) := by decide +kernel
theorem dX11_rests_62 : decode cX11_rests 62 = .ok (.aload_n 0, 1) := by decide +kernel
theorem dX11_rests_63 : decode cX11_rests 63 = .ok (.iload_n 1, 1) := by decide +kernel
theorem dX11_rests_64 : decode cX11_rests 64 = .ok (.iload_n 2, 1) := by decide +kernel
theorem dX11_rests_65 : decode cX11_rests 65 = .ok (.iload 5, 2) := by decide +kernel
theorem dX11_rests_67 : decode cX11_rests 67 = .ok (.iload 6, 2) := by decide +kernel
theorem dX11_rests_69 : decode cX11_rests 69 = .ok (.iconst 1, 1) := by decide +kernel
theorem dX11_rests_70 : decode cX11_rests 70 = .ok (.invokevirtual 461, 3) := by decide +kernel
theorem dX11_rests_73 : decode cX11_rests 73 = .ok (.aload_n 0, 1) := by decide +kernel
theorem dX11_rests_74 : decode cX11_rests 74 = .ok (.iload_n 1, 1) := by decide +kernel
theorem dX11_rests_75 : decode cX11_rests 75 = .ok (.iload_n 2, 1) := by decide +kernel
theorem dX11_rests_76 : decode cX11_rests 76 = .ok (.iload 5, 2) := by decide +kernel
theorem dX11_rests_78 : decode cX11_rests 78 = .ok (.iconst 1, 1) := by decide +kernel
theorem dX11_rests_79 : decode cX11_rests 79 = .ok (.iload 6, 2) := by decide +kernel
theorem dX11_rests_81 : decode cX11_rests 81 = .ok (.isub, 1) := by decide +kernel
theorem dX11_rests_82 : decode cX11_rests 82 = .ok (.iconst 1, 1) := by decide +kernel
theorem dX11_rests_83 : decode cX11_rests 83 = .ok (.invokevirtual 461, 3) := by decide +kernel
theorem dX11_rests_86 : decode cX11_rests 86 = .ok (.if_icmp .lt 7, 3) := by decide +kernel
theorem dX11_rests_89 : decode cX11_rests 89 = .ok (.iconst 1, 1) := by decide +kernel
theorem dX11_rests_90 : decode cX11_rests 90 = .ok (.goto 4, 3) := by decide +kernel
theorem dX11_rests_93 : decode cX11_rests 93 = .ok (.iconst 0, 1) := by decide +kernel
theorem dX11_rests_94 : decode cX11_rests 94 = .ok (.istore 7, 2) := by decide +kernel
theorem dX11_rests_96 : decode cX11_rests 96 = .ok (.iload_n 3, 1) := by decide +kernel
theorem dX11_rests_97 : decode cX11_rests 97 = .ok (.iload 7, 2) := by decide +kernel
theorem dX11_rests_99 : decode cX11_rests 99 = .ok (.ifCond .eq 10, 3) := by decide +kernel
theorem dX11_rests_102 : decode cX11_rests 102 = .ok (.iconst 1, 1) := by decide +kernel
theorem dX11_rests_103 : decode cX11_rests 103 = .ok (.iload 4, 2) := by decide +kernel
theorem dX11_rests_105 : decode cX11_rests 105 = .ok (.ishl, 1) := by decide +kernel
theorem dX11_rests_106 : decode cX11_rests 106 = .ok (.goto 4, 3) := by decide +kernel
theorem dX11_rests_109 : decode cX11_rests 109 = .ok (.iconst 0, 1) := by decide +kernel
theorem dX11_rests_110 : decode cX11_rests 110 = .ok (.ior, 1) := by decide +kernel
theorem dX11_rests_111 : decode cX11_rests 111 = .ok (.istore_n 3, 1) := by decide +kernel
theorem dX11_rests_112 : decode cX11_rests 112 = .ok (.iinc 4 1, 3) := by decide +kernel
theorem dX11_rests_115 : decode cX11_rests 115 = .ok (.goto (-98), 3) := by decide +kernel
theorem dX11_rests_118 : decode cX11_rests 118 = .ok (.iload_n 3, 1) := by decide +kernel
theorem dX11_rests_119 : decode cX11_rests 119 = .ok (.ireturn, 1) := by decide +kernel
theorem dX11_gets_0 : decode cX11_gets 0 = .ok (.aload_n 0, 1) := by decide +kernel
theorem dX11_gets_1 : decode cX11_gets 1 = .ok (.iload_n 1, 1) := by decide +kernel
theorem dX11_gets_2 : decode cX11_gets 2 = .ok (.iload_n 2, 1) := by decide +kernel
theorem dX11_gets_3 : decode cX11_gets 3 = .ok (.invokevirtual 458, 3) := by decide +kernel
theorem dX11_gets_6 : decode cX11_gets 6 = .ok (.ifCond .eq 37, 3) := by decide +kernel
theorem dX11_gets_9 : decode cX11_gets 9 = .ok (.iload_n 3, 1) := by decide +kernel
theorem dX11_gets_10 : decode cX11_gets 10 = .ok (.i2l, 1) := by decide +kernel
theorem dX11_gets_11 : decode cX11_gets 11 = .ok (.lconst 0, 1) := by decide +kernel
theorem dX11_gets_12 : decode cX11_gets 12 = .ok (.lconst 1, 1) := by decide +kernel
theorem dX11_gets_13 : decode cX11_gets 13 = .ok (.invokestatic 91, 3) := by decide +kernel
theorem dX11_gets_16 : decode cX11_gets 16 = .ok (.ifCond .eq 27, 3) := by decide +kernel
theorem dX11_gets_19 : decode cX11_gets 19 = .ok (.iload 4, 2) := by decide +kernel
theorem dX11_gets_21 : decode cX11_gets 21 = .ok (.i2l, 1) := by decide +kernel
theorem dX11_gets_22 : decode cX11_gets 22 = .ok (.lconst 0, 1) := by decide +kernel
theorem dX11_gets_23 : decode cX11_gets 23 = .ok (.lconst 1, 1) := by decide +kernel
theorem dX11_gets_24 : decode cX11_gets 24 = .ok (.invokestatic 91, 3) := by decide +kernel
theorem dX11_gets_27 : decode cX11_gets 27 = .ok (.ifCond .eq 16, 3) := by decide +kernel
theorem dX11_gets_30 : decode cX11_gets 30 = .ok (.aload_n 0, 1) := by decide +kernel
theorem dX11_gets_31 : decode cX11_gets 31 = .ok (.iload_n 1, 1) := by decide +kernel
theorem dX11_gets_32 : decode cX11_gets 32 = .ok (.iload_n 2, 1) := by decide +kernel
theorem dX11_gets_33 : decode cX11_gets 33 = .ok (.iload_n 3, 1) := by decide +kernel
theorem dX11_gets_34 : decode cX11_gets 34 = .ok (.iload 4, 2) := by decide +kernel
theorem dX11_gets_36 : decode cX11_gets 36 = .ok (.iconst 0, 1) := by decide +kernel
theorem dX11_gets_37 : decode cX11_gets 37 = .ok (.invokevirtual 461, 3) := by decide +kernel
theorem dX11_gets_40 : decode cX11_gets 40 = .ok (.goto 6, 3) := by decide +kernel
theorem dX11_gets_43 : decode cX11_gets 43 = .ok (.sipush (-1000), 3) := by decide +kernel
theorem dX11_gets_46 : decode cX11_gets 46 = .ok (.ireturn, 1) := by decide +kernel
theorem dX11_layWet_0 : decode cX11_layWet 0 = .ok (.aload_n 0, 1) := by decide +kernel
theorem dX11_layWet_1 : decode cX11_layWet 1 = .ok (.lconst 0, 1) := by decide +kernel
theorem dX11_layWet_2 : decode cX11_layWet 2 = .ok (.putfield 465, 3) := by decide +kernel
theorem dX11_layWet_5 : decode cX11_layWet 5 = .ok (.aload_n 0, 1) := by decide +kernel
theorem dX11_layWet_6 : decode cX11_layWet 6 = .ok (.lconst 0, 1) := by decide +kernel
theorem dX11_layWet_7 : decode cX11_layWet 7 = .ok (.putfield 468, 3) := by decide +kernel
theorem dX11_layWet_10 : decode cX11_layWet 10 = .ok (.aload_n 0, 1) := by decide +kernel
theorem dX11_layWet_11 : decode cX11_layWet 11 = .ok (.lconst 0, 1) := by decide +kernel
theorem dX11_layWet_12 : decode cX11_layWet 12 = .ok (.putfield 471, 3) := by decide +kernel
theorem dX11_layWet_15 : decode cX11_layWet 15 = .ok (.aload_n 0, 1) := by decide +kernel
theorem dX11_layWet_16 : decode cX11_layWet 16 = .ok (.invokevirtual 309, 3) := by decide +kernel
theorem dX11_layWet_19 : decode cX11_layWet 19 = .ok (.iconst 0, 1) := by decide +kernel
theorem dX11_layWet_20 : decode cX11_layWet 20 = .ok (.istore 4, 2) := by decide +kernel
theorem dX11_layWet_22 : decode cX11_layWet 22 = .ok (.iload 4, 2) := by decide +kernel
theorem dX11_layWet_24 : decode cX11_layWet 24 = .ok (.iconst 2, 1) := by decide +kernel
theorem dX11_layWet_25 : decode cX11_layWet 25 = .ok (.iload_n 3, 1) := by decide +kernel
theorem dX11_layWet_26 : decode cX11_layWet 26 = .ok (.ishl, 1) := by decide +kernel
theorem dX11_layWet_27 : decode cX11_layWet 27 = .ok (.if_icmp .ge 145, 3) := by decide +kernel
theorem dX11_layWet_30 : decode cX11_layWet 30 = .ok (.lconst 1, 1) := by decide +kernel
theorem dX11_layWet_31 : decode cX11_layWet 31 = .ok (.lstore 5, 2) := by decide +kernel
theorem dX11_layWet_33 : decode cX11_layWet 33 = .ok (.iconst 0, 1) := by decide +kernel
theorem dX11_layWet_34 : decode cX11_layWet 34 = .ok (.istore 7, 2) := by decide +kernel
theorem dX11_layWet_36 : decode cX11_layWet 36 = .ok (.iload 7, 2) := by decide +kernel
theorem dX11_layWet_38 : decode cX11_layWet 38 = .ok (.iload_n 3, 1) := by decide +kernel
theorem dX11_layWet_39 : decode cX11_layWet 39 = .ok (.if_icmp .gt 45, 3) := by decide +kernel
theorem dX11_layWet_42 : decode cX11_layWet 42 = .ok (.lload 5, 2) := by decide +kernel
theorem dX11_layWet_44 : decode cX11_layWet 44 = .ok (.iload 4, 2) := by decide +kernel
theorem dX11_layWet_46 : decode cX11_layWet 46 = .ok (.iload 7, 2) := by decide +kernel
theorem dX11_layWet_48 : decode cX11_layWet 48 = .ok (.invokestatic 274, 3) := by decide +kernel
theorem dX11_layWet_51 : decode cX11_layWet 51 = .ok (.iconst 1, 1) := by decide +kernel
theorem dX11_layWet_52 : decode cX11_layWet 52 = .ok (.if_icmp .ne 13, 3) := by decide +kernel
theorem dX11_layWet_55 : decode cX11_layWet 55 = .ok (.aload_n 0, 1) := by decide +kernel
theorem dX11_layWet_56 : decode cX11_layWet 56 = .ok (.getfield 9, 3) := by decide +kernel
theorem dX11_layWet_59 : decode cX11_layWet 59 = .ok (.iconst 2, 1) := by decide +kernel
theorem dX11_layWet_60 : decode cX11_layWet 60 = .ok (.iaload, 1) := by decide +kernel
theorem dX11_layWet_61 : decode cX11_layWet 61 = .ok (.i2l, 1) := by decide +kernel
theorem dX11_layWet_62 : decode cX11_layWet 62 = .ok (.goto 13, 3) := by decide +kernel
theorem dX11_layWet_65 : decode cX11_layWet 65 = .ok (.bipush 10, 2) := by decide +kernel
theorem dX11_layWet_67 : decode cX11_layWet 67 = .ok (.aload_n 0, 1) := by decide +kernel
theorem dX11_layWet_68 : decode cX11_layWet 68 = .ok (.getfield 9, 3) := by decide +kernel
theorem dX11_layWet_71 : decode cX11_layWet 71 = .ok (.iconst 2, 1) := by decide +kernel
theorem dX11_layWet_72 : decode cX11_layWet 72 = .ok (.iaload, 1) := by decide +kernel
theorem dX11_layWet_73 : decode cX11_layWet 73 = .ok (.isub, 1) := by decide +kernel
theorem dX11_layWet_74 : decode cX11_layWet 74 = .ok (.i2l, 1) := by decide +kernel
theorem dX11_layWet_75 : decode cX11_layWet 75 = .ok (.lmul, 1) := by decide +kernel
theorem dX11_layWet_76 : decode cX11_layWet 76 = .ok (.lstore 5, 2) := by decide +kernel
theorem dX11_layWet_78 : decode cX11_layWet 78 = .ok (.iinc 7 1, 3) := by decide +kernel
theorem dX11_layWet_81 : decode cX11_layWet 81 = .ok (.goto (-45), 3) := by decide +kernel
theorem dX11_layWet_84 : decode cX11_layWet 84 = .ok (.lload 5, 2) := by decide +kernel
theorem dX11_layWet_86 : decode cX11_layWet 86 = .ok (.lconst 0, 1) := by decide +kernel
theorem dX11_layWet_87 : decode cX11_layWet 87 = .ok (.lcmp, 1) := by decide +kernel
theorem dX11_layWet_88 : decode cX11_layWet 88 = .ok (.ifCond .ne 6, 3) := by decide +kernel
theorem dX11_layWet_91 : decode cX11_layWet 91 = .ok (.goto 75, 3) := by decide +kernel
theorem dX11_layWet_94 : decode cX11_layWet 94 = .ok (.aload_n 0, 1) := by decide +kernel
theorem dX11_layWet_95 : decode cX11_layWet 95 = .ok (.iload 4, 2) := by decide +kernel
theorem dX11_layWet_97 : decode cX11_layWet 97 = .ok (.putfield 264, 3) := by decide +kernel
theorem dX11_layWet_100 : decode cX11_layWet 100 = .ok (.aload_n 0, 1) := by decide +kernel
theorem dX11_layWet_101 : decode cX11_layWet 101 = .ok (.invokevirtual 312, 3) := by decide +kernel
theorem dX11_layWet_104 : decode cX11_layWet 104 = .ok (.aload_n 0, 1) := by decide +kernel
theorem dX11_layWet_105 : decode cX11_layWet 105 = .ok (.dup, 1) := by decide +kernel
theorem dX11_layWet_106 : decode cX11_layWet 106 = .ok (.getfield 465, 3) := by decide +kernel
theorem dX11_layWet_109 : decode cX11_layWet 109 = .ok (.lload 5, 2) := by decide +kernel
theorem dX11_layWet_111 : decode cX11_layWet 111 = .ok (.ladd, 1) := by decide +kernel
theorem dX11_layWet_112 : decode cX11_layWet 112 = .ok (.putfield 465, 3) := by decide +kernel
theorem dX11_layWet_115 : decode cX11_layWet 115 = .ok (.aload_n 0, 1) := by decide +kernel
theorem dX11_layWet_116 : decode cX11_layWet 116 = .ok (.dup, 1) := by decide +kernel
theorem dX11_layWet_117 : decode cX11_layWet 117 = .ok (.getfield 468, 3) := by decide +kernel
theorem dX11_layWet_120 : decode cX11_layWet 120 = .ok (.aload_n 0, 1) := by decide +kernel
theorem dX11_layWet_121 : decode cX11_layWet 121 = .ok (.iload_n 1, 1) := by decide +kernel
theorem dX11_layWet_122 : decode cX11_layWet 122 = .ok (.iload_n 3, 1) := by decide +kernel
theorem dX11_layWet_123 : decode cX11_layWet 123 = .ok (.iconst 1, 1) := by decide +kernel
theorem dX11_layWet_124 : decode cX11_layWet 124 = .ok (.iadd, 1) := by decide +kernel
theorem dX11_layWet_125 : decode cX11_layWet 125 = .ok (.invokevirtual 333, 3) := by decide +kernel
theorem dX11_layWet_128 : decode cX11_layWet 128 = .ok (.iload_n 2, 1) := by decide +kernel
theorem dX11_layWet_129 : decode cX11_layWet 129 = .ok (.if_icmp .ne 8, 3) := by decide +kernel
theorem dX11_layWet_132 : decode cX11_layWet 132 = .ok (.lload 5, 2) := by decide +kernel
theorem dX11_layWet_134 : decode cX11_layWet 134 = .ok (.goto 4, 3) := by decide +kernel
theorem dX11_layWet_137 : decode cX11_layWet 137 = .ok (.lconst 0, 1) := by decide +kernel
theorem dX11_layWet_138 : decode cX11_layWet 138 = .ok (.ladd, 1) := by decide +kernel
theorem dX11_layWet_139 : decode cX11_layWet 139 = .ok (.putfield 468, 3) := by decide +kernel
theorem dX11_layWet_142 : decode cX11_layWet 142 = .ok (.aload_n 0, 1) := by decide +kernel
theorem dX11_layWet_143 : decode cX11_layWet 143 = .ok (.dup, 1) := by decide +kernel
theorem dX11_layWet_144 : decode cX11_layWet 144 = .ok (.getfield 471, 3) := by decide +kernel
theorem dX11_layWet_147 : decode cX11_layWet 147 = .ok (.lload 5, 2) := by decide +kernel
theorem dX11_layWet_149 : decode cX11_layWet 149 = .ok (.aload_n 0, 1) := by decide +kernel
theorem dX11_layWet_150 : decode cX11_layWet 150 = .ok (.getfield 52, 3) := by decide +kernel
theorem dX11_layWet_153 : decode cX11_layWet 153 = .ok (.iload_n 3, 1) := by decide +kernel
theorem dX11_layWet_154 : decode cX11_layWet 154 = .ok (.iconst 1, 1) := by decide +kernel
theorem dX11_layWet_155 : decode cX11_layWet 155 = .ok (.iadd, 1) := by decide +kernel
theorem dX11_layWet_156 : decode cX11_layWet 156 = .ok (.iaload, 1) := by decide +kernel
theorem dX11_layWet_157 : decode cX11_layWet 157 = .ok (.invokestatic 296, 3) := by decide +kernel
theorem dX11_layWet_160 : decode cX11_layWet 160 = .ok (.i2l, 1) := by decide +kernel
theorem dX11_layWet_161 : decode cX11_layWet 161 = .ok (.lmul, 1) := by decide +kernel
theorem dX11_layWet_162 : decode cX11_layWet 162 = .ok (.ladd, 1) := by decide +kernel
theorem dX11_layWet_163 : decode cX11_layWet 163 = .ok (.putfield 471, 3) := by decide +kernel
theorem dX11_layWet_166 : decode cX11_layWet 166 = .ok (.iinc 4 1, 3) := by decide +kernel
theorem dX11_layWet_169 : decode cX11_layWet 169 = .ok (.goto (-147), 3) := by decide +kernel
theorem dX11_layWet_172 : decode cX11_layWet 172 = .ok (.return_, 1) := by decide +kernel
theorem dX11_isWet_0 : decode cX11_isWet 0 = .ok (.aload_n 0, 1) := by decide +kernel
theorem dX11_isWet_1 : decode cX11_isWet 1 = .ok (.invokevirtual 99, 3) := by decide +kernel
theorem dX11_isWet_4 : decode cX11_isWet 4 = .ok (.ifCond .eq 37, 3) := by decide +kernel
theorem dX11_isWet_7 : decode cX11_isWet 7 = .ok (.iload_n 1, 1) := by decide +kernel
theorem dX11_isWet_8 : decode cX11_isWet 8 = .ok (.i2l, 1) := by decide +kernel
theorem dX11_isWet_9 : decode cX11_isWet 9 = .ok (.lconst 0, 1) := by decide +kernel
theorem dX11_isWet_10 : decode cX11_isWet 10 = .ok (.ldc2_w 474, 3) := by decide +kernel
theorem dX11_isWet_13 : decode cX11_isWet 13 = .ok (.invokestatic 91, 3) := by decide +kernel
theorem dX11_isWet_16 : decode cX11_isWet 16 = .ok (.ifCond .eq 25, 3) := by decide +kernel
theorem dX11_isWet_19 : decode cX11_isWet 19 = .ok (.iload_n 1, 1) := by decide +kernel
theorem dX11_isWet_20 : decode cX11_isWet 20 = .ok (.aload_n 0, 1) := by decide +kernel
theorem dX11_isWet_21 : decode cX11_isWet 21 = .ok (.invokevirtual 103, 3) := by decide +kernel
theorem dX11_isWet_24 : decode cX11_isWet 24 = .ok (.if_icmp .ge 17, 3) := by decide +kernel
theorem dX11_isWet_27 : decode cX11_isWet 27 = .ok (.iload_n 2, 1) := by decide +kernel
theorem dX11_isWet_28 : decode cX11_isWet 28 = .ok (.i2l, 1) := by decide +kernel
theorem dX11_isWet_29 : decode cX11_isWet 29 = .ok (.lconst 0, 1) := by decide +kernel
theorem dX11_isWet_30 : decode cX11_isWet 30 = .ok (.lconst 1, 1) := by decide +kernel
theorem dX11_isWet_31 : decode cX11_isWet 31 = .ok (.invokestatic 91, 3) := by decide +kernel
theorem dX11_isWet_34 : decode cX11_isWet 34 = .ok (.ifCond .eq 7, 3) := by decide +kernel
theorem dX11_isWet_37 : decode cX11_isWet 37 = .ok (.iconst 1, 1) := by decide +kernel
theorem dX11_isWet_38 : decode cX11_isWet 38 = .ok (.goto 4, 3) := by decide +kernel
theorem dX11_isWet_41 : decode cX11_isWet 41 = .ok (.iconst 0, 1) := by decide +kernel
theorem dX11_isWet_42 : decode cX11_isWet 42 = .ok (.ireturn, 1) := by decide +kernel
theorem dX11_chance_0 : decode cX11_chance 0 = .ok (.aload_n 0, 1) := by decide +kernel
theorem dX11_chance_1 : decode cX11_chance 1 = .ok (.iload_n 1, 1) := by decide +kernel
theorem dX11_chance_2 : decode cX11_chance 2 = .ok (.i2l, 1) := by decide +kernel
theorem dX11_chance_3 : decode cX11_chance 3 = .ok (.invokevirtual 237, 3) := by decide +kernel
theorem dX11_chance_6 : decode cX11_chance 6 = .ok (.ifCond .eq 21, 3) := by decide +kernel
theorem dX11_chance_9 : decode cX11_chance 9 = .ok (.iload_n 2, 1) := by decide +kernel
theorem dX11_chance_10 : decode cX11_chance 10 = .ok (.i2l, 1) := by decide +kernel
theorem dX11_chance_11 : decode cX11_chance 11 = .ok (.invokestatic 336, 3) := by decide +kernel
theorem dX11_chance_14 : decode cX11_chance 14 = .ok (.ifCond .eq 13, 3) := by decide +kernel
theorem dX11_chance_17 : decode cX11_chance 17 = .ok (.aload_n 0, 1) := by decide +kernel
theorem dX11_chance_18 : decode cX11_chance 18 = .ok (.iload_n 3, 1) := by decide +kernel
theorem dX11_chance_19 : decode cX11_chance 19 = .ok (.iload 4, 2) := by decide +kernel
theorem dX11_chance_21 : decode cX11_chance 21 = .ok (.invokevirtual 476, 3) := by decide +kernel
theorem dX11_chance_24 : decode cX11_chance 24 = .ok (.ifCond .ne 7, 3) := by decide +kernel
theorem dX11_chance_27 : decode cX11_chance 27 = .ok (.ldc2_w 389, 3) := by decide +kernel
theorem dX11_chance_30 : decode cX11_chance 30 = .ok (.lreturn, 1) := by decide +kernel
theorem dX11_chance_31 : decode cX11_chance 31 = .ok (.aload_n 0, 1) := by decide +kernel
theorem dX11_chance_32 : decode cX11_chance 32 = .ok (.iload_n 1, 1) := by decide +kernel
theorem dX11_chance_33 : decode cX11_chance 33 = .ok (.iload_n 2, 1) := by decide +kernel
theorem dX11_chance_34 : decode cX11_chance 34 = .ok (.iload_n 3, 1) := by decide +kernel
theorem dX11_chance_35 : decode cX11_chance 35 = .ok (.invokevirtual 479, 3) := by decide +kernel
theorem dX11_chance_38 : decode cX11_chance 38 = .ok (.aload_n 0, 1) := by decide +kernel
theorem dX11_chance_39 : decode cX11_chance 39 = .ok (.getfield 468, 3) := by decide +kernel
theorem dX11_chance_42 : decode cX11_chance 42 = .ok (.aload_n 0, 1) := by decide +kernel
theorem dX11_chance_43 : decode cX11_chance 43 = .ok (.getfield 465, 3) := by decide +kernel
theorem dX11_chance_46 : decode cX11_chance 46 = .ok (.iload 4, 2) := by decide +kernel
theorem dX11_chance_48 : decode cX11_chance 48 = .ok (.invokestatic 397, 3) := by decide +kernel
theorem dX11_chance_51 : decode cX11_chance 51 = .ok (.lreturn, 1) := by decide +kernel
theorem dX11_mean_0 : decode cX11_mean 0 = .ok (.aload_n 0, 1) := by decide +kernel
theorem dX11_mean_1 : decode cX11_mean 1 = .ok (.iload_n 1, 1) := by decide +kernel
theorem dX11_mean_2 : decode cX11_mean 2 = .ok (.iload_n 2, 1) := by decide +kernel
theorem dX11_mean_3 : decode cX11_mean 3 = .ok (.invokevirtual 476, 3) := by decide +kernel
theorem dX11_mean_6 : decode cX11_mean 6 = .ok (.ifCond .ne 7, 3) := by decide +kernel
theorem dX11_mean_9 : decode cX11_mean 9 = .ok (.ldc2_w 389, 3) := by decide +kernel
theorem dX11_mean_12 : decode cX11_mean 12 = .ok (.lreturn, 1) := by decide +kernel
theorem dX11_mean_13 : decode cX11_mean 13 = .ok (.aload_n 0, 1) := by decide +kernel
theorem dX11_mean_14 : decode cX11_mean 14 = .ok (.iconst 0, 1) := by decide +kernel
theorem dX11_mean_15 : decode cX11_mean 15 = .ok (.iconst 0, 1) := by decide +kernel
theorem dX11_mean_16 : decode cX11_mean 16 = .ok (.iload_n 1, 1) := by decide +kernel
theorem dX11_mean_17 : decode cX11_mean 17 = .ok (.invokevirtual 479, 3) := by decide +kernel
theorem dX11_mean_20 : decode cX11_mean 20 = .ok (.aload_n 0, 1) := by decide +kernel
theorem dX11_mean_21 : decode cX11_mean 21 = .ok (.getfield 471, 3) := by decide +kernel
theorem dX11_mean_24 : decode cX11_mean 24 = .ok (.aload_n 0, 1) := by decide +kernel
theorem dX11_mean_25 : decode cX11_mean 25 = .ok (.getfield 465, 3) := by decide +kernel
theorem dX11_mean_28 : decode cX11_mean 28 = .ok (.iload_n 2, 1) := by decide +kernel
theorem dX11_mean_29 : decode cX11_mean 29 = .ok (.invokestatic 397, 3) := by decide +kernel
theorem dX11_mean_32 : decode cX11_mean 32 = .ok (.lreturn, 1) := by decide +kernel
theorem dX11_keepAct_0 : decode cX11_keepAct 0 = .ok (.aload_n 0, 1) := by decide +kernel
theorem dX11_keepAct_1 : decode cX11_keepAct 1 = .ok (.getfield 9, 3) := by decide +kernel
theorem dX11_keepAct_4 : decode cX11_keepAct 4 = .ok (.bipush 7, 2) := by decide +kernel
theorem dX11_keepAct_6 : decode cX11_keepAct 6 = .ok (.iaload, 1) := by decide +kernel
theorem dX11_keepAct_7 : decode cX11_keepAct 7 = .ok (.bipush 30, 2) := by decide +kernel
theorem dX11_keepAct_9 : decode cX11_keepAct 9 = .ok (.if_icmp .ne 5, 3) := by decide +kernel
theorem dX11_keepAct_12 : decode cX11_keepAct 12 = .ok (.iconst 0, 1) := by decide +kernel
theorem dX11_keepAct_13 : decode cX11_keepAct 13 = .ok (.ireturn, 1) := by decide +kernel
theorem dX11_keepAct_14 : decode cX11_keepAct 14 = .ok (.aload_n 0, 1) := by decide +kernel
theorem dX11_keepAct_15 : decode cX11_keepAct 15 = .ok (.getfield 9, 3) := by decide +kernel
theorem dX11_keepAct_18 : decode cX11_keepAct 18 = .ok (.bipush 69, 2) := by decide +kernel
theorem dX11_keepAct_20 : decode cX11_keepAct 20 = .ok (.aload_n 0, 1) := by decide +kernel
theorem dX11_keepAct_21 : decode cX11_keepAct 21 = .ok (.getfield 9, 3) := by decide +kernel
theorem dX11_keepAct_24 : decode cX11_keepAct 24 = .ok (.bipush 7, 2) := by decide +kernel
theorem dX11_keepAct_26 : decode cX11_keepAct 26 = .ok (.iaload, 1) := by decide +kernel
theorem dX11_keepAct_27 : decode cX11_keepAct 27 = .ok (.iadd, 1) := by decide +kernel
theorem dX11_keepAct_28 : decode cX11_keepAct 28 = .ok (.iload_n 1, 1) := by decide +kernel
theorem dX11_keepAct_29 : decode cX11_keepAct 29 = .ok (.iastore, 1) := by decide +kernel
theorem dX11_keepAct_30 : decode cX11_keepAct 30 = .ok (.aload_n 0, 1) := by decide +kernel
theorem dX11_keepAct_31 : decode cX11_keepAct 31 = .ok (.getfield 9, 3) := by decide +kernel
theorem dX11_keepAct_34 : decode cX11_keepAct 34 = .ok (.bipush 7, 2) := by decide +kernel
theorem dX11_keepAct_36 : decode cX11_keepAct 36 = .ok (.dup2, 1) := by decide +kernel
theorem dX11_keepAct_37 : decode cX11_keepAct 37 = .ok (.iaload, 1) := by decide +kernel
theorem dX11_keepAct_38 : decode cX11_keepAct 38 = .ok (.iconst 1, 1) := by decide +kernel
theorem dX11_keepAct_39 : decode cX11_keepAct 39 = .ok (.iadd, 1) := by decide +kernel
theorem dX11_keepAct_40 : decode cX11_keepAct 40 = .ok (.iastore, 1) := by decide +kernel
theorem dX11_keepAct_41 : decode cX11_keepAct 41 = .ok (.aload_n 0, 1) := by decide +kernel
theorem dX11_keepAct_42 : decode cX11_keepAct 42 = .ok (.invokevirtual 315, 3) := by decide +kernel
theorem dX11_keepAct_45 : decode cX11_keepAct 45 = .ok (.pop, 1) := by decide +kernel
theorem dX11_keepAct_46 : decode cX11_keepAct 46 = .ok (.iconst 1, 1) := by decide +kernel
theorem dX11_keepAct_47 : decode cX11_keepAct 47 = .ok (.ireturn, 1) := by decide +kernel
theorem dX11_say_0 : decode cX11_say 0 = .ok (.iload_n 1, 1) := by decide +kernel
theorem dX11_say_1 : decode cX11_say 1 = .ok (.i2l, 1) := by decide +kernel
theorem dX11_say_2 : decode cX11_say 2 = .ok (.invokestatic 348, 3) := by decide +kernel
theorem dX11_say_5 : decode cX11_say 5 = .ok (.ifCond .eq 21, 3) := by decide +kernel
theorem dX11_say_8 : decode cX11_say 8 = .ok (.aload_n 0, 1) := by decide +kernel
theorem dX11_say_9 : decode cX11_say 9 = .ok (.iload_n 2, 1) := by decide +kernel
theorem dX11_say_10 : decode cX11_say 10 = .ok (.i2l, 1) := by decide +kernel
theorem dX11_say_11 : decode cX11_say 11 = .ok (.invokevirtual 237, 3) := by decide +kernel
theorem dX11_say_14 : decode cX11_say 14 = .ok (.ifCond .eq 12, 3) := by decide +kernel
theorem dX11_say_17 : decode cX11_say 17 = .ok (.aload_n 0, 1) := by decide +kernel
theorem dX11_say_18 : decode cX11_say 18 = .ok (.iload_n 3, 1) := by decide +kernel
theorem dX11_say_19 : decode cX11_say 19 = .ok (.i2l, 1) := by decide +kernel
theorem dX11_say_20 : decode cX11_say 20 = .ok (.invokevirtual 318, 3) := by decide +kernel
theorem dX11_say_23 : decode cX11_say 23 = .ok (.ifCond .ne 6, 3) := by decide +kernel
theorem dX11_say_26 : decode cX11_say 26 = .ok (.bipush (-2), 2) := by decide +kernel
theorem dX11_say_28 : decode cX11_say 28 = .ok (.ireturn, 1) := by decide +kernel
theorem dX11_say_29 : decode cX11_say 29 = .ok (.aload_n 0, 1) := by decide +kernel
theorem dX11_say_30 : decode cX11_say 30 = .ok (.sipush 10000, 3) := by decide +kernel
theorem dX11_say_33 : decode cX11_say 33 = .ok (.iload_n 1, 1) := by decide +kernel
theorem dX11_say_34 : decode cX11_say 34 = .ok (.imul, 1) := by decide +kernel
theorem dX11_say_35 : decode cX11_say 35 = .ok (.bipush 100, 2) := by decide +kernel
theorem dX11_say_37 : decode cX11_say 37 = .ok (.iload_n 2, 1) := by decide +kernel
theorem dX11_say_38 : decode cX11_say 38 = .ok (.imul, 1) := by decide +kernel
theorem dX11_say_39 : decode cX11_say 39 = .ok (.iadd, 1) := by decide +kernel
theorem dX11_say_40 : decode cX11_say 40 = .ok (.iload_n 3, 1) := by decide +kernel
theorem dX11_say_41 : decode cX11_say 41 = .ok (.iadd, 1) := by decide +kernel
theorem dX11_say_42 : decode cX11_say 42 = .ok (.invokevirtual 483, 3) := by decide +kernel
theorem dX11_say_45 : decode cX11_say 45 = .ok (.ifCond .eq 14, 3) := by decide +kernel
theorem dX11_say_48 : decode cX11_say 48 = .ok (.aload_n 0, 1) := by decide +kernel
theorem dX11_say_49 : decode cX11_say 49 = .ok (.iload_n 1, 1) := by decide +kernel
theorem dX11_say_50 : decode cX11_say 50 = .ok (.invokevirtual 373, 3) := by decide +kernel
theorem dX11_say_53 : decode cX11_say 53 = .ok (.invokestatic 296, 3) := by decide +kernel
theorem dX11_say_56 : decode cX11_say 56 = .ok (.goto 5, 3) := by decide +kernel
theorem dX11_say_59 : decode cX11_say 59 = .ok (.bipush (-5), 2) := by decide +kernel
theorem dX11_say_61 : decode cX11_say 61 = .ok (.ireturn, 1) := by decide +kernel
theorem dX11_slug_0 : decode cX11_slug 0 = .ok (.aload_n 0, 1) := by decide +kernel
theorem dX11_slug_1 : decode cX11_slug 1 = .ok (.iload_n 1, 1) := by decide +kernel
theorem dX11_slug_2 : decode cX11_slug 2 = .ok (.i2l, 1) := by decide +kernel
theorem dX11_slug_3 : decode cX11_slug 3 = .ok (.invokevirtual 237, 3) := by decide +kernel
theorem dX11_slug_6 : decode cX11_slug 6 = .ok (.ifCond .eq 12, 3) := by decide +kernel
theorem dX11_slug_9 : decode cX11_slug 9 = .ok (.aload_n 0, 1) := by decide +kernel
theorem dX11_slug_10 : decode cX11_slug 10 = .ok (.iload_n 2, 1) := by decide +kernel
theorem dX11_slug_11 : decode cX11_slug 11 = .ok (.i2l, 1) := by decide +kernel
theorem dX11_slug_12 : decode cX11_slug 12 = .ok (.invokevirtual 318, 3) := by decide +kernel
theorem dX11_slug_15 : decode cX11_slug 15 = .ok (.ifCond .ne 6, 3) := by decide +kernel
theorem dX11_slug_18 : decode cX11_slug 18 = .ok (.bipush (-2), 2) := by decide +kernel
theorem dX11_slug_20 : decode cX11_slug 20 = .ok (.ireturn, 1) := by decide +kernel
theorem dX11_slug_21 : decode cX11_slug 21 = .ok (.aload_n 0, 1) := by decide +kernel
theorem dX11_slug_22 : decode cX11_slug 22 = .ok (.bipush 100, 2) := by decide +kernel
theorem dX11_slug_24 : decode cX11_slug 24 = .ok (.iload_n 1, 1) := by decide +kernel
theorem dX11_slug_25 : decode cX11_slug 25 = .ok (.imul, 1) := by decide +kernel
theorem dX11_slug_26 : decode cX11_slug 26 = .ok (.iload_n 2, 1) := by decide +kernel
theorem dX11_slug_27 : decode cX11_slug 27 = .ok (.iadd, 1) := by decide +kernel
theorem dX11_slug_28 : decode cX11_slug 28 = .ok (.invokevirtual 483, 3) := by decide +kernel
theorem dX11_slug_31 : decode cX11_slug 31 = .ok (.ifCond .eq 15, 3) := by decide +kernel
theorem dX11_slug_34 : decode cX11_slug 34 = .ok (.aload_n 0, 1) := by decide +kernel
theorem dX11_slug_35 : decode cX11_slug 35 = .ok (.getfield 58, 3) := by decide +kernel
theorem dX11_slug_38 : decode cX11_slug 38 = .ok (.aload_n 0, 1) := by decide +kernel
theorem dX11_slug_39 : decode cX11_slug 39 = .ok (.invokevirtual 103, 3) := by decide +kernel
theorem dX11_slug_42 : decode cX11_slug 42 = .ok (.iaload, 1) := by decide +kernel
theorem dX11_slug_43 : decode cX11_slug 43 = .ok (.goto 5, 3) := by decide +kernel
theorem dX11_slug_46 : decode cX11_slug 46 = .ok (.bipush (-5), 2) := by decide +kernel
theorem dX11_slug_48 : decode cX11_slug 48 = .ok (.ireturn, 1) := by decide +kernel
theorem dX11_undo_0 : decode cX11_undo 0 = .ok (.aload_n 0, 1) := by decide +kernel
theorem dX11_undo_1 : decode cX11_undo 1 = .ok (.invokevirtual 99, 3) := by decide +kernel
theorem dX11_undo_4 : decode cX11_undo 4 = .ok (.ifCond .ne 6, 3) := by decide +kernel
theorem dX11_undo_7 : decode cX11_undo 7 = .ok (.bipush (-2), 2) := by decide +kernel
theorem dX11_undo_9 : decode cX11_undo 9 = .ok (.ireturn, 1) := by decide +kernel
theorem dX11_undo_10 : decode cX11_undo 10 = .ok (.aload_n 0, 1) := by decide +kernel
theorem dX11_undo_11 : decode cX11_undo 11 = .ok (.getfield 9, 3) := by decide +kernel
theorem dX11_undo_14 : decode cX11_undo 14 = .ok (.bipush 7, 2) := by decide +kernel
theorem dX11_undo_16 : decode cX11_undo 16 = .ok (.iaload, 1) := by decide +kernel
theorem dX11_undo_17 : decode cX11_undo 17 = .ok (.ifCond .ne 6, 3) := by decide +kernel
theorem dX11_undo_20 : decode cX11_undo 20 = .ok (.bipush (-5), 2) := by decide +kernel
theorem dX11_undo_22 : decode cX11_undo 22 = .ok (.ireturn, 1) := by decide +kernel
theorem dX11_undo_23 : decode cX11_undo 23 = .ok (.aload_n 0, 1) := by decide +kernel
theorem dX11_undo_24 : decode cX11_undo 24 = .ok (.getfield 9, 3) := by decide +kernel
theorem dX11_undo_27 : decode cX11_undo 27 = .ok (.bipush 7, 2) := by decide +kernel
theorem dX11_undo_29 : decode cX11_undo 29 = .ok (.dup2, 1) := by decide +kernel
theorem dX11_undo_30 : decode cX11_undo 30 = .ok (.iaload, 1) := by decide +kernel
theorem dX11_undo_31 : decode cX11_undo 31 = .ok (.iconst 1, 1) := by decide +kernel
theorem dX11_undo_32 : decode cX11_undo 32 = .ok (.isub, 1) := by decide +kernel
theorem dX11_undo_33 : decode cX11_undo 33 = .ok (.iastore, 1) := by decide +kernel
theorem dX11_undo_34 : decode cX11_undo 34 = .ok (.aload_n 0, 1) := by decide +kernel
theorem dX11_undo_35 : decode cX11_undo 35 = .ok (.getfield 9, 3) := by decide +kernel
theorem dX11_undo_38 : decode cX11_undo 38 = .ok (.bipush 7, 2) := by decide +kernel
theorem dX11_undo_40 : decode cX11_undo 40 = .ok (.iaload, 1) := by decide +kernel
theorem dX11_undo_41 : decode cX11_undo 41 = .ok (.ireturn, 1) := by decide +kernel
theorem dX11_anew_0 : decode cX11_anew 0 = .ok (.aload_n 0, 1) := by decide +kernel
theorem dX11_anew_1 : decode cX11_anew 1 = .ok (.invokevirtual 99, 3) := by decide +kernel
theorem dX11_anew_4 : decode cX11_anew 4 = .ok (.ifCond .ne 6, 3) := by decide +kernel
theorem dX11_anew_7 : decode cX11_anew 7 = .ok (.bipush (-2), 2) := by decide +kernel
theorem dX11_anew_9 : decode cX11_anew 9 = .ok (.ireturn, 1) := by decide +kernel
theorem dX11_anew_10 : decode cX11_anew 10 = .ok (.aload_n 0, 1) := by decide +kernel
theorem dX11_anew_11 : decode cX11_anew 11 = .ok (.getfield 9, 3) := by decide +kernel
theorem dX11_anew_14 : decode cX11_anew 14 = .ok (.bipush 7, 2) := by decide +kernel
theorem dX11_anew_16 : decode cX11_anew 16 = .ok (.iaload, 1) := by decide +kernel
theorem dX11_anew_17 : decode cX11_anew 17 = .ok (.istore_n 1, 1) := by decide +kernel
theorem dX11_anew_18 : decode cX11_anew 18 = .ok (.aload_n 0, 1) := by decide +kernel
theorem dX11_anew_19 : decode cX11_anew 19 = .ok (.getfield 9, 3) := by decide +kernel
theorem dX11_anew_22 : decode cX11_anew 22 = .ok (.bipush 7, 2) := by decide +kernel
theorem dX11_anew_24 : decode cX11_anew 24 = .ok (.iconst 0, 1) := by decide +kernel
theorem dX11_anew_25 : decode cX11_anew 25 = .ok (.iastore, 1) := by decide +kernel
theorem dX11_anew_26 : decode cX11_anew 26 = .ok (.iload_n 1, 1) := by decide +kernel
theorem dX11_anew_27 : decode cX11_anew 27 = .ok (.ireturn, 1) := by decide +kernel
theorem dX11_goDrawn_0 : decode cX11_goDrawn 0 = .ok (.aload_n 0, 1) := by decide +kernel
theorem dX11_goDrawn_1 : decode cX11_goDrawn 1 = .ok (.invokevirtual 309, 3) := by decide +kernel
theorem dX11_goDrawn_4 : decode cX11_goDrawn 4 = .ok (.lload_n 1, 1) := by decide +kernel
theorem dX11_goDrawn_5 : decode cX11_goDrawn 5 = .ok (.lstore_n 3, 1) := by decide +kernel
theorem dX11_goDrawn_6 : decode cX11_goDrawn 6 = .ok (.iconst 0, 1) := by decide +kernel
theorem dX11_goDrawn_7 : decode cX11_goDrawn 7 = .ok (.istore 5, 2) := by decide +kernel
theorem dX11_goDrawn_9 : decode cX11_goDrawn 9 = .ok (.iload 5, 2) := by decide +kernel
theorem dX11_goDrawn_11 : decode cX11_goDrawn 11 = .ok (.aload_n 0, 1) := by decide +kernel
theorem dX11_goDrawn_12 : decode cX11_goDrawn 12 = .ok (.invokevirtual 103, 3) := by decide +kernel
theorem dX11_goDrawn_15 : decode cX11_goDrawn 15 = .ok (.if_icmp .ge 60, 3) := by decide +kernel
theorem dX11_goDrawn_18 : decode cX11_goDrawn 18 = .ok (.ldc2_w 486, 3) := by decide +kernel
theorem dX11_goDrawn_21 : decode cX11_goDrawn 21 = .ok (.lload_n 3, 1) := by decide +kernel
theorem dX11_goDrawn_22 : decode cX11_goDrawn 22 = .ok (.lmul, 1) := by decide +kernel
theorem dX11_goDrawn_23 : decode cX11_goDrawn 23 = .ok (.ldc2_w 488, 3) := by decide +kernel
theorem dX11_goDrawn_26 : decode cX11_goDrawn 26 = .ok (.ladd, 1) := by decide +kernel
theorem dX11_goDrawn_27 : decode cX11_goDrawn 27 = .ok (.ldc2_w 490, 3) := by decide +kernel
theorem dX11_goDrawn_30 : decode cX11_goDrawn 30 = .ok (.lrem, 1) := by decide +kernel
theorem dX11_goDrawn_31 : decode cX11_goDrawn 31 = .ok (.lstore_n 3, 1) := by decide +kernel
theorem dX11_goDrawn_32 : decode cX11_goDrawn 32 = .ok (.aload_n 0, 1) := by decide +kernel
theorem dX11_goDrawn_33 : decode cX11_goDrawn 33 = .ok (.dup, 1) := by decide +kernel
theorem dX11_goDrawn_34 : decode cX11_goDrawn 34 = .ok (.getfield 264, 3) := by decide +kernel
theorem dX11_goDrawn_37 : decode cX11_goDrawn 37 = .ok (.lload_n 3, 1) := by decide +kernel
theorem dX11_goDrawn_38 : decode cX11_goDrawn 38 = .ok (.ldc2_w 492, 3) := by decide +kernel
theorem dX11_goDrawn_41 : decode cX11_goDrawn 41 = .ok (.ldiv, 1) := by decide +kernel
theorem dX11_goDrawn_42 : decode cX11_goDrawn 42 = .ok (.ldc2_w 494, 3) := by decide +kernel
theorem dX11_goDrawn_45 : decode cX11_goDrawn 45 = .ok (.lrem, 1) := by decide +kernel
theorem dX11_goDrawn_46 : decode cX11_goDrawn 46 = .ok (.aload_n 0, 1) := by decide +kernel
theorem dX11_goDrawn_47 : decode cX11_goDrawn 47 = .ok (.getfield 9, 3) := by decide +kernel
theorem dX11_goDrawn_50 : decode cX11_goDrawn 50 = .ok (.iconst 2, 1) := by decide +kernel
theorem dX11_goDrawn_51 : decode cX11_goDrawn 51 = .ok (.iaload, 1) := by decide +kernel
theorem dX11_goDrawn_52 : decode cX11_goDrawn 52 = .ok (.i2l, 1) := by decide +kernel
theorem dX11_goDrawn_53 : decode cX11_goDrawn 53 = .ok (.lcmp, 1) := by decide +kernel
theorem dX11_goDrawn_54 : decode cX11_goDrawn 54 = .ok (.ifCond .ge 10, 3) := by decide +kernel
theorem dX11_goDrawn_57 : decode cX11_goDrawn 57 = .ok (.iconst 1, 1) := by decide +kernel
theorem dX11_goDrawn_58 : decode cX11_goDrawn 58 = .ok (.iload 5, 2) := by decide +kernel
theorem dX11_goDrawn_60 : decode cX11_goDrawn 60 = .ok (.ishl, 1) := by decide +kernel
theorem dX11_goDrawn_61 : decode cX11_goDrawn 61 = .ok (.goto 4, 3) := by decide +kernel
theorem dX11_goDrawn_64 : decode cX11_goDrawn 64 = .ok (.iconst 0, 1) := by decide +kernel
theorem dX11_goDrawn_65 : decode cX11_goDrawn 65 = .ok (.ior, 1) := by decide +kernel
theorem dX11_goDrawn_66 : decode cX11_goDrawn 66 = .ok (.putfield 264, 3) := by decide +kernel
theorem dX11_goDrawn_69 : decode cX11_goDrawn 69 = .ok (.iinc 5 1, 3) := by decide +kernel
theorem dX11_goDrawn_72 : decode cX11_goDrawn 72 = .ok (.goto (-63), 3) := by decide +kernel
theorem dX11_goDrawn_75 : decode cX11_goDrawn 75 = .ok (.aload_n 0, 1) := by decide +kernel
theorem dX11_goDrawn_76 : decode cX11_goDrawn 76 = .ok (.invokevirtual 312, 3) := by decide +kernel
theorem dX11_goDrawn_79 : decode cX11_goDrawn 79 = .ok (.return_, 1) := by decide +kernel
theorem dX11_drawn_0 : decode cX11_drawn 0 = .ok (.aload_n 0, 1) := by decide +kernel
theorem dX11_drawn_1 : decode cX11_drawn 1 = .ok (.invokevirtual 99, 3) := by decide +kernel
theorem dX11_drawn_4 : decode cX11_drawn 4 = .ok (.ifCond .eq 22, 3) := by decide +kernel
theorem dX11_drawn_7 : decode cX11_drawn 7 = .ok (.iload_n 1, 1) := by decide +kernel
theorem dX11_drawn_8 : decode cX11_drawn 8 = .ok (.invokestatic 498, 3) := by decide +kernel
theorem dX11_drawn_11 : decode cX11_drawn 11 = .ok (.ifCond .eq 15, 3) := by decide +kernel
theorem dX11_drawn_14 : decode cX11_drawn 14 = .ok (.iload_n 2, 1) := by decide +kernel
theorem dX11_drawn_15 : decode cX11_drawn 15 = .ok (.i2l, 1) := by decide +kernel
theorem dX11_drawn_16 : decode cX11_drawn 16 = .ok (.lconst 0, 1) := by decide +kernel
theorem dX11_drawn_17 : decode cX11_drawn 17 = .ok (.ldc2_w 89, 3) := by decide +kernel
theorem dX11_drawn_20 : decode cX11_drawn 20 = .ok (.invokestatic 91, 3) := by decide +kernel
theorem dX11_drawn_23 : decode cX11_drawn 23 = .ok (.ifCond .ne 6, 3) := by decide +kernel
theorem dX11_drawn_26 : decode cX11_drawn 26 = .ok (.bipush (-2), 2) := by decide +kernel
theorem dX11_drawn_28 : decode cX11_drawn 28 = .ok (.ireturn, 1) := by decide +kernel
theorem dX11_drawn_29 : decode cX11_drawn 29 = .ok (.aload_n 0, 1) := by decide +kernel
theorem dX11_drawn_30 : decode cX11_drawn 30 = .ok (.iload_n 1, 1) := by decide +kernel
theorem dX11_drawn_31 : decode cX11_drawn 31 = .ok (.i2l, 1) := by decide +kernel
theorem dX11_drawn_32 : decode cX11_drawn 32 = .ok (.invokevirtual 501, 3) := by decide +kernel
theorem dX11_drawn_35 : decode cX11_drawn 35 = .ok (.iload_n 2, 1) := by decide +kernel
theorem dX11_drawn_36 : decode cX11_drawn 36 = .ok (.ifCond .ne 10, 3) := by decide +kernel
theorem dX11_drawn_39 : decode cX11_drawn 39 = .ok (.aload_n 0, 1) := by decide +kernel
theorem dX11_drawn_40 : decode cX11_drawn 40 = .ok (.getfield 264, 3) := by decide +kernel
theorem dX11_drawn_43 : decode cX11_drawn 43 = .ok (.goto 8, 3) := by decide +kernel
theorem dX11_drawn_46 : decode cX11_drawn 46 = .ok (.aload_n 0, 1) := by decide +kernel
theorem dX11_drawn_47 : decode cX11_drawn 47 = .ok (.iload_n 2, 1) := by decide +kernel
theorem dX11_drawn_48 : decode cX11_drawn 48 = .ok (.invokevirtual 373, 3) := by decide +kernel
theorem dX11_drawn_51 : decode cX11_drawn 51 = .ok (.ireturn, 1) := by decide +kernel
theorem dX11_luck_0 : decode cX11_luck 0 = .ok (.iload_n 1, 1) := by decide +kernel
theorem dX11_luck_1 : decode cX11_luck 1 = .ok (.invokestatic 498, 3) := by decide +kernel
theorem dX11_luck_4 : decode cX11_luck 4 = .ok (.ifCond .eq 33, 3) := by decide +kernel
theorem dX11_luck_7 : decode cX11_luck 7 = .ok (.iload_n 2, 1) := by decide +kernel
theorem dX11_luck_8 : decode cX11_luck 8 = .ok (.i2l, 1) := by decide +kernel
theorem dX11_luck_9 : decode cX11_luck 9 = .ok (.lconst 1, 1) := by decide +kernel
theorem dX11_luck_10 : decode cX11_luck 10 = .ok (.ldc2_w 505, 3) := by decide +kernel
theorem dX11_luck_13 : decode cX11_luck 13 = .ok (.invokestatic 91, 3) := by decide +kernel
theorem dX11_luck_16 : decode cX11_luck 16 = .ok (.ifCond .eq 21, 3) := by decide +kernel
theorem dX11_luck_19 : decode cX11_luck 19 = .ok (.aload_n 0, 1) := by decide +kernel
theorem dX11_luck_20 : decode cX11_luck 20 = .ok (.iload_n 3, 1) := by decide +kernel
theorem dX11_luck_21 : decode cX11_luck 21 = .ok (.i2l, 1) := by decide +kernel
theorem dX11_luck_22 : decode cX11_luck 22 = .ok (.invokevirtual 237, 3) := by decide +kernel
theorem dX11_luck_25 : decode cX11_luck 25 = .ok (.ifCond .eq 12, 3) := by decide +kernel
theorem dX11_luck_28 : decode cX11_luck 28 = .ok (.iload 4, 2) := by decide +kernel
theorem dX11_luck_30 : decode cX11_luck 30 = .ok (.i2l, 1) := by decide +kernel
theorem dX11_luck_31 : decode cX11_luck 31 = .ok (.invokestatic 336, 3) := by decide +kernel
theorem dX11_luck_34 : decode cX11_luck 34 = .ok (.ifCond .ne 6, 3) := by decide +kernel
theorem dX11_luck_37 : decode cX11_luck 37 = .ok (.bipush (-2), 2) := by decide +kernel
theorem dX11_luck_39 : decode cX11_luck 39 = .ok (.ireturn, 1) := by decide +kernel
theorem dX11_luck_40 : decode cX11_luck 40 = .ok (.iconst 0, 1) := by decide +kernel
theorem dX11_luck_41 : decode cX11_luck 41 = .ok (.istore 5, 2) := by decide +kernel
theorem dX11_luck_43 : decode cX11_luck 43 = .ok (.iconst 0, 1) := by decide +kernel
theorem dX11_luck_44 : decode cX11_luck 44 = .ok (.istore 6, 2) := by decide +kernel
theorem dX11_luck_46 : decode cX11_luck 46 = .ok (.iload 6, 2) := by decide +kernel
theorem dX11_luck_48 : decode cX11_luck 48 = .ok (.iload_n 2, 1) := by decide +kernel
theorem dX11_luck_49 : decode cX11_luck 49 = .ok (.if_icmp .ge 43, 3) := by decide +kernel
theorem dX11_luck_52 : decode cX11_luck 52 = .ok (.aload_n 0, 1) := by decide +kernel
theorem dX11_luck_53 : decode cX11_luck 53 = .ok (.iload_n 1, 1) := by decide +kernel
theorem dX11_luck_54 : decode cX11_luck 54 = .ok (.i2l, 1) := by decide +kernel
theorem dX11_luck_55 : decode cX11_luck 55 = .ok (.iload 6, 2) := by decide +kernel
theorem dX11_luck_57 : decode cX11_luck 57 = .ok (.i2l, 1) := by decide +kernel
theorem dX11_luck_58 : decode cX11_luck 58 = .ok (.ladd, 1) := by decide +kernel
theorem dX11_luck_59 : decode cX11_luck 59 = .ok (.invokevirtual 501, 3) := by decide +kernel
theorem dX11_luck_62 : decode cX11_luck 62 = .ok (.iload 5, 2) := by decide +kernel
theorem dX11_luck_64 : decode cX11_luck 64 = .ok (.aload_n 0, 1) := by decide +kernel
theorem dX11_luck_65 : decode cX11_luck 65 = .ok (.iload_n 3, 1) := by decide +kernel
theorem dX11_luck_66 : decode cX11_luck 66 = .ok (.aload_n 0, 1) := by decide +kernel
theorem dX11_luck_67 : decode cX11_luck 67 = .ok (.invokevirtual 103, 3) := by decide +kernel
theorem dX11_luck_70 : decode cX11_luck 70 = .ok (.invokevirtual 333, 3) := by decide +kernel
theorem dX11_luck_73 : decode cX11_luck 73 = .ok (.iload 4, 2) := by decide +kernel
theorem dX11_luck_75 : decode cX11_luck 75 = .ok (.if_icmp .ne 7, 3) := by decide +kernel
theorem dX11_luck_78 : decode cX11_luck 78 = .ok (.iconst 1, 1) := by decide +kernel
theorem dX11_luck_79 : decode cX11_luck 79 = .ok (.goto 4, 3) := by decide +kernel
theorem dX11_luck_82 : decode cX11_luck 82 = .ok (.iconst 0, 1) := by decide +kernel
theorem dX11_luck_83 : decode cX11_luck 83 = .ok (.iadd, 1) := by decide +kernel
theorem dX11_luck_84 : decode cX11_luck 84 = .ok (.istore 5, 2) := by decide +kernel
theorem dX11_luck_86 : decode cX11_luck 86 = .ok (.iinc 6 1, 3) := by decide +kernel
theorem dX11_luck_89 : decode cX11_luck 89 = .ok (.goto (-43), 3) := by decide +kernel
theorem dX11_luck_92 : decode cX11_luck 92 = .ok (.iload 5, 2) := by decide +kernel
theorem dX11_luck_94 : decode cX11_luck 94 = .ok (.ireturn, 1) := by decide +kernel
theorem dX11_rate_0 : decode cX11_rate 0 = .ok (.aload_n 0, 1) := by decide +kernel
theorem dX11_rate_1 : decode cX11_rate 1 = .ok (.iload_n 1, 1) := by decide +kernel
theorem dX11_rate_2 : decode cX11_rate 2 = .ok (.i2l, 1) := by decide +kernel
theorem dX11_rate_3 : decode cX11_rate 3 = .ok (.invokevirtual 237, 3) := by decide +kernel
theorem dX11_rate_6 : decode cX11_rate 6 = .ok (.ifCond .eq 15, 3) := by decide +kernel
theorem dX11_rate_9 : decode cX11_rate 9 = .ok (.iload_n 2, 1) := by decide +kernel
theorem dX11_rate_10 : decode cX11_rate 10 = .ok (.i2l, 1) := by decide +kernel
theorem dX11_rate_11 : decode cX11_rate 11 = .ok (.lconst 1, 1) := by decide +kernel
theorem dX11_rate_12 : decode cX11_rate 12 = .ok (.ldc2_w 507, 3) := by decide +kernel
theorem dX11_rate_15 : decode cX11_rate 15 = .ok (.invokestatic 91, 3) := by decide +kernel
theorem dX11_rate_18 : decode cX11_rate 18 = .ok (.ifCond .ne 6, 3) := by decide +kernel
theorem dX11_rate_21 : decode cX11_rate 21 = .ok (.bipush (-2), 2) := by decide +kernel
theorem dX11_rate_23 : decode cX11_rate 23 = .ok (.ireturn, 1) := by decide +kernel
theorem dX11_rate_24 : decode cX11_rate 24 = .ok (.aload_n 0, 1) := by decide +kernel
theorem dX11_rate_25 : decode cX11_rate 25 = .ok (.getfield 9, 3) := by decide +kernel
theorem dX11_rate_28 : decode cX11_rate 28 = .ok (.bipush 7, 2) := by decide +kernel
theorem dX11_rate_30 : decode cX11_rate 30 = .ok (.iaload, 1) := by decide +kernel
theorem dX11_rate_31 : decode cX11_rate 31 = .ok (.ifCond .le 6, 3) := by decide +kernel
theorem dX11_rate_34 : decode cX11_rate 34 = .ok (.bipush (-5), 2) := by decide +kernel
theorem dX11_rate_36 : decode cX11_rate 36 = .ok (.ireturn, 1) := by decide +kernel
theorem dX11_rate_37 : decode cX11_rate 37 = .ok (.aload_n 0, 1) := by decide +kernel
theorem dX11_rate_38 : decode cX11_rate 38 = .ok (.iload_n 1, 1) := by decide +kernel
theorem dX11_rate_39 : decode cX11_rate 39 = .ok (.invokevirtual 246, 3) := by decide +kernel
theorem dX11_rate_42 : decode cX11_rate 42 = .ok (.istore_n 3, 1) := by decide +kernel
theorem dX11_rate_43 : decode cX11_rate 43 = .ok (.aload_n 0, 1) := by decide +kernel
theorem dX11_rate_44 : decode cX11_rate 44 = .ok (.getfield 9, 3) := by decide +kernel
theorem dX11_rate_47 : decode cX11_rate 47 = .ok (.bipush 13, 2) := by decide +kernel
theorem dX11_rate_49 : decode cX11_rate 49 = .ok (.iconst 2, 1) := by decide +kernel
theorem dX11_rate_50 : decode cX11_rate 50 = .ok (.iload_n 1, 1) := by decide +kernel
theorem dX11_rate_51 : decode cX11_rate 51 = .ok (.imul, 1) := by decide +kernel
theorem dX11_rate_52 : decode cX11_rate 52 = .ok (.iadd, 1) := by decide +kernel
theorem dX11_rate_53 : decode cX11_rate 53 = .ok (.iload_n 2, 1) := by decide +kernel
theorem dX11_rate_54 : decode cX11_rate 54 = .ok (.iastore, 1) := by decide +kernel
theorem dX11_rate_55 : decode cX11_rate 55 = .ok (.iload_n 3, 1) := by decide +kernel
theorem dX11_rate_56 : decode cX11_rate 56 = .ok (.ireturn, 1) := by decide +kernel
theorem dX11_count_0 : decode cX11_count 0 = .ok (.iload_n 1, 1) := by decide +kernel
theorem dX11_count_1 : decode cX11_count 1 = .ok (.i2l, 1) := by decide +kernel
theorem dX11_count_2 : decode cX11_count 2 = .ok (.lconst 0, 1) := by decide +kernel
theorem dX11_count_3 : decode cX11_count 3 = .ok (.ldc2_w 509, 3) := by decide +kernel
theorem dX11_count_6 : decode cX11_count 6 = .ok (.invokestatic 91, 3) := by decide +kernel
theorem dX11_count_9 : decode cX11_count 9 = .ok (.ifCond .eq 10, 3) := by decide +kernel
theorem dX11_count_12 : decode cX11_count 12 = .ok (.aload_n 0, 1) := by decide +kernel
theorem dX11_count_13 : decode cX11_count 13 = .ok (.getfield 9, 3) := by decide +kernel
theorem dX11_count_16 : decode cX11_count 16 = .ok (.iload_n 1, 1) := by decide +kernel
theorem dX11_count_17 : decode cX11_count 17 = .ok (.iaload, 1) := by decide +kernel
theorem dX11_count_18 : decode cX11_count 18 = .ok (.ireturn, 1) := by decide +kernel
theorem dX11_count_19 : decode cX11_count 19 = .ok (.iload_n 1, 1) := by decide +kernel
theorem dX11_count_20 : decode cX11_count 20 = .ok (.bipush 9, 2) := by decide +kernel
theorem dX11_count_22 : decode cX11_count 22 = .ok (.if_icmp .ne 8, 3) := by decide +kernel
theorem dX11_count_25 : decode cX11_count 25 = .ok (.aload_n 0, 1) := by decide +kernel
theorem dX11_count_26 : decode cX11_count 26 = .ok (.getfield 106, 3) := by decide +kernel
theorem dX11_count_29 : decode cX11_count 29 = .ok (.ireturn, 1) := by decide +kernel
theorem dX11_count_30 : decode cX11_count 30 = .ok (.iload_n 1, 1) := by decide +kernel
theorem dX11_count_31 : decode cX11_count 31 = .ok (.bipush 10, 2) := by decide +kernel
theorem dX11_count_33 : decode cX11_count 33 = .ok (.if_icmp .eq 5, 3) := by decide +kernel
theorem dX11_count_36 : decode cX11_count 36 = .ok (.iconst (-1), 1) := by decide +kernel
theorem dX11_count_37 : decode cX11_count 37 = .ok (.ireturn, 1) := by decide +kernel
theorem dX11_count_38 : decode cX11_count 38 = .ok (.iconst 0, 1) := by decide +kernel
theorem dX11_count_39 : decode cX11_count 39 = .ok (.istore_n 2, 1) := by decide +kernel
theorem dX11_count_40 : decode cX11_count 40 = .ok (.iconst 0, 1) := by decide +kernel
theorem dX11_count_41 : decode cX11_count 41 = .ok (.istore_n 3, 1) := by decide +kernel
theorem dX11_count_42 : decode cX11_count 42 = .ok (.iload_n 3, 1) := by decide +kernel
theorem dX11_count_43 : decode cX11_count 43 = .ok (.iconst 4, 1) := by decide +kernel
theorem dX11_count_44 : decode cX11_count 44 = .ok (.if_icmp .ge 27, 3) := by decide +kernel
theorem dX11_count_47 : decode cX11_count 47 = .ok (.iload_n 2, 1) := by decide +kernel
theorem dX11_count_48 : decode cX11_count 48 = .ok (.aload_n 0, 1) := by decide +kernel
theorem dX11_count_49 : decode cX11_count 49 = .ok (.getfield 73, 3) := by decide +kernel
theorem dX11_count_52 : decode cX11_count 52 = .ok (.iload_n 3, 1) := by decide +kernel
theorem dX11_count_53 : decode cX11_count 53 = .ok (.iaload, 1) := by decide +kernel
theorem dX11_count_54 : decode cX11_count 54 = .ok (.iconst (-1), 1) := by decide +kernel
theorem dX11_count_55 : decode cX11_count 55 = .ok (.if_icmp .ne 7, 3) := by decide +kernel
theorem dX11_count_58 : decode cX11_count 58 = .ok (.iconst 0, 1) := by decide +kernel
theorem dX11_count_59 : decode cX11_count 59 = .ok (.goto 4, 3) := by decide +kernel
theorem dX11_count_62 : decode cX11_count 62 = .ok (.iconst 1, 1) := by decide +kernel
theorem dX11_count_63 : decode cX11_count 63 = .ok (.iadd, 1) := by decide +kernel
theorem dX11_count_64 : decode cX11_count 64 = .ok (.istore_n 2, 1) := by decide +kernel
theorem dX11_count_65 : decode cX11_count 65 = .ok (.iinc 3 1, 3) := by decide +kernel
theorem dX11_count_68 : decode cX11_count 68 = .ok (.goto (-26), 3) := by decide +kernel
theorem dX11_count_71 : decode cX11_count 71 = .ok (.iload_n 2, 1) := by decide +kernel
theorem dX11_count_72 : decode cX11_count 72 = .ok (.ireturn, 1) := by decide +kernel
set_option maxHeartbeats 4000000 in
set_option maxRecDepth 100000 in
theorem ctX11_getsBy (l : Launch) (D : va_G) (k : Nat → ClassId) (z : Nat → Nat) (n : Nat → Nat) (mthrown : Int32) (mtaped : Nat) (msize : Nat) (mat : Nat) (mfrom : Nat) (mtoken : Int32) (mvalue : Int32) (mfaultKind : Int32) (mfaultPlace : Int32) (mmoreMany : Nat) (mlawNow : Int32) (mwetSet : Int32) (moverAll : Int32) (mones : Int32) (mtwos : Int32) (mgone : Int32) (mroundNow : Int32) (msampleFor : Int64) (msampleAll : Int64) (maskWorst : Int32) (moftenAll : Int64) (moftenView : Int64) (moftenOnes : Int64) (fworld : Nat → Int32) (frowOf : Nat → Int32) (fplaceOf : Nat → Int32) (ffirstOf : Nat → Int32) (fhardNow : Nat → Int32) (fmoreHead : Nat → Int32) (fmoreView : Nat → Int32) (fonesAt : Nat → Int32) (ftwosAt : Nat → Int32) (fgoneAt : Nat → Int32) (p0 : Nat) (p1 : Nat) (p2 : Int32) (p3 : Int32) (p4 : Int32) (hmtaped : mtaped ≤ 600) (hmsize : msize ≤ 600) (hmat : mat ≤ 600) (hmfrom : mfrom ≤ 600) (hmmoreMany : mmoreMany ≤ 14) (hkworld : okW fworld) (hp0 : p0 ≤ 11) (hp1 : p1 ≤ 11) : MU l yX11_getsBy cX11_getsBy 9 (some .int) 7 D k z [.ref (n 0), .int (nI p0), .int (nI p1), .int p2, .int p3, .int p4] [((n 0), .inr (11, [.int mthrown, .ref (n 1), .ref (n 2), .ref (n 3), .ref (n 4), .int (nI mtaped), .ref (n 5), .int (nI msize), .int (nI mat), .int (nI mfrom), .int mtoken, .int mvalue, .int mfaultKind, .int mfaultPlace, .ref (n 6), .ref (n 7), .ref (n 8), .ref (n 9), .ref (n 10), .ref (n 11), .ref (n 12), .int (nI mmoreMany), .int mlawNow, .int mwetSet, .int moverAll, .ref (n 13), .ref (n 14), .ref (n 15), .int mones, .int mtwos, .int mgone, .ref (n 16), .ref (n 17), .int mroundNow, .ref (n 18), .long msampleFor, .long msampleAll, .ref (n 19), .int maskWorst, .long moftenAll, .long moftenView, .long moftenOnes, .ref (n 20), .ref (n 21), .ref (n 22), .ref (n 23)])), ((n 1), .inl (k 0, 99, .inl fworld)), ((n 7), .inl (k 0, 12, .inl frowOf)), ((n 8), .inl (k 0, 12, .inl fplaceOf)), ((n 9), .inl (k 0, 4, .inl ffirstOf)), ((n 10), .inl (k 0, 12, .inl fhardNow)), ((n 11), .inl (k 0, 14, .inl fmoreHead)), ((n 12), .inl (k 0, 14, .inl fmoreView)), ((n 13), .inl (k 0, 17, .inl fonesAt)), ((n 14), .inl (k 0, 17, .inl ftwosAt)), ((n 15), .inl (k 0, 17, .inl fgoneAt))] 0 0 (Ui D (fun (r : Int32) (u : (Nat → Int32) × (Nat → Nat) × (Nat → Nat → Int32) × (Nat → Nat → Int64) × (Nat → Int64)) => (u.2.1 0 ≤ 14)) (fun u : (Nat → Int32) × (Nat → Nat) × (Nat → Nat → Int32) × (Nat → Nat → Int64) × (Nat → Int64) => [((n 0), .inr (11, [.int mthrown, .ref (n 1), .ref (n 2), .ref (n 3), .ref (n 4), .int (nI mtaped), .ref (n 5), .int (nI msize), .int (nI mat), .int (nI mfrom), .int mtoken, .int mvalue, .int mfaultKind, .int mfaultPlace, .ref (n 6), .ref (n 7), .ref (n 8), .ref (n 9), .ref (n 10), .ref (n 11), .ref (n 12), .int (nI (u.2.1 0)), .int (u.1 0), .int (u.1 1), .int (u.1 2), .ref (n 13), .ref (n 14), .ref (n 15), .int (u.1 3), .int (u.1 4), .int (u.1 5), .ref (n 16), .ref (n 17), .int mroundNow, .ref (n 18), .long msampleFor, .long msampleAll, .ref (n 19), .int maskWorst, .long moftenAll, .long moftenView, .long moftenOnes, .ref (n 20), .ref (n 21), .ref (n 22), .ref (n 23)])), ((n 1), .inl (k 0, 99, .inl fworld)), ((n 7), .inl (k 0, 12, .inl (u.2.2.1 4))), ((n 8), .inl (k 0, 12, .inl (u.2.2.1 5))), ((n 9), .inl (k 0, 4, .inl (u.2.2.1 6))), ((n 10), .inl (k 0, 12, .inl (u.2.2.1 0))), ((n 11), .inl (k 0, 14, .inl fmoreHead)), ((n 12), .inl (k 0, 14, .inl fmoreView)), ((n 13), .inl (k 0, 17, .inl (u.2.2.1 1))), ((n 14), .inl (k 0, 17, .inl (u.2.2.1 2))), ((n 15), .inl (k 0, 17, .inl (u.2.2.1 3)))])) := by
  refine MU.of (by decide) (Nat.le_of_ble_eq_true rfl) ?_
  intro p e s m below meth c ls A args Q S hr hlk hnm hQ hK hP hD hZ hA hS hl
  have hx := S.1
  have hb := S.2.1
  have hl : lv_has ls 9 [(0, .ref (n 0)), (1, .int (nI p0)), (2, .int (nI p1)), (3, .int p2), (4, .int p3), (5, .int p4)] := hl
  have hbfworld := okW_bd hkworld
  refine lv_aload_n hx hb dX11_getsBy_0 rfl (lv_at hl 0 rfl) ?_
  refine x_muVv (wr := [((n 11), .inl (k 0, 14, .inl fmoreHead)), ((n 12), .inl (k 0, 14, .inl fmoreView)), ((n 13), .inl (k 0, 17, .inl fonesAt)), ((n 14), .inl (k 0, 17, .inl ftwosAt)), ((n 15), .inl (k 0, 17, .inl fgoneAt))]) (As := []) S hK hP hD hZ hS hA hl mwX11_asItIs lkX11_309 (ctX11_asItIs l D k z n mthrown mtaped msize mat mfrom mtoken mvalue mfaultKind mfaultPlace mmoreMany mlawNow mwetSet moverAll mones mtwos mgone mroundNow msampleFor msampleAll maskWorst moftenAll moftenView moftenOnes fworld frowOf fplaceOf ffirstOf fhardNow (by omega) (by omega) (by omega) (by omega) (by omega) (hkworld)) [0, 1, 2, 3, 4, 5] [6, 7, 8, 9, 10] rfl rfl (by decide) (by decide) (by decide) rfl rfl rfl rfl rfl ⟨Nat.le_of_ble_eq_true rfl, Nat.le_of_ble_eq_true rfl, Nat.le_of_ble_eq_true rfl⟩ dX11_getsBy_1 ⟨Nat.le_of_ble_eq_true rfl, Nat.le_of_ble_eq_true rfl⟩ (fun u_2 H locs hr_1 hP hD hS => ?_)
  have hP : va_P D vwCl [((n 0), .inr (11, [.int mthrown, .ref (n 1), .ref (n 2), .ref (n 3), .ref (n 4), .int (nI mtaped), .ref (n 5), .int (nI msize), .int (nI mat), .int (nI mfrom), .int mtoken, .int mvalue, .int mfaultKind, .int mfaultPlace, .ref (n 6), .ref (n 7), .ref (n 8), .ref (n 9), .ref (n 10), .ref (n 11), .ref (n 12), .int (nI (u_2.2.1 0)), .int (u_2.1 0), .int (u_2.1 1), .int (u_2.1 2), .ref (n 13), .ref (n 14), .ref (n 15), .int mones, .int mtwos, .int mgone, .ref (n 16), .ref (n 17), .int mroundNow, .ref (n 18), .long msampleFor, .long msampleAll, .ref (n 19), .int maskWorst, .long moftenAll, .long moftenView, .long moftenOnes, .ref (n 20), .ref (n 21), .ref (n 22), .ref (n 23)])), ((n 1), .inl (k 0, 99, .inl fworld)), ((n 7), .inl (k 0, 12, .inl (u_2.2.2.1 1))), ((n 8), .inl (k 0, 12, .inl (u_2.2.2.1 2))), ((n 9), .inl (k 0, 4, .inl (u_2.2.2.1 3))), ((n 10), .inl (k 0, 12, .inl (u_2.2.2.1 0))), ((n 11), .inl (k 0, 14, .inl fmoreHead)), ((n 12), .inl (k 0, 14, .inl fmoreView)), ((n 13), .inl (k 0, 17, .inl fonesAt)), ((n 14), .inl (k 0, 17, .inl ftwosAt)), ((n 15), .inl (k 0, 17, .inl fgoneAt))] H := hP.sub [5, 6, 7, 8, 9, 10, 0, 1, 2, 3, 4] rfl
  have hD : va_D A [((n 0), .inr (11, [.int mthrown, .ref (n 1), .ref (n 2), .ref (n 3), .ref (n 4), .int (nI mtaped), .ref (n 5), .int (nI msize), .int (nI mat), .int (nI mfrom), .int mtoken, .int mvalue, .int mfaultKind, .int mfaultPlace, .ref (n 6), .ref (n 7), .ref (n 8), .ref (n 9), .ref (n 10), .ref (n 11), .ref (n 12), .int (nI (u_2.2.1 0)), .int (u_2.1 0), .int (u_2.1 1), .int (u_2.1 2), .ref (n 13), .ref (n 14), .ref (n 15), .int mones, .int mtwos, .int mgone, .ref (n 16), .ref (n 17), .int mroundNow, .ref (n 18), .long msampleFor, .long msampleAll, .ref (n 19), .int maskWorst, .long moftenAll, .long moftenView, .long moftenOnes, .ref (n 20), .ref (n 21), .ref (n 22), .ref (n 23)])), ((n 1), .inl (k 0, 99, .inl fworld)), ((n 7), .inl (k 0, 12, .inl (u_2.2.2.1 1))), ((n 8), .inl (k 0, 12, .inl (u_2.2.2.1 2))), ((n 9), .inl (k 0, 4, .inl (u_2.2.2.1 3))), ((n 10), .inl (k 0, 12, .inl (u_2.2.2.1 0))), ((n 11), .inl (k 0, 14, .inl fmoreHead)), ((n 12), .inl (k 0, 14, .inl fmoreView)), ((n 13), .inl (k 0, 17, .inl fonesAt)), ((n 14), .inl (k 0, 17, .inl ftwosAt)), ((n 15), .inl (k 0, 17, .inl fgoneAt))] := hD.sub [5, 6, 7, 8, 9, 10, 0, 1, 2, 3, 4] (by decide) rfl
  have hg_3 := hr_1
  refine lv_aload_n hx hb dX11_getsBy_4 rfl (lv_at hl 0 rfl) ?_
  refine x_get S hK hP 0 rfl cfX11 18 lkX11_43 (by decide) rfl dX11_getsBy_5 ?_
  refine lv_iload_n hx hb dX11_getsBy_8 rfl (lv_at hl 1 rfl) ?_
  refine lv_dup2_11 hx hb dX11_getsBy_9 rfl rfl ?_
  refine x_iald S hK hP 5 rfl (vp_in_nI (by omega) (by decide)) dX11_getsBy_10 ?_
  refine lv_topi (fun v_4 ev_4 => ?_)
  refine lv_iload_n hx hb dX11_getsBy_11 rfl (lv_at hl 3 rfl) ?_
  refine lv_iadd hx hb dX11_getsBy_12 ?_
  refine lv_topi (fun v_5 ev_5 => ?_)
  refine x_iast (ws' := fun f_6 => [((n 0), .inr (11, [.int mthrown, .ref (n 1), .ref (n 2), .ref (n 3), .ref (n 4), .int (nI mtaped), .ref (n 5), .int (nI msize), .int (nI mat), .int (nI mfrom), .int mtoken, .int mvalue, .int mfaultKind, .int mfaultPlace, .ref (n 6), .ref (n 7), .ref (n 8), .ref (n 9), .ref (n 10), .ref (n 11), .ref (n 12), .int (nI (u_2.2.1 0)), .int (u_2.1 0), .int (u_2.1 1), .int (u_2.1 2), .ref (n 13), .ref (n 14), .ref (n 15), .int mones, .int mtwos, .int mgone, .ref (n 16), .ref (n 17), .int mroundNow, .ref (n 18), .long msampleFor, .long msampleAll, .ref (n 19), .int maskWorst, .long moftenAll, .long moftenView, .long moftenOnes, .ref (n 20), .ref (n 21), .ref (n 22), .ref (n 23)])), ((n 1), .inl (k 0, 99, .inl fworld)), ((n 7), .inl (k 0, 12, .inl (u_2.2.2.1 1))), ((n 8), .inl (k 0, 12, .inl (u_2.2.2.1 2))), ((n 9), .inl (k 0, 4, .inl (u_2.2.2.1 3))), ((n 10), .inl (k 0, 12, .inl f_6)), ((n 11), .inl (k 0, 14, .inl fmoreHead)), ((n 12), .inl (k 0, 14, .inl fmoreView)), ((n 13), .inl (k 0, 17, .inl fonesAt)), ((n 14), .inl (k 0, 17, .inl ftwosAt)), ((n 15), .inl (k 0, 17, .inl fgoneAt))]) S hK hP hD hS 5 rfl (vp_in_nI (by omega) (by decide)) (fun _ => rfl) dX11_getsBy_13 (fun f_6 H locs ef_6 hP hD hS => ?_)
  refine lv_aload_n hx hb dX11_getsBy_14 rfl (lv_at hl 0 rfl) ?_
  refine x_get S hK hP 0 rfl cfX11 18 lkX11_43 (by decide) rfl dX11_getsBy_15 ?_
  refine lv_iload_n hx hb dX11_getsBy_18 rfl (lv_at hl 2 rfl) ?_
  refine lv_dup2_11 hx hb dX11_getsBy_19 rfl rfl ?_
  refine x_iald S hK hP 5 rfl (vp_in_nI (by omega) (by decide)) dX11_getsBy_20 ?_
  refine lv_topi (fun v_7 ev_7 => ?_)
  refine lv_iload hx hb dX11_getsBy_21 (lv_at hl 4 rfl) ?_
  refine lv_iadd hx hb dX11_getsBy_23 ?_
  refine lv_topi (fun v_8 ev_8 => ?_)
  refine x_iast (ws' := fun f_9 => [((n 0), .inr (11, [.int mthrown, .ref (n 1), .ref (n 2), .ref (n 3), .ref (n 4), .int (nI mtaped), .ref (n 5), .int (nI msize), .int (nI mat), .int (nI mfrom), .int mtoken, .int mvalue, .int mfaultKind, .int mfaultPlace, .ref (n 6), .ref (n 7), .ref (n 8), .ref (n 9), .ref (n 10), .ref (n 11), .ref (n 12), .int (nI (u_2.2.1 0)), .int (u_2.1 0), .int (u_2.1 1), .int (u_2.1 2), .ref (n 13), .ref (n 14), .ref (n 15), .int mones, .int mtwos, .int mgone, .ref (n 16), .ref (n 17), .int mroundNow, .ref (n 18), .long msampleFor, .long msampleAll, .ref (n 19), .int maskWorst, .long moftenAll, .long moftenView, .long moftenOnes, .ref (n 20), .ref (n 21), .ref (n 22), .ref (n 23)])), ((n 1), .inl (k 0, 99, .inl fworld)), ((n 7), .inl (k 0, 12, .inl (u_2.2.2.1 1))), ((n 8), .inl (k 0, 12, .inl (u_2.2.2.1 2))), ((n 9), .inl (k 0, 4, .inl (u_2.2.2.1 3))), ((n 10), .inl (k 0, 12, .inl f_9)), ((n 11), .inl (k 0, 14, .inl fmoreHead)), ((n 12), .inl (k 0, 14, .inl fmoreView)), ((n 13), .inl (k 0, 17, .inl fonesAt)), ((n 14), .inl (k 0, 17, .inl ftwosAt)), ((n 15), .inl (k 0, 17, .inl fgoneAt))]) S hK hP hD hS 5 rfl (vp_in_nI (by omega) (by decide)) (fun _ => rfl) dX11_getsBy_24 (fun f_9 H locs ef_9 hP hD hS => ?_)
  refine lv_aload_n hx hb dX11_getsBy_25 rfl (lv_at hl 0 rfl) ?_
  refine x_muVv (wr := []) (As := []) S hK hP hD hZ hS hA hl mwX11_goAll lkX11_312 (ctX11_goAll l D k z n mthrown mtaped msize mat mfrom mtoken mvalue mfaultKind mfaultPlace (u_2.2.1 0) (u_2.1 0) (u_2.1 1) (u_2.1 2) mones mtwos mgone mroundNow msampleFor msampleAll maskWorst moftenAll moftenView moftenOnes fworld (u_2.2.2.1 1) (u_2.2.2.1 2) (u_2.2.2.1 3) f_9 fmoreHead fmoreView fonesAt ftwosAt fgoneAt (by omega) (by omega) (by omega) (by omega) (by omega) (hkworld)) [0, 1, 2, 3, 4, 5, 6, 7, 8, 9, 10] [] rfl rfl (by decide) (by decide) (by decide) rfl rfl rfl rfl rfl ⟨Nat.le_of_ble_eq_true rfl, Nat.le_of_ble_eq_true rfl, Nat.le_of_ble_eq_true rfl⟩ dX11_getsBy_26 ⟨Nat.le_of_ble_eq_true rfl, Nat.le_of_ble_eq_true rfl⟩ (fun u_11 H locs hr_10 hP hD hS => ?_)
  have hP : va_P D vwCl [((n 0), .inr (11, [.int mthrown, .ref (n 1), .ref (n 2), .ref (n 3), .ref (n 4), .int (nI mtaped), .ref (n 5), .int (nI msize), .int (nI mat), .int (nI mfrom), .int mtoken, .int mvalue, .int mfaultKind, .int mfaultPlace, .ref (n 6), .ref (n 7), .ref (n 8), .ref (n 9), .ref (n 10), .ref (n 11), .ref (n 12), .int (nI (u_2.2.1 0)), .int (u_2.1 0), .int (u_2.1 1), .int (u_2.1 2), .ref (n 13), .ref (n 14), .ref (n 15), .int (u_11.1 0), .int (u_11.1 1), .int (u_11.1 2), .ref (n 16), .ref (n 17), .int mroundNow, .ref (n 18), .long msampleFor, .long msampleAll, .ref (n 19), .int maskWorst, .long moftenAll, .long moftenView, .long moftenOnes, .ref (n 20), .ref (n 21), .ref (n 22), .ref (n 23)])), ((n 1), .inl (k 0, 99, .inl fworld)), ((n 7), .inl (k 0, 12, .inl (u_2.2.2.1 1))), ((n 8), .inl (k 0, 12, .inl (u_2.2.2.1 2))), ((n 9), .inl (k 0, 4, .inl (u_2.2.2.1 3))), ((n 10), .inl (k 0, 12, .inl f_9)), ((n 11), .inl (k 0, 14, .inl fmoreHead)), ((n 12), .inl (k 0, 14, .inl fmoreView)), ((n 13), .inl (k 0, 17, .inl (u_11.2.2.1 0))), ((n 14), .inl (k 0, 17, .inl (u_11.2.2.1 1))), ((n 15), .inl (k 0, 17, .inl (u_11.2.2.1 2)))] H := hP.sub [0, 1, 2, 3, 4, 5, 6, 7, 8, 9, 10] rfl
  have hD : va_D A [((n 0), .inr (11, [.int mthrown, .ref (n 1), .ref (n 2), .ref (n 3), .ref (n 4), .int (nI mtaped), .ref (n 5), .int (nI msize), .int (nI mat), .int (nI mfrom), .int mtoken, .int mvalue, .int mfaultKind, .int mfaultPlace, .ref (n 6), .ref (n 7), .ref (n 8), .ref (n 9), .ref (n 10), .ref (n 11), .ref (n 12), .int (nI (u_2.2.1 0)), .int (u_2.1 0), .int (u_2.1 1), .int (u_2.1 2), .ref (n 13), .ref (n 14), .ref (n 15), .int (u_11.1 0), .int (u_11.1 1), .int (u_11.1 2), .ref (n 16), .ref (n 17), .int mroundNow, .ref (n 18), .long msampleFor, .long msampleAll, .ref (n 19), .int maskWorst, .long moftenAll, .long moftenView, .long moftenOnes, .ref (n 20), .ref (n 21), .ref (n 22), .ref (n 23)])), ((n 1), .inl (k 0, 99, .inl fworld)), ((n 7), .inl (k 0, 12, .inl (u_2.2.2.1 1))), ((n 8), .inl (k 0, 12, .inl (u_2.2.2.1 2))), ((n 9), .inl (k 0, 4, .inl (u_2.2.2.1 3))), ((n 10), .inl (k 0, 12, .inl f_9)), ((n 11), .inl (k 0, 14, .inl fmoreHead)), ((n 12), .inl (k 0, 14, .inl fmoreView)), ((n 13), .inl (k 0, 17, .inl (u_11.2.2.1 0))), ((n 14), .inl (k 0, 17, .inl (u_11.2.2.1 1))), ((n 15), .inl (k 0, 17, .inl (u_11.2.2.1 2)))] := hD.sub [0, 1, 2, 3, 4, 5, 6, 7, 8, 9, 10] (by decide) rfl
  refine lv_iload hx hb dX11_getsBy_29 (lv_at hl 5 rfl) ?_
  refine lv_if_ne (tgt := 38) hx hb dX11_getsBy_31 (by decide) (fun c_12 => ?_) (fun c_12 => ?_)
  · skip
    refine lv_iload_n hx hb dX11_getsBy_38 rfl (lv_at hl 2 rfl) ?_
    refine lv_istore (lv' := [(6, .int (nI p1)), (0, .ref (n 0)), (1, .int (nI p0)), (2, .int (nI p1)), (3, .int p2), (4, .int p3), (5, .int p4)]) hx hb dX11_getsBy_39 hl (by decide) rfl (fun ls hl => ?_)
    refine lv_bipush (v := (-3)) hx hb dX11_getsBy_41 (by decide) ?_
    refine lv_iload hx hb dX11_getsBy_43 (lv_at hl 6 rfl) ?_
    refine lv_if_ne (tgt := 52) hx hb dX11_getsBy_45 (by decide) (fun c_13 => ?_) (fun c_13 => ?_)
    · skip
      refine lv_iload hx hb dX11_getsBy_52 (lv_at hl 5 rfl) ?_
      refine lv_imul hx hb dX11_getsBy_54 ?_
      refine lv_topi (fun v_14 ev_14 => ?_)
      refine lv_istore (lv' := [(7, .int v_14), (6, .int (nI p1)), (0, .ref (n 0)), (1, .int (nI p0)), (2, .int (nI p1)), (3, .int p2), (4, .int p3), (5, .int p4)]) hx hb dX11_getsBy_55 hl (by decide) rfl (fun ls hl => ?_)
      refine lv_iconst (v := 1) hx hb dX11_getsBy_57 (by decide) ?_
      refine lv_istore (lv' := [(8, .int 1), (7, .int v_14), (6, .int (nI p1)), (0, .ref (n 0)), (1, .int (nI p0)), (2, .int (nI p1)), (3, .int p2), (4, .int p3), (5, .int p4)]) hx hb dX11_getsBy_58 hl (by decide) rfl (fun ls hl => ?_)
      have lp_51 : ∀ (nn j_49 : Nat) (x_50 : Int32) (H : Heap) (locs : List Loc) (ls : Array Slot), 1 ≤ j_49 → j_49 ≤ wn fworld 0 + 1 → wn fworld 0 + 1 - j_49 < nn → va_P D vwCl [((n 0), .inr (11, [.int mthrown, .ref (n 1), .ref (n 2), .ref (n 3), .ref (n 4), .int (nI mtaped), .ref (n 5), .int (nI msize), .int (nI mat), .int (nI mfrom), .int mtoken, .int mvalue, .int mfaultKind, .int mfaultPlace, .ref (n 6), .ref (n 7), .ref (n 8), .ref (n 9), .ref (n 10), .ref (n 11), .ref (n 12), .int (nI (u_2.2.1 0)), .int (u_2.1 0), .int (u_2.1 1), .int (u_2.1 2), .ref (n 13), .ref (n 14), .ref (n 15), .int (u_11.1 0), .int (u_11.1 1), .int (u_11.1 2), .ref (n 16), .ref (n 17), .int mroundNow, .ref (n 18), .long msampleFor, .long msampleAll, .ref (n 19), .int maskWorst, .long moftenAll, .long moftenView, .long moftenOnes, .ref (n 20), .ref (n 21), .ref (n 22), .ref (n 23)])), ((n 1), .inl (k 0, 99, .inl fworld)), ((n 7), .inl (k 0, 12, .inl (u_2.2.2.1 1))), ((n 8), .inl (k 0, 12, .inl (u_2.2.2.1 2))), ((n 9), .inl (k 0, 4, .inl (u_2.2.2.1 3))), ((n 10), .inl (k 0, 12, .inl f_9)), ((n 11), .inl (k 0, 14, .inl fmoreHead)), ((n 12), .inl (k 0, 14, .inl fmoreView)), ((n 13), .inl (k 0, 17, .inl (u_11.2.2.1 0))), ((n 14), .inl (k 0, 17, .inl (u_11.2.2.1 1))), ((n 15), .inl (k 0, 17, .inl (u_11.2.2.1 2)))] H → va_D A [((n 0), .inr (11, [.int mthrown, .ref (n 1), .ref (n 2), .ref (n 3), .ref (n 4), .int (nI mtaped), .ref (n 5), .int (nI msize), .int (nI mat), .int (nI mfrom), .int mtoken, .int mvalue, .int mfaultKind, .int mfaultPlace, .ref (n 6), .ref (n 7), .ref (n 8), .ref (n 9), .ref (n 10), .ref (n 11), .ref (n 12), .int (nI (u_2.2.1 0)), .int (u_2.1 0), .int (u_2.1 1), .int (u_2.1 2), .ref (n 13), .ref (n 14), .ref (n 15), .int (u_11.1 0), .int (u_11.1 1), .int (u_11.1 2), .ref (n 16), .ref (n 17), .int mroundNow, .ref (n 18), .long msampleFor, .long msampleAll, .ref (n 19), .int maskWorst, .long moftenAll, .long moftenView, .long moftenOnes, .ref (n 20), .ref (n 21), .ref (n 22), .ref (n 23)])), ((n 1), .inl (k 0, 99, .inl fworld)), ((n 7), .inl (k 0, 12, .inl (u_2.2.2.1 1))), ((n 8), .inl (k 0, 12, .inl (u_2.2.2.1 2))), ((n 9), .inl (k 0, 4, .inl (u_2.2.2.1 3))), ((n 10), .inl (k 0, 12, .inl f_9)), ((n 11), .inl (k 0, 14, .inl fmoreHead)), ((n 12), .inl (k 0, 14, .inl fmoreView)), ((n 13), .inl (k 0, 17, .inl (u_11.2.2.1 0))), ((n 14), .inl (k 0, 17, .inl (u_11.2.2.1 1))), ((n 15), .inl (k 0, 17, .inl (u_11.2.2.1 2)))] → va_S A s.heap H locs → lv_has ls 9 [(8, .int (nI j_49)), (7, .int x_50), (6, .int (nI p1)), (0, .ref (n 0)), (1, .int (nI p0)), (2, .int (nI p1)), (3, .int p2), (4, .int p3), (5, .int p4)] → W p l e (Rm 7 0 0) s m args below meth c H locs 0 0 Q (F0 m 60 ls []) := by
        intro nn
        induction nn with
        | zero => intro j_49 x_50 H locs ls hlj_49 hjj_49 hnj_49; exact absurd hnj_49 (by omega)
        | succ nn ihj_49 =>
          intro j_49 x_50 H locs ls hlj_49 hjj_49 hnj_49 hP hD hS hl
          refine lv_iload hx hb dX11_getsBy_60 (lv_at hl 0 rfl) ?_
          refine lv_aload_n hx hb dX11_getsBy_62 rfl (lv_at hl 3 rfl) ?_
          refine x_roVi (As := []) S hK hP hD hZ (fun _ h => h) hA hS hA hl mwX11_hours lkX11_103 (ctX11_hours l D k z n mthrown mtaped msize mat mfrom mtoken mvalue mfaultKind mfaultPlace (u_2.2.1 0) (u_2.1 0) (u_2.1 1) (u_2.1 2) (u_11.1 0) (u_11.1 1) (u_11.1 2) mroundNow msampleFor msampleAll maskWorst moftenAll moftenView moftenOnes fworld (by omega) (by omega) (by omega) (by omega) (by omega) (hkworld)) [0, 1] rfl (by decide) rfl rfl rfl rfl rfl ⟨Nat.le_of_ble_eq_true rfl, Nat.le_of_ble_eq_true rfl, Nat.le_of_ble_eq_true rfl⟩ dX11_getsBy_63 ⟨Nat.le_of_ble_eq_true rfl, Nat.le_of_ble_eq_true rfl⟩ (fun r_52 H locs hr_52 hP hS => ?_)
          obtain rfl := hr_52
          refine lv_icmp_gt (tgt := 117) hx hb dX11_getsBy_66 (by decide) (fun c_54 => ?_) (fun c_54 => ?_)
          · skip
            have c_54 : wn fworld 0 < j_49 := (ni_lt rfl rfl (by omega) (by omega)).mp c_54
            refine lv_iload hx hb dX11_getsBy_117 (lv_at hl 1 rfl) ?_
            exact x_reti S hr hlk hQ hS ((fun i => ([(u_2.1 0), (u_2.1 1), (u_2.1 2), (u_11.1 0), (u_11.1 1), (u_11.1 2)] : List (Int32)).getD i 0), (fun i => ([u_2.2.1 0] : List (Nat)).getD i 0), (fun i => ([f_9, (u_11.2.2.1 0), (u_11.2.2.1 1), (u_11.2.2.1 2), (u_2.2.2.1 1), (u_2.2.2.1 2), (u_2.2.2.1 3)] : List (Nat → Int32)).getD i (fun _ => 0)), (fun i => ([] : List (Nat → Int64)).getD i (fun _ => 0)), (fun i => ([] : List (Int64)).getD i 0)) (show u_2.2.1 0 ≤ 14 by omega) (x_B hP hD) dX11_getsBy_119
          · skip
            have c_54 : ¬ wn fworld 0 < j_49 := fun q => c_54 ((ni_lt rfl rfl (by omega) (by omega)).mpr q)
            refine lv_iload hx hb dX11_getsBy_69 (lv_at hl 1 rfl) ?_
            refine lv_aload_n hx hb dX11_getsBy_71 rfl (lv_at hl 3 rfl) ?_
            refine lv_iload hx hb dX11_getsBy_72 (lv_at hl 2 rfl) ?_
            refine lv_iload hx hb dX11_getsBy_74 (lv_at hl 0 rfl) ?_
            refine x_roVi (As := [.int (nI p1), .int (nI j_49)]) S hK hP hD hZ (fun _ h => h) hA hS hA hl mwX11_viewOf lkX11_333 (ctX11_viewOf l D k z n mthrown mtaped msize mat mfrom mtoken mvalue mfaultKind mfaultPlace (u_2.2.1 0) (u_2.1 0) (u_2.1 1) (u_2.1 2) (u_11.1 0) (u_11.1 1) (u_11.1 2) mroundNow msampleFor msampleAll maskWorst moftenAll moftenView moftenOnes (u_11.2.2.1 0) (u_11.2.2.1 1) (nI p1) j_49 (by omega) (by omega) (by omega) (by omega) (by omega) (by omega)) [0, 8, 9] rfl (by decide) rfl rfl rfl rfl rfl ⟨Nat.le_of_ble_eq_true rfl, Nat.le_of_ble_eq_true rfl, Nat.le_of_ble_eq_true rfl⟩ dX11_getsBy_76 ⟨Nat.le_of_ble_eq_true rfl, Nat.le_of_ble_eq_true rfl⟩ (fun r_55 H locs hr_55 hP hS => ?_)
            refine lv_if_le (tgt := 107) hx hb dX11_getsBy_79 (by decide) (fun c_57 => ?_) (fun c_57 => ?_)
            · skip
              refine lv_iconst (v := 0) hx hb dX11_getsBy_107 (by decide) ?_
              refine lv_iadd hx hb dX11_getsBy_108 ?_
              refine lv_topi (fun v_58 ev_58 => ?_)
              refine lv_istore (lv' := [(7, .int v_58), (8, .int (nI j_49)), (6, .int (nI p1)), (0, .ref (n 0)), (1, .int (nI p0)), (2, .int (nI p1)), (3, .int p2), (4, .int p3), (5, .int p4)]) hx hb dX11_getsBy_109 hl (by decide) rfl (fun ls hl => ?_)
              refine lv_iinc (v := (nI (j_49 + 1))) (lv' := [(8, .int (nI (j_49 + 1))), (7, .int v_58), (6, .int (nI p1)), (0, .ref (n 0)), (1, .int (nI p0)), (2, .int (nI p1)), (3, .int p2), (4, .int p3), (5, .int p4)]) hx hb dX11_getsBy_111 hl (k := 1) rfl (ni_inc _) (by decide) rfl (fun ls hl => ?_)
              refine lv_goto (tgt := 60) hx hb dX11_getsBy_114 (by decide) ?_
              exact ihj_49 (j_49 + 1) v_58 _ _ _ (by omega) (by omega) (by omega) hP hD hS (lv_sub hl [0, 1, 2, 3, 4, 5, 6, 7, 8] rfl)
            · skip
              refine lv_aload_n hx hb dX11_getsBy_82 rfl (lv_at hl 3 rfl) ?_
              refine lv_iload hx hb dX11_getsBy_83 (lv_at hl 2 rfl) ?_
              refine lv_iload hx hb dX11_getsBy_85 (lv_at hl 0 rfl) ?_
              refine x_roVi (As := [.int (nI p1), .int (nI j_49)]) S hK hP hD hZ (fun _ h => h) hA hS hA hl mwX11_viewOf lkX11_333 (ctX11_viewOf l D k z n mthrown mtaped msize mat mfrom mtoken mvalue mfaultKind mfaultPlace (u_2.2.1 0) (u_2.1 0) (u_2.1 1) (u_2.1 2) (u_11.1 0) (u_11.1 1) (u_11.1 2) mroundNow msampleFor msampleAll maskWorst moftenAll moftenView moftenOnes (u_11.2.2.1 0) (u_11.2.2.1 1) (nI p1) j_49 (by omega) (by omega) (by omega) (by omega) (by omega) (by omega)) [0, 8, 9] rfl (by decide) rfl rfl rfl rfl rfl ⟨Nat.le_of_ble_eq_true rfl, Nat.le_of_ble_eq_true rfl, Nat.le_of_ble_eq_true rfl⟩ dX11_getsBy_87 ⟨Nat.le_of_ble_eq_true rfl, Nat.le_of_ble_eq_true rfl⟩ (fun r_59 H locs hr_59 hP hS => ?_)
              refine lv_aload_n hx hb dX11_getsBy_90 rfl (lv_at hl 3 rfl) ?_
              refine lv_iload hx hb dX11_getsBy_91 (lv_at hl 2 rfl) ?_
              refine lv_iload hx hb dX11_getsBy_93 (lv_at hl 0 rfl) ?_
              refine lv_iconst (v := 1) hx hb dX11_getsBy_95 (by decide) ?_
              refine lv_isub hx hb dX11_getsBy_96 ?_
              refine x_is (nI (j_49 - 1)) (ni_sub rfl (by decide) (by omega)) ?_
              refine x_roVi (As := [.int (nI p1), .int (nI (j_49 - 1))]) S hK hP hD hZ (fun _ h => h) hA hS hA hl mwX11_viewOf lkX11_333 (ctX11_viewOf l D k z n mthrown mtaped msize mat mfrom mtoken mvalue mfaultKind mfaultPlace (u_2.2.1 0) (u_2.1 0) (u_2.1 1) (u_2.1 2) (u_11.1 0) (u_11.1 1) (u_11.1 2) mroundNow msampleFor msampleAll maskWorst moftenAll moftenView moftenOnes (u_11.2.2.1 0) (u_11.2.2.1 1) (nI p1) (j_49 - 1) (by omega) (by omega) (by omega) (by omega) (by omega) (by omega)) [0, 8, 9] rfl (by decide) rfl rfl rfl rfl rfl ⟨Nat.le_of_ble_eq_true rfl, Nat.le_of_ble_eq_true rfl, Nat.le_of_ble_eq_true rfl⟩ dX11_getsBy_97 ⟨Nat.le_of_ble_eq_true rfl, Nat.le_of_ble_eq_true rfl⟩ (fun r_61 H locs hr_61 hP hS => ?_)
              refine lv_icmp_ne (tgt := 107) hx hb dX11_getsBy_100 (by decide) (fun c_63 => ?_) (fun c_63 => ?_)
              · skip
                refine lv_iconst (v := 0) hx hb dX11_getsBy_107 (by decide) ?_
                refine lv_iadd hx hb dX11_getsBy_108 ?_
                refine lv_topi (fun v_64 ev_64 => ?_)
                refine lv_istore (lv' := [(7, .int v_64), (8, .int (nI j_49)), (6, .int (nI p1)), (0, .ref (n 0)), (1, .int (nI p0)), (2, .int (nI p1)), (3, .int p2), (4, .int p3), (5, .int p4)]) hx hb dX11_getsBy_109 hl (by decide) rfl (fun ls hl => ?_)
                refine lv_iinc (v := (nI (j_49 + 1))) (lv' := [(8, .int (nI (j_49 + 1))), (7, .int v_64), (6, .int (nI p1)), (0, .ref (n 0)), (1, .int (nI p0)), (2, .int (nI p1)), (3, .int p2), (4, .int p3), (5, .int p4)]) hx hb dX11_getsBy_111 hl (k := 1) rfl (ni_inc _) (by decide) rfl (fun ls hl => ?_)
                refine lv_goto (tgt := 60) hx hb dX11_getsBy_114 (by decide) ?_
                exact ihj_49 (j_49 + 1) v_64 _ _ _ (by omega) (by omega) (by omega) hP hD hS (lv_sub hl [0, 1, 2, 3, 4, 5, 6, 7, 8] rfl)
              · skip
                refine lv_iconst (v := 2) hx hb dX11_getsBy_103 (by decide) ?_
                refine lv_goto (tgt := 108) hx hb dX11_getsBy_104 (by decide) ?_
                refine lv_iadd hx hb dX11_getsBy_108 ?_
                refine lv_topi (fun v_65 ev_65 => ?_)
                refine lv_istore (lv' := [(7, .int v_65), (8, .int (nI j_49)), (6, .int (nI p1)), (0, .ref (n 0)), (1, .int (nI p0)), (2, .int (nI p1)), (3, .int p2), (4, .int p3), (5, .int p4)]) hx hb dX11_getsBy_109 hl (by decide) rfl (fun ls hl => ?_)
                refine lv_iinc (v := (nI (j_49 + 1))) (lv' := [(8, .int (nI (j_49 + 1))), (7, .int v_65), (6, .int (nI p1)), (0, .ref (n 0)), (1, .int (nI p0)), (2, .int (nI p1)), (3, .int p2), (4, .int p3), (5, .int p4)]) hx hb dX11_getsBy_111 hl (k := 1) rfl (ni_inc _) (by decide) rfl (fun ls hl => ?_)
                refine lv_goto (tgt := 60) hx hb dX11_getsBy_114 (by decide) ?_
                exact ihj_49 (j_49 + 1) v_65 _ _ _ (by omega) (by omega) (by omega) hP hD hS (lv_sub hl [0, 1, 2, 3, 4, 5, 6, 7, 8] rfl)
      exact lp_51 (wn fworld 0 + 1 + 1) 1 v_14 _ _ _ (by omega) (by omega) (by omega) hP hD hS (lv_sub hl [0, 1, 2, 3, 4, 5, 6, 7, 8] rfl)
    · skip
      exact absurd c_13 c_12
  · skip
    refine lv_iload_n hx hb dX11_getsBy_34 rfl (lv_at hl 1 rfl) ?_
    refine lv_goto (tgt := 39) hx hb dX11_getsBy_35 (by decide) ?_
    refine lv_istore (lv' := [(6, .int (nI p0)), (0, .ref (n 0)), (1, .int (nI p0)), (2, .int (nI p1)), (3, .int p2), (4, .int p3), (5, .int p4)]) hx hb dX11_getsBy_39 hl (by decide) rfl (fun ls hl => ?_)
    refine lv_bipush (v := (-3)) hx hb dX11_getsBy_41 (by decide) ?_
    refine lv_iload hx hb dX11_getsBy_43 (lv_at hl 6 rfl) ?_
    refine lv_if_ne (tgt := 52) hx hb dX11_getsBy_45 (by decide) (fun c_66 => ?_) (fun c_66 => ?_)
    · skip
      exact absurd c_12 c_66
    · skip
      refine lv_iload_n hx hb dX11_getsBy_48 rfl (lv_at hl 4 rfl) ?_
      refine lv_goto (tgt := 54) hx hb dX11_getsBy_49 (by decide) ?_
      refine lv_imul hx hb dX11_getsBy_54 ?_
      refine lv_topi (fun v_67 ev_67 => ?_)
      refine lv_istore (lv' := [(7, .int v_67), (6, .int (nI p0)), (0, .ref (n 0)), (1, .int (nI p0)), (2, .int (nI p1)), (3, .int p2), (4, .int p3), (5, .int p4)]) hx hb dX11_getsBy_55 hl (by decide) rfl (fun ls hl => ?_)
      refine lv_iconst (v := 1) hx hb dX11_getsBy_57 (by decide) ?_
      refine lv_istore (lv' := [(8, .int 1), (7, .int v_67), (6, .int (nI p0)), (0, .ref (n 0)), (1, .int (nI p0)), (2, .int (nI p1)), (3, .int p2), (4, .int p3), (5, .int p4)]) hx hb dX11_getsBy_58 hl (by decide) rfl (fun ls hl => ?_)
      have lp_90 : ∀ (nn j_88 : Nat) (x_89 : Int32) (H : Heap) (locs : List Loc) (ls : Array Slot), 1 ≤ j_88 → j_88 ≤ wn fworld 0 + 1 → wn fworld 0 + 1 - j_88 < nn → va_P D vwCl [((n 0), .inr (11, [.int mthrown, .ref (n 1), .ref (n 2), .ref (n 3), .ref (n 4), .int (nI mtaped), .ref (n 5), .int (nI msize), .int (nI mat), .int (nI mfrom), .int mtoken, .int mvalue, .int mfaultKind, .int mfaultPlace, .ref (n 6), .ref (n 7), .ref (n 8), .ref (n 9), .ref (n 10), .ref (n 11), .ref (n 12), .int (nI (u_2.2.1 0)), .int (u_2.1 0), .int (u_2.1 1), .int (u_2.1 2), .ref (n 13), .ref (n 14), .ref (n 15), .int (u_11.1 0), .int (u_11.1 1), .int (u_11.1 2), .ref (n 16), .ref (n 17), .int mroundNow, .ref (n 18), .long msampleFor, .long msampleAll, .ref (n 19), .int maskWorst, .long moftenAll, .long moftenView, .long moftenOnes, .ref (n 20), .ref (n 21), .ref (n 22), .ref (n 23)])), ((n 1), .inl (k 0, 99, .inl fworld)), ((n 7), .inl (k 0, 12, .inl (u_2.2.2.1 1))), ((n 8), .inl (k 0, 12, .inl (u_2.2.2.1 2))), ((n 9), .inl (k 0, 4, .inl (u_2.2.2.1 3))), ((n 10), .inl (k 0, 12, .inl f_9)), ((n 11), .inl (k 0, 14, .inl fmoreHead)), ((n 12), .inl (k 0, 14, .inl fmoreView)), ((n 13), .inl (k 0, 17, .inl (u_11.2.2.1 0))), ((n 14), .inl (k 0, 17, .inl (u_11.2.2.1 1))), ((n 15), .inl (k 0, 17, .inl (u_11.2.2.1 2)))] H → va_D A [((n 0), .inr (11, [.int mthrown, .ref (n 1), .ref (n 2), .ref (n 3), .ref (n 4), .int (nI mtaped), .ref (n 5), .int (nI msize), .int (nI mat), .int (nI mfrom), .int mtoken, .int mvalue, .int mfaultKind, .int mfaultPlace, .ref (n 6), .ref (n 7), .ref (n 8), .ref (n 9), .ref (n 10), .ref (n 11), .ref (n 12), .int (nI (u_2.2.1 0)), .int (u_2.1 0), .int (u_2.1 1), .int (u_2.1 2), .ref (n 13), .ref (n 14), .ref (n 15), .int (u_11.1 0), .int (u_11.1 1), .int (u_11.1 2), .ref (n 16), .ref (n 17), .int mroundNow, .ref (n 18), .long msampleFor, .long msampleAll, .ref (n 19), .int maskWorst, .long moftenAll, .long moftenView, .long moftenOnes, .ref (n 20), .ref (n 21), .ref (n 22), .ref (n 23)])), ((n 1), .inl (k 0, 99, .inl fworld)), ((n 7), .inl (k 0, 12, .inl (u_2.2.2.1 1))), ((n 8), .inl (k 0, 12, .inl (u_2.2.2.1 2))), ((n 9), .inl (k 0, 4, .inl (u_2.2.2.1 3))), ((n 10), .inl (k 0, 12, .inl f_9)), ((n 11), .inl (k 0, 14, .inl fmoreHead)), ((n 12), .inl (k 0, 14, .inl fmoreView)), ((n 13), .inl (k 0, 17, .inl (u_11.2.2.1 0))), ((n 14), .inl (k 0, 17, .inl (u_11.2.2.1 1))), ((n 15), .inl (k 0, 17, .inl (u_11.2.2.1 2)))] → va_S A s.heap H locs → lv_has ls 9 [(8, .int (nI j_88)), (7, .int x_89), (6, .int (nI p0)), (0, .ref (n 0)), (1, .int (nI p0)), (2, .int (nI p1)), (3, .int p2), (4, .int p3), (5, .int p4)] → W p l e (Rm 7 0 0) s m args below meth c H locs 0 0 Q (F0 m 60 ls []) := by
        intro nn
        induction nn with
        | zero => intro j_88 x_89 H locs ls hlj_88 hjj_88 hnj_88; exact absurd hnj_88 (by omega)
        | succ nn ihj_88 =>
          intro j_88 x_89 H locs ls hlj_88 hjj_88 hnj_88 hP hD hS hl
          refine lv_iload hx hb dX11_getsBy_60 (lv_at hl 0 rfl) ?_
          refine lv_aload_n hx hb dX11_getsBy_62 rfl (lv_at hl 3 rfl) ?_
          refine x_roVi (As := []) S hK hP hD hZ (fun _ h => h) hA hS hA hl mwX11_hours lkX11_103 (ctX11_hours l D k z n mthrown mtaped msize mat mfrom mtoken mvalue mfaultKind mfaultPlace (u_2.2.1 0) (u_2.1 0) (u_2.1 1) (u_2.1 2) (u_11.1 0) (u_11.1 1) (u_11.1 2) mroundNow msampleFor msampleAll maskWorst moftenAll moftenView moftenOnes fworld (by omega) (by omega) (by omega) (by omega) (by omega) (hkworld)) [0, 1] rfl (by decide) rfl rfl rfl rfl rfl ⟨Nat.le_of_ble_eq_true rfl, Nat.le_of_ble_eq_true rfl, Nat.le_of_ble_eq_true rfl⟩ dX11_getsBy_63 ⟨Nat.le_of_ble_eq_true rfl, Nat.le_of_ble_eq_true rfl⟩ (fun r_91 H locs hr_91 hP hS => ?_)
          obtain rfl := hr_91
          refine lv_icmp_gt (tgt := 117) hx hb dX11_getsBy_66 (by decide) (fun c_93 => ?_) (fun c_93 => ?_)
          · skip
            have c_93 : wn fworld 0 < j_88 := (ni_lt rfl rfl (by omega) (by omega)).mp c_93
            refine lv_iload hx hb dX11_getsBy_117 (lv_at hl 1 rfl) ?_
            exact x_reti S hr hlk hQ hS ((fun i => ([(u_2.1 0), (u_2.1 1), (u_2.1 2), (u_11.1 0), (u_11.1 1), (u_11.1 2)] : List (Int32)).getD i 0), (fun i => ([u_2.2.1 0] : List (Nat)).getD i 0), (fun i => ([f_9, (u_11.2.2.1 0), (u_11.2.2.1 1), (u_11.2.2.1 2), (u_2.2.2.1 1), (u_2.2.2.1 2), (u_2.2.2.1 3)] : List (Nat → Int32)).getD i (fun _ => 0)), (fun i => ([] : List (Nat → Int64)).getD i (fun _ => 0)), (fun i => ([] : List (Int64)).getD i 0)) (show u_2.2.1 0 ≤ 14 by omega) (x_B hP hD) dX11_getsBy_119
          · skip
            have c_93 : ¬ wn fworld 0 < j_88 := fun q => c_93 ((ni_lt rfl rfl (by omega) (by omega)).mpr q)
            refine lv_iload hx hb dX11_getsBy_69 (lv_at hl 1 rfl) ?_
            refine lv_aload_n hx hb dX11_getsBy_71 rfl (lv_at hl 3 rfl) ?_
            refine lv_iload hx hb dX11_getsBy_72 (lv_at hl 2 rfl) ?_
            refine lv_iload hx hb dX11_getsBy_74 (lv_at hl 0 rfl) ?_
            refine x_roVi (As := [.int (nI p0), .int (nI j_88)]) S hK hP hD hZ (fun _ h => h) hA hS hA hl mwX11_viewOf lkX11_333 (ctX11_viewOf l D k z n mthrown mtaped msize mat mfrom mtoken mvalue mfaultKind mfaultPlace (u_2.2.1 0) (u_2.1 0) (u_2.1 1) (u_2.1 2) (u_11.1 0) (u_11.1 1) (u_11.1 2) mroundNow msampleFor msampleAll maskWorst moftenAll moftenView moftenOnes (u_11.2.2.1 0) (u_11.2.2.1 1) (nI p0) j_88 (by omega) (by omega) (by omega) (by omega) (by omega) (by omega)) [0, 8, 9] rfl (by decide) rfl rfl rfl rfl rfl ⟨Nat.le_of_ble_eq_true rfl, Nat.le_of_ble_eq_true rfl, Nat.le_of_ble_eq_true rfl⟩ dX11_getsBy_76 ⟨Nat.le_of_ble_eq_true rfl, Nat.le_of_ble_eq_true rfl⟩ (fun r_94 H locs hr_94 hP hS => ?_)
            refine lv_if_le (tgt := 107) hx hb dX11_getsBy_79 (by decide) (fun c_96 => ?_) (fun c_96 => ?_)
            · skip
              refine lv_iconst (v := 0) hx hb dX11_getsBy_107 (by decide) ?_
              refine lv_iadd hx hb dX11_getsBy_108 ?_
              refine lv_topi (fun v_97 ev_97 => ?_)
              refine lv_istore (lv' := [(7, .int v_97), (8, .int (nI j_88)), (6, .int (nI p0)), (0, .ref (n 0)), (1, .int (nI p0)), (2, .int (nI p1)), (3, .int p2), (4, .int p3), (5, .int p4)]) hx hb dX11_getsBy_109 hl (by decide) rfl (fun ls hl => ?_)
              refine lv_iinc (v := (nI (j_88 + 1))) (lv' := [(8, .int (nI (j_88 + 1))), (7, .int v_97), (6, .int (nI p0)), (0, .ref (n 0)), (1, .int (nI p0)), (2, .int (nI p1)), (3, .int p2), (4, .int p3), (5, .int p4)]) hx hb dX11_getsBy_111 hl (k := 1) rfl (ni_inc _) (by decide) rfl (fun ls hl => ?_)
              refine lv_goto (tgt := 60) hx hb dX11_getsBy_114 (by decide) ?_
              exact ihj_88 (j_88 + 1) v_97 _ _ _ (by omega) (by omega) (by omega) hP hD hS (lv_sub hl [0, 1, 2, 3, 4, 5, 6, 7, 8] rfl)
            · skip
              refine lv_aload_n hx hb dX11_getsBy_82 rfl (lv_at hl 3 rfl) ?_
              refine lv_iload hx hb dX11_getsBy_83 (lv_at hl 2 rfl) ?_
              refine lv_iload hx hb dX11_getsBy_85 (lv_at hl 0 rfl) ?_
              refine x_roVi (As := [.int (nI p0), .int (nI j_88)]) S hK hP hD hZ (fun _ h => h) hA hS hA hl mwX11_viewOf lkX11_333 (ctX11_viewOf l D k z n mthrown mtaped msize mat mfrom mtoken mvalue mfaultKind mfaultPlace (u_2.2.1 0) (u_2.1 0) (u_2.1 1) (u_2.1 2) (u_11.1 0) (u_11.1 1) (u_11.1 2) mroundNow msampleFor msampleAll maskWorst moftenAll moftenView moftenOnes (u_11.2.2.1 0) (u_11.2.2.1 1) (nI p0) j_88 (by omega) (by omega) (by omega) (by omega) (by omega) (by omega)) [0, 8, 9] rfl (by decide) rfl rfl rfl rfl rfl ⟨Nat.le_of_ble_eq_true rfl, Nat.le_of_ble_eq_true rfl, Nat.le_of_ble_eq_true rfl⟩ dX11_getsBy_87 ⟨Nat.le_of_ble_eq_true rfl, Nat.le_of_ble_eq_true rfl⟩ (fun r_98 H locs hr_98 hP hS => ?_)
              refine lv_aload_n hx hb dX11_getsBy_90 rfl (lv_at hl 3 rfl) ?_
              refine lv_iload hx hb dX11_getsBy_91 (lv_at hl 2 rfl) ?_
              refine lv_iload hx hb dX11_getsBy_93 (lv_at hl 0 rfl) ?_
              refine lv_iconst (v := 1) hx hb dX11_getsBy_95 (by decide) ?_
              refine lv_isub hx hb dX11_getsBy_96 ?_
              refine x_is (nI (j_88 - 1)) (ni_sub rfl (by decide) (by omega)) ?_
              refine x_roVi (As := [.int (nI p0), .int (nI (j_88 - 1))]) S hK hP hD hZ (fun _ h => h) hA hS hA hl mwX11_viewOf lkX11_333 (ctX11_viewOf l D k z n mthrown mtaped msize mat mfrom mtoken mvalue mfaultKind mfaultPlace (u_2.2.1 0) (u_2.1 0) (u_2.1 1) (u_2.1 2) (u_11.1 0) (u_11.1 1) (u_11.1 2) mroundNow msampleFor msampleAll maskWorst moftenAll moftenView moftenOnes (u_11.2.2.1 0) (u_11.2.2.1 1) (nI p0) (j_88 - 1) (by omega) (by omega) (by omega) (by omega) (by omega) (by omega)) [0, 8, 9] rfl (by decide) rfl rfl rfl rfl rfl ⟨Nat.le_of_ble_eq_true rfl, Nat.le_of_ble_eq_true rfl, Nat.le_of_ble_eq_true rfl⟩ dX11_getsBy_97 ⟨Nat.le_of_ble_eq_true rfl, Nat.le_of_ble_eq_true rfl⟩ (fun r_100 H locs hr_100 hP hS => ?_)
              refine lv_icmp_ne (tgt := 107) hx hb dX11_getsBy_100 (by decide) (fun c_102 => ?_) (fun c_102 => ?_)
              · skip
                refine lv_iconst (v := 0) hx hb dX11_getsBy_107 (by decide) ?_
                refine lv_iadd hx hb dX11_getsBy_108 ?_
                refine lv_topi (fun v_103 ev_103 => ?_)
                refine lv_istore (lv' := [(7, .int v_103), (8, .int (nI j_88)), (6, .int (nI p0)), (0, .ref (n 0)), (1, .int (nI p0)), (2, .int (nI p1)), (3, .int p2), (4, .int p3), (5, .int p4)]) hx hb dX11_getsBy_109 hl (by decide) rfl (fun ls hl => ?_)
                refine lv_iinc (v := (nI (j_88 + 1))) (lv' := [(8, .int (nI (j_88 + 1))), (7, .int v_103), (6, .int (nI p0)), (0, .ref (n 0)), (1, .int (nI p0)), (2, .int (nI p1)), (3, .int p2), (4, .int p3), (5, .int p4)]) hx hb dX11_getsBy_111 hl (k := 1) rfl (ni_inc _) (by decide) rfl (fun ls hl => ?_)
                refine lv_goto (tgt := 60) hx hb dX11_getsBy_114 (by decide) ?_
                exact ihj_88 (j_88 + 1) v_103 _ _ _ (by omega) (by omega) (by omega) hP hD hS (lv_sub hl [0, 1, 2, 3, 4, 5, 6, 7, 8] rfl)
              · skip
                refine lv_iconst (v := 2) hx hb dX11_getsBy_103 (by decide) ?_
                refine lv_goto (tgt := 108) hx hb dX11_getsBy_104 (by decide) ?_
                refine lv_iadd hx hb dX11_getsBy_108 ?_
                refine lv_topi (fun v_104 ev_104 => ?_)
                refine lv_istore (lv' := [(7, .int v_104), (8, .int (nI j_88)), (6, .int (nI p0)), (0, .ref (n 0)), (1, .int (nI p0)), (2, .int (nI p1)), (3, .int p2), (4, .int p3), (5, .int p4)]) hx hb dX11_getsBy_109 hl (by decide) rfl (fun ls hl => ?_)
                refine lv_iinc (v := (nI (j_88 + 1))) (lv' := [(8, .int (nI (j_88 + 1))), (7, .int v_104), (6, .int (nI p0)), (0, .ref (n 0)), (1, .int (nI p0)), (2, .int (nI p1)), (3, .int p2), (4, .int p3), (5, .int p4)]) hx hb dX11_getsBy_111 hl (k := 1) rfl (ni_inc _) (by decide) rfl (fun ls hl => ?_)
                refine lv_goto (tgt := 60) hx hb dX11_getsBy_114 (by decide) ?_
                exact ihj_88 (j_88 + 1) v_104 _ _ _ (by omega) (by omega) (by omega) hP hD hS (lv_sub hl [0, 1, 2, 3, 4, 5, 6, 7, 8] rfl)
      exact lp_90 (wn fworld 0 + 1 + 1) 1 v_67 _ _ _ (by omega) (by omega) (by omega) hP hD hS (lv_sub hl [0, 1, 2, 3, 4, 5, 6, 7, 8] rfl)

set_option maxHeartbeats 4000000 in
set_option maxRecDepth 100000 in
theorem ctX11_areTwo (l : Launch) (D : va_G) (k : Nat → ClassId) (z : Nat → Nat) (n : Nat → Nat) (mthrown : Int32) (mtaped : Nat) (msize : Nat) (mat : Nat) (mfrom : Nat) (mtoken : Int32) (mvalue : Int32) (mfaultKind : Int32) (mfaultPlace : Int32) (mmoreMany : Nat) (mlawNow : Int32) (mwetSet : Int32) (moverAll : Int32) (mones : Int32) (mtwos : Int32) (mgone : Int32) (mroundNow : Int32) (msampleFor : Int64) (msampleAll : Int64) (maskWorst : Int32) (moftenAll : Int64) (moftenView : Int64) (moftenOnes : Int64) (fworld : Nat → Int32) (p0 : Int32) (p1 : Int32) (hmtaped : mtaped ≤ 600) (hmsize : msize ≤ 600) (hmat : mat ≤ 600) (hmfrom : mfrom ≤ 600) (hmmoreMany : mmoreMany ≤ 14) (hkworld : okW fworld) : RO l yX11_areTwo cX11_areTwo 3 (some .boolean) 2 D k z [.ref (n 0), .int p0, .int p1] [((n 0), .inr (11, [.int mthrown, .ref (n 1), .ref (n 2), .ref (n 3), .ref (n 4), .int (nI mtaped), .ref (n 5), .int (nI msize), .int (nI mat), .int (nI mfrom), .int mtoken, .int mvalue, .int mfaultKind, .int mfaultPlace, .ref (n 6), .ref (n 7), .ref (n 8), .ref (n 9), .ref (n 10), .ref (n 11), .ref (n 12), .int (nI mmoreMany), .int mlawNow, .int mwetSet, .int moverAll, .ref (n 13), .ref (n 14), .ref (n 15), .int mones, .int mtwos, .int mgone, .ref (n 16), .ref (n 17), .int mroundNow, .ref (n 18), .long msampleFor, .long msampleAll, .ref (n 19), .int maskWorst, .long moftenAll, .long moftenView, .long moftenOnes, .ref (n 20), .ref (n 21), .ref (n 22), .ref (n 23)])), ((n 1), .inl (k 0, 99, .inl fworld))] (Qi (fun r : Int32 => (r = 0 ∨ (∃ j : Nat, p0 = nI j ∧ j < wn fworld 4) ∧ (∃ j : Nat, p1 = nI j ∧ j < wn fworld 4)) ∧ (r = 0 ∨ r = 1))) := by
  refine RO.of (by decide) (Nat.le_of_ble_eq_true rfl) ?_
  intro p e s m below meth c ls A B args Q S hr hlk hQ hK hP hDW hZ hAB hBA hA hS hl
  have hx := S.1
  have hb := S.2.1
  have hl : lv_has ls 3 [(0, .ref (n 0)), (1, .int p0), (2, .int p1)] := hl
  have hbfworld := okW_bd hkworld
  refine lv_aload_n hx hb dX11_areTwo_0 rfl (lv_at hl 0 rfl) ?_
  refine lv_iload_n hx hb dX11_areTwo_1 rfl (lv_at hl 1 rfl) ?_
  refine lv_i2l (v := p0.toInt64) hx hb dX11_areTwo_2 rfl ?_
  refine x_roVi (As := [.long p0.toInt64]) S hK hP hDW hZ hAB hBA hS hA hl mwX11_isHead lkX11_237 (ctX11_isHead_i l D k z n mthrown mtaped msize mat mfrom mtoken mvalue mfaultKind mfaultPlace mmoreMany mlawNow mwetSet moverAll mones mtwos mgone mroundNow msampleFor msampleAll maskWorst moftenAll moftenView moftenOnes fworld p0 (by omega) (by omega) (by omega) (by omega) (by omega) (hkworld)) [0, 1] rfl (by decide) rfl rfl rfl rfl rfl ⟨Nat.le_of_ble_eq_true rfl, Nat.le_of_ble_eq_true rfl, Nat.le_of_ble_eq_true rfl⟩ dX11_areTwo_3 ⟨Nat.le_of_ble_eq_true rfl, Nat.le_of_ble_eq_true rfl⟩ (fun r_1 H locs hr_1 hP hS => ?_)
  obtain ⟨hp_3, hz_4⟩ := hr_1
  refine lv_if_eq (tgt := 27) hx hb dX11_areTwo_6 (by decide) (fun c_5 => ?_) (fun c_5 => ?_)
  · skip
    refine lv_iconst (v := 0) hx hb dX11_areTwo_27 (by decide) ?_
    exact x_retz S hr hlk hQ hS rfl () ⟨(Or.inl rfl), (Or.inl rfl)⟩ x_T dX11_areTwo_28
  · skip
    obtain ⟨n_6, rfl, hn_6⟩ := hp_3.resolve_left c_5
    refine lv_aload_n hx hb dX11_areTwo_9 rfl (lv_at hl 0 rfl) ?_
    refine lv_iload_n hx hb dX11_areTwo_10 rfl (lv_at hl 2 rfl) ?_
    refine lv_i2l (v := p1.toInt64) hx hb dX11_areTwo_11 rfl ?_
    refine x_roVi (As := [.long p1.toInt64]) S hK hP hDW hZ hAB hBA hS hA hl mwX11_isHead lkX11_237 (ctX11_isHead_i l D k z n mthrown mtaped msize mat mfrom mtoken mvalue mfaultKind mfaultPlace mmoreMany mlawNow mwetSet moverAll mones mtwos mgone mroundNow msampleFor msampleAll maskWorst moftenAll moftenView moftenOnes fworld p1 (by omega) (by omega) (by omega) (by omega) (by omega) (hkworld)) [0, 1] rfl (by decide) rfl rfl rfl rfl rfl ⟨Nat.le_of_ble_eq_true rfl, Nat.le_of_ble_eq_true rfl, Nat.le_of_ble_eq_true rfl⟩ dX11_areTwo_12 ⟨Nat.le_of_ble_eq_true rfl, Nat.le_of_ble_eq_true rfl⟩ (fun r_7 H locs hr_7 hP hS => ?_)
    obtain ⟨hp_9, hz_10⟩ := hr_7
    refine lv_if_eq (tgt := 27) hx hb dX11_areTwo_15 (by decide) (fun c_11 => ?_) (fun c_11 => ?_)
    · skip
      refine lv_iconst (v := 0) hx hb dX11_areTwo_27 (by decide) ?_
      exact x_retz S hr hlk hQ hS rfl () ⟨(Or.inl rfl), (Or.inl rfl)⟩ x_T dX11_areTwo_28
    · skip
      obtain ⟨n_12, rfl, hn_12⟩ := hp_9.resolve_left c_11
      refine lv_iload_n hx hb dX11_areTwo_18 rfl (lv_at hl 1 rfl) ?_
      refine lv_iload_n hx hb dX11_areTwo_19 rfl (lv_at hl 2 rfl) ?_
      refine lv_icmp_eq (tgt := 27) hx hb dX11_areTwo_20 (by decide) (fun c_13 => ?_) (fun c_13 => ?_)
      · skip
        have c_13 : n_6 = n_12 := (ni_eq rfl rfl (by omega) (by omega)).mp c_13
        refine lv_iconst (v := 0) hx hb dX11_areTwo_27 (by decide) ?_
        exact x_retz S hr hlk hQ hS rfl () ⟨(Or.inl rfl), (Or.inl rfl)⟩ x_T dX11_areTwo_28
      · skip
        have c_13 : ¬ n_6 = n_12 := fun q => c_13 ((ni_eq rfl rfl (by omega) (by omega)).mpr q)
        refine lv_iconst (v := 1) hx hb dX11_areTwo_23 (by decide) ?_
        refine lv_goto (tgt := 28) hx hb dX11_areTwo_24 (by decide) ?_
        exact x_retz S hr hlk hQ hS rfl () ⟨(Or.inr ⟨⟨n_6, rfl, by omega⟩, ⟨n_12, rfl, by omega⟩⟩), (Or.inr rfl)⟩ x_T dX11_areTwo_28

set_option maxHeartbeats 4000000 in
set_option maxRecDepth 100000 in
theorem ctX11_rests (l : Launch) (D : va_G) (k : Nat → ClassId) (z : Nat → Nat) (n : Nat → Nat) (mthrown : Int32) (mtaped : Nat) (msize : Nat) (mat : Nat) (mfrom : Nat) (mtoken : Int32) (mvalue : Int32) (mfaultKind : Int32) (mfaultPlace : Int32) (mmoreMany : Nat) (mlawNow : Int32) (mwetSet : Int32) (moverAll : Int32) (mones : Int32) (mtwos : Int32) (mgone : Int32) (mroundNow : Int32) (msampleFor : Int64) (msampleAll : Int64) (maskWorst : Int32) (moftenAll : Int64) (moftenView : Int64) (moftenOnes : Int64) (fworld : Nat → Int32) (frowOf : Nat → Int32) (fplaceOf : Nat → Int32) (ffirstOf : Nat → Int32) (fhardNow : Nat → Int32) (fmoreHead : Nat → Int32) (fmoreView : Nat → Int32) (fonesAt : Nat → Int32) (ftwosAt : Nat → Int32) (fgoneAt : Nat → Int32) (p0 : Int32) (p1 : Int32) (hmtaped : mtaped ≤ 600) (hmsize : msize ≤ 600) (hmat : mat ≤ 600) (hmfrom : mfrom ≤ 600) (hmmoreMany : mmoreMany ≤ 14) (hkworld : okW fworld) : MU l yX11_rests cX11_rests 8 (some .int) 8 D k z [.ref (n 0), .int p0, .int p1] [((n 0), .inr (11, [.int mthrown, .ref (n 1), .ref (n 2), .ref (n 3), .ref (n 4), .int (nI mtaped), .ref (n 5), .int (nI msize), .int (nI mat), .int (nI mfrom), .int mtoken, .int mvalue, .int mfaultKind, .int mfaultPlace, .ref (n 6), .ref (n 7), .ref (n 8), .ref (n 9), .ref (n 10), .ref (n 11), .ref (n 12), .int (nI mmoreMany), .int mlawNow, .int mwetSet, .int moverAll, .ref (n 13), .ref (n 14), .ref (n 15), .int mones, .int mtwos, .int mgone, .ref (n 16), .ref (n 17), .int mroundNow, .ref (n 18), .long msampleFor, .long msampleAll, .ref (n 19), .int maskWorst, .long moftenAll, .long moftenView, .long moftenOnes, .ref (n 20), .ref (n 21), .ref (n 22), .ref (n 23)])), ((n 1), .inl (k 0, 99, .inl fworld)), ((n 7), .inl (k 0, 12, .inl frowOf)), ((n 8), .inl (k 0, 12, .inl fplaceOf)), ((n 9), .inl (k 0, 4, .inl ffirstOf)), ((n 10), .inl (k 0, 12, .inl fhardNow)), ((n 11), .inl (k 0, 14, .inl fmoreHead)), ((n 12), .inl (k 0, 14, .inl fmoreView)), ((n 13), .inl (k 0, 17, .inl fonesAt)), ((n 14), .inl (k 0, 17, .inl ftwosAt)), ((n 15), .inl (k 0, 17, .inl fgoneAt))] 0 0 (Ui D (fun (r : Int32) (u : (Nat → Int32) × (Nat → Nat) × (Nat → Nat → Int32) × (Nat → Nat → Int64) × (Nat → Int64)) => (u.2.1 0 ≤ 14)) (fun u : (Nat → Int32) × (Nat → Nat) × (Nat → Nat → Int32) × (Nat → Nat → Int64) × (Nat → Int64) => [((n 0), .inr (11, [.int mthrown, .ref (n 1), .ref (n 2), .ref (n 3), .ref (n 4), .int (nI mtaped), .ref (n 5), .int (nI msize), .int (nI mat), .int (nI mfrom), .int mtoken, .int mvalue, .int mfaultKind, .int mfaultPlace, .ref (n 6), .ref (n 7), .ref (n 8), .ref (n 9), .ref (n 10), .ref (n 11), .ref (n 12), .int (nI (u.2.1 0)), .int (u.1 0), .int (u.1 1), .int (u.1 2), .ref (n 13), .ref (n 14), .ref (n 15), .int (u.1 3), .int (u.1 4), .int (u.1 5), .ref (n 16), .ref (n 17), .int mroundNow, .ref (n 18), .long msampleFor, .long msampleAll, .ref (n 19), .int maskWorst, .long moftenAll, .long moftenView, .long moftenOnes, .ref (n 20), .ref (n 21), .ref (n 22), .ref (n 23)])), ((n 1), .inl (k 0, 99, .inl fworld)), ((n 7), .inl (k 0, 12, .inl (u.2.2.1 4))), ((n 8), .inl (k 0, 12, .inl (u.2.2.1 5))), ((n 9), .inl (k 0, 4, .inl (u.2.2.1 6))), ((n 10), .inl (k 0, 12, .inl (u.2.2.1 0))), ((n 11), .inl (k 0, 14, .inl fmoreHead)), ((n 12), .inl (k 0, 14, .inl fmoreView)), ((n 13), .inl (k 0, 17, .inl (u.2.2.1 1))), ((n 14), .inl (k 0, 17, .inl (u.2.2.1 2))), ((n 15), .inl (k 0, 17, .inl (u.2.2.1 3)))])) := by
  refine MU.of (by decide) (Nat.le_of_ble_eq_true rfl) ?_
  intro p e s m below meth c ls A args Q S hr hlk hnm hQ hK hP hD hZ hA hS hl
  have hx := S.1
  have hb := S.2.1
  have hl : lv_has ls 8 [(0, .ref (n 0)), (1, .int p0), (2, .int p1)] := hl
  have hbfworld := okW_bd hkworld
  refine lv_aload_n hx hb dX11_rests_0 rfl (lv_at hl 0 rfl) ?_
  refine lv_iload_n hx hb dX11_rests_1 rfl (lv_at hl 1 rfl) ?_
  refine lv_iload_n hx hb dX11_rests_2 rfl (lv_at hl 2 rfl) ?_
  refine x_roVi (As := [.int p0, .int p1]) S hK hP hD hZ (fun _ h => h) hA hS hA hl mwX11_areTwo lkX11_458 (ctX11_areTwo l D k z n mthrown mtaped msize mat mfrom mtoken mvalue mfaultKind mfaultPlace mmoreMany mlawNow mwetSet moverAll mones mtwos mgone mroundNow msampleFor msampleAll maskWorst moftenAll moftenView moftenOnes fworld p0 p1 (by omega) (by omega) (by omega) (by omega) (by omega) (hkworld)) [0, 1] rfl (by decide) rfl rfl rfl rfl rfl ⟨Nat.le_of_ble_eq_true rfl, Nat.le_of_ble_eq_true rfl, Nat.le_of_ble_eq_true rfl⟩ dX11_rests_3 ⟨Nat.le_of_ble_eq_true rfl, Nat.le_of_ble_eq_true rfl⟩ (fun r_1 H locs hr_1 hP hS => ?_)
  obtain ⟨hp_3, hz_4⟩ := hr_1
  refine lv_if_ne (tgt := 12) hx hb dX11_rests_6 (by decide) (fun c_5 => ?_) (fun c_5 => ?_)
  · skip
    obtain ⟨⟨n_6, rfl, hn_6⟩, ⟨n_7, rfl, hn_7⟩⟩ := hp_3.resolve_left c_5
    refine lv_iconst (v := 0) hx hb dX11_rests_12 (by decide) ?_
    refine lv_istore_n (lv' := [(3, .int 0), (0, .ref (n 0)), (1, .int (nI n_6)), (2, .int (nI n_7))]) hx hb dX11_rests_13 rfl hl (by decide) rfl (fun ls hl => ?_)
    refine lv_iconst (v := 0) hx hb dX11_rests_14 (by decide) ?_
    refine lv_istore (lv' := [(4, .int 0), (3, .int 0), (0, .ref (n 0)), (1, .int (nI n_6)), (2, .int (nI n_7))]) hx hb dX11_rests_15 hl (by decide) rfl (fun ls hl => ?_)
    have lp_92 : ∀ (nn j_76 : Nat) (m_77 : Nat) (x_78 : Int32) (x_79 : Int32) (x_80 : Int32) (x_81 : Int32) (x_82 : Int32) (x_83 : Int32) (g_84 : Nat → Int32) (g_85 : Nat → Int32) (g_86 : Nat → Int32) (g_87 : Nat → Int32) (g_88 : Nat → Int32) (g_89 : Nat → Int32) (g_90 : Nat → Int32) (x_91 : Int32) (H : Heap) (locs : List Loc) (ls : Array Slot), j_76 ≤ 4 → 4 - j_76 < nn → m_77 ≤ 14 → va_P D vwCl [((n 0), .inr (11, [.int mthrown, .ref (n 1), .ref (n 2), .ref (n 3), .ref (n 4), .int (nI mtaped), .ref (n 5), .int (nI msize), .int (nI mat), .int (nI mfrom), .int mtoken, .int mvalue, .int mfaultKind, .int mfaultPlace, .ref (n 6), .ref (n 7), .ref (n 8), .ref (n 9), .ref (n 10), .ref (n 11), .ref (n 12), .int (nI m_77), .int x_78, .int x_79, .int x_80, .ref (n 13), .ref (n 14), .ref (n 15), .int x_81, .int x_82, .int x_83, .ref (n 16), .ref (n 17), .int mroundNow, .ref (n 18), .long msampleFor, .long msampleAll, .ref (n 19), .int maskWorst, .long moftenAll, .long moftenView, .long moftenOnes, .ref (n 20), .ref (n 21), .ref (n 22), .ref (n 23)])), ((n 1), .inl (k 0, 99, .inl fworld)), ((n 7), .inl (k 0, 12, .inl g_84)), ((n 8), .inl (k 0, 12, .inl g_85)), ((n 9), .inl (k 0, 4, .inl g_86)), ((n 10), .inl (k 0, 12, .inl g_87)), ((n 11), .inl (k 0, 14, .inl fmoreHead)), ((n 12), .inl (k 0, 14, .inl fmoreView)), ((n 13), .inl (k 0, 17, .inl g_88)), ((n 14), .inl (k 0, 17, .inl g_89)), ((n 15), .inl (k 0, 17, .inl g_90))] H → va_D A [((n 0), .inr (11, [.int mthrown, .ref (n 1), .ref (n 2), .ref (n 3), .ref (n 4), .int (nI mtaped), .ref (n 5), .int (nI msize), .int (nI mat), .int (nI mfrom), .int mtoken, .int mvalue, .int mfaultKind, .int mfaultPlace, .ref (n 6), .ref (n 7), .ref (n 8), .ref (n 9), .ref (n 10), .ref (n 11), .ref (n 12), .int (nI m_77), .int x_78, .int x_79, .int x_80, .ref (n 13), .ref (n 14), .ref (n 15), .int x_81, .int x_82, .int x_83, .ref (n 16), .ref (n 17), .int mroundNow, .ref (n 18), .long msampleFor, .long msampleAll, .ref (n 19), .int maskWorst, .long moftenAll, .long moftenView, .long moftenOnes, .ref (n 20), .ref (n 21), .ref (n 22), .ref (n 23)])), ((n 1), .inl (k 0, 99, .inl fworld)), ((n 7), .inl (k 0, 12, .inl g_84)), ((n 8), .inl (k 0, 12, .inl g_85)), ((n 9), .inl (k 0, 4, .inl g_86)), ((n 10), .inl (k 0, 12, .inl g_87)), ((n 11), .inl (k 0, 14, .inl fmoreHead)), ((n 12), .inl (k 0, 14, .inl fmoreView)), ((n 13), .inl (k 0, 17, .inl g_88)), ((n 14), .inl (k 0, 17, .inl g_89)), ((n 15), .inl (k 0, 17, .inl g_90))] → va_S A s.heap H locs → lv_has ls 8 [(4, .int (nI j_76)), (3, .int x_91), (0, .ref (n 0)), (1, .int (nI n_6)), (2, .int (nI n_7))] → W p l e (Rm 8 0 0) s m args below meth c H locs 0 0 Q (F0 m 17 ls []) := by
      intro nn
      induction nn with
      | zero => intro j_76 m_77 x_78 x_79 x_80 x_81 x_82 x_83 g_84 g_85 g_86 g_87 g_88 g_89 g_90 x_91 H locs ls hjj_76 hnj_76 hbm_77; exact absurd hnj_76 (by omega)
      | succ nn ihj_76 =>
        intro j_76 m_77 x_78 x_79 x_80 x_81 x_82 x_83 g_84 g_85 g_86 g_87 g_88 g_89 g_90 x_91 H locs ls hjj_76 hnj_76 hbm_77 hP hD hS hl
        refine lv_iload hx hb dX11_rests_17 (lv_at hl 0 rfl) ?_
        refine lv_iconst (v := 4) hx hb dX11_rests_19 (by decide) ?_
        refine lv_icmp_ge (tgt := 118) hx hb dX11_rests_20 (by decide) (fun c_93 => ?_) (fun c_93 => ?_)
        · skip
          have c_93 : 4 ≤ j_76 := (ni_le (by decide) rfl (by omega) (by omega)).mp c_93
          refine lv_iload_n hx hb dX11_rests_118 rfl (lv_at hl 1 rfl) ?_
          exact x_reti S hr hlk hQ hS ((fun i => ([x_78, x_79, x_80, x_81, x_82, x_83] : List (Int32)).getD i 0), (fun i => ([m_77] : List (Nat)).getD i 0), (fun i => ([g_87, g_88, g_89, g_90, g_84, g_85, g_86] : List (Nat → Int32)).getD i (fun _ => 0)), (fun i => ([] : List (Nat → Int64)).getD i (fun _ => 0)), (fun i => ([] : List (Int64)).getD i 0)) (show m_77 ≤ 14 by omega) (x_B hP hD) dX11_rests_119
        · skip
          have c_93 : ¬ 4 ≤ j_76 := fun q => c_93 ((ni_le (by decide) rfl (by omega) (by omega)).mpr q)
          refine lv_iload hx hb dX11_rests_23 (lv_at hl 0 rfl) ?_
          refine lv_iconst (v := 1) hx hb dX11_rests_25 (by decide) ?_
          refine lv_iand hx hb dX11_rests_26 ?_
          refine lv_topi (fun v_94 ev_94 => ?_)
          refine lv_istore (lv' := [(5, .int v_94), (4, .int (nI j_76)), (3, .int x_91), (0, .ref (n 0)), (1, .int (nI n_6)), (2, .int (nI n_7))]) hx hb dX11_rests_27 hl (by decide) rfl (fun ls hl => ?_)
          refine lv_iload hx hb dX11_rests_29 (lv_at hl 1 rfl) ?_
          refine lv_iconst (v := 1) hx hb dX11_rests_31 (by decide) ?_
          refine lv_ishr hx hb dX11_rests_32 ?_
          refine lv_topi (fun v_95 ev_95 => ?_)
          refine lv_istore (lv' := [(6, .int v_95), (5, .int v_94), (4, .int (nI j_76)), (3, .int x_91), (0, .ref (n 0)), (1, .int (nI n_6)), (2, .int (nI n_7))]) hx hb dX11_rests_33 hl (by decide) rfl (fun ls hl => ?_)
          refine lv_aload_n hx hb dX11_rests_35 rfl (lv_at hl 4 rfl) ?_
          refine lv_iload_n hx hb dX11_rests_36 rfl (lv_at hl 5 rfl) ?_
          refine lv_iload_n hx hb dX11_rests_37 rfl (lv_at hl 6 rfl) ?_
          refine lv_iload hx hb dX11_rests_38 (lv_at hl 1 rfl) ?_
          refine lv_iload hx hb dX11_rests_40 (lv_at hl 0 rfl) ?_
          refine lv_iconst (v := 0) hx hb dX11_rests_42 (by decide) ?_
          refine x_muVi (wr := []) (As := [.int (nI n_6), .int (nI n_7), .int v_94, .int v_95, .int 0]) S hK hP hD hZ hS hA hl mwX11_getsBy lkX11_461 (ctX11_getsBy l D k z n mthrown mtaped msize mat mfrom mtoken mvalue mfaultKind mfaultPlace m_77 x_78 x_79 x_80 x_81 x_82 x_83 mroundNow msampleFor msampleAll maskWorst moftenAll moftenView moftenOnes fworld g_84 g_85 g_86 g_87 fmoreHead fmoreView g_88 g_89 g_90 n_6 n_7 v_94 v_95 0 (by omega) (by omega) (by omega) (by omega) (by omega) (hkworld) (by omega) (by omega)) [0, 1, 2, 3, 4, 5, 6, 7, 8, 9, 10] [] rfl rfl (by decide) (by decide) (by decide) rfl rfl rfl rfl rfl ⟨Nat.le_of_ble_eq_true rfl, Nat.le_of_ble_eq_true rfl, Nat.le_of_ble_eq_true rfl⟩ dX11_rests_43 ⟨Nat.le_of_ble_eq_true rfl, Nat.le_of_ble_eq_true rfl⟩ (fun r_96 u_97 H locs hr_96 hP hD hS => ?_)
          have hP : va_P D vwCl [((n 0), .inr (11, [.int mthrown, .ref (n 1), .ref (n 2), .ref (n 3), .ref (n 4), .int (nI mtaped), .ref (n 5), .int (nI msize), .int (nI mat), .int (nI mfrom), .int mtoken, .int mvalue, .int mfaultKind, .int mfaultPlace, .ref (n 6), .ref (n 7), .ref (n 8), .ref (n 9), .ref (n 10), .ref (n 11), .ref (n 12), .int (nI (u_97.2.1 0)), .int (u_97.1 0), .int (u_97.1 1), .int (u_97.1 2), .ref (n 13), .ref (n 14), .ref (n 15), .int (u_97.1 3), .int (u_97.1 4), .int (u_97.1 5), .ref (n 16), .ref (n 17), .int mroundNow, .ref (n 18), .long msampleFor, .long msampleAll, .ref (n 19), .int maskWorst, .long moftenAll, .long moftenView, .long moftenOnes, .ref (n 20), .ref (n 21), .ref (n 22), .ref (n 23)])), ((n 1), .inl (k 0, 99, .inl fworld)), ((n 7), .inl (k 0, 12, .inl (u_97.2.2.1 4))), ((n 8), .inl (k 0, 12, .inl (u_97.2.2.1 5))), ((n 9), .inl (k 0, 4, .inl (u_97.2.2.1 6))), ((n 10), .inl (k 0, 12, .inl (u_97.2.2.1 0))), ((n 11), .inl (k 0, 14, .inl fmoreHead)), ((n 12), .inl (k 0, 14, .inl fmoreView)), ((n 13), .inl (k 0, 17, .inl (u_97.2.2.1 1))), ((n 14), .inl (k 0, 17, .inl (u_97.2.2.1 2))), ((n 15), .inl (k 0, 17, .inl (u_97.2.2.1 3)))] H := hP.sub [0, 1, 2, 3, 4, 5, 6, 7, 8, 9, 10] rfl
          have hD : va_D A [((n 0), .inr (11, [.int mthrown, .ref (n 1), .ref (n 2), .ref (n 3), .ref (n 4), .int (nI mtaped), .ref (n 5), .int (nI msize), .int (nI mat), .int (nI mfrom), .int mtoken, .int mvalue, .int mfaultKind, .int mfaultPlace, .ref (n 6), .ref (n 7), .ref (n 8), .ref (n 9), .ref (n 10), .ref (n 11), .ref (n 12), .int (nI (u_97.2.1 0)), .int (u_97.1 0), .int (u_97.1 1), .int (u_97.1 2), .ref (n 13), .ref (n 14), .ref (n 15), .int (u_97.1 3), .int (u_97.1 4), .int (u_97.1 5), .ref (n 16), .ref (n 17), .int mroundNow, .ref (n 18), .long msampleFor, .long msampleAll, .ref (n 19), .int maskWorst, .long moftenAll, .long moftenView, .long moftenOnes, .ref (n 20), .ref (n 21), .ref (n 22), .ref (n 23)])), ((n 1), .inl (k 0, 99, .inl fworld)), ((n 7), .inl (k 0, 12, .inl (u_97.2.2.1 4))), ((n 8), .inl (k 0, 12, .inl (u_97.2.2.1 5))), ((n 9), .inl (k 0, 4, .inl (u_97.2.2.1 6))), ((n 10), .inl (k 0, 12, .inl (u_97.2.2.1 0))), ((n 11), .inl (k 0, 14, .inl fmoreHead)), ((n 12), .inl (k 0, 14, .inl fmoreView)), ((n 13), .inl (k 0, 17, .inl (u_97.2.2.1 1))), ((n 14), .inl (k 0, 17, .inl (u_97.2.2.1 2))), ((n 15), .inl (k 0, 17, .inl (u_97.2.2.1 3)))] := hD.sub [0, 1, 2, 3, 4, 5, 6, 7, 8, 9, 10] (by decide) rfl
          have hg_98 := hr_96
          refine lv_aload_n hx hb dX11_rests_46 rfl (lv_at hl 4 rfl) ?_
          refine lv_iload_n hx hb dX11_rests_47 rfl (lv_at hl 5 rfl) ?_
          refine lv_iload_n hx hb dX11_rests_48 rfl (lv_at hl 6 rfl) ?_
          refine lv_iconst (v := 1) hx hb dX11_rests_49 (by decide) ?_
          refine lv_iload hx hb dX11_rests_50 (lv_at hl 1 rfl) ?_
          refine lv_isub hx hb dX11_rests_52 ?_
          refine lv_topi (fun v_99 ev_99 => ?_)
          refine lv_iload hx hb dX11_rests_53 (lv_at hl 0 rfl) ?_
          refine lv_iconst (v := 0) hx hb dX11_rests_55 (by decide) ?_
          refine x_muVi (wr := []) (As := [.int (nI n_6), .int (nI n_7), .int v_99, .int v_95, .int 0]) S hK hP hD hZ hS hA hl mwX11_getsBy lkX11_461 (ctX11_getsBy l D k z n mthrown mtaped msize mat mfrom mtoken mvalue mfaultKind mfaultPlace (u_97.2.1 0) (u_97.1 0) (u_97.1 1) (u_97.1 2) (u_97.1 3) (u_97.1 4) (u_97.1 5) mroundNow msampleFor msampleAll maskWorst moftenAll moftenView moftenOnes fworld (u_97.2.2.1 4) (u_97.2.2.1 5) (u_97.2.2.1 6) (u_97.2.2.1 0) fmoreHead fmoreView (u_97.2.2.1 1) (u_97.2.2.1 2) (u_97.2.2.1 3) n_6 n_7 v_99 v_95 0 (by omega) (by omega) (by omega) (by omega) (by omega) (hkworld) (by omega) (by omega)) [0, 1, 2, 3, 4, 5, 6, 7, 8, 9, 10] [] rfl rfl (by decide) (by decide) (by decide) rfl rfl rfl rfl rfl ⟨Nat.le_of_ble_eq_true rfl, Nat.le_of_ble_eq_true rfl, Nat.le_of_ble_eq_true rfl⟩ dX11_rests_56 ⟨Nat.le_of_ble_eq_true rfl, Nat.le_of_ble_eq_true rfl⟩ (fun r_100 u_101 H locs hr_100 hP hD hS => ?_)
          have hP : va_P D vwCl [((n 0), .inr (11, [.int mthrown, .ref (n 1), .ref (n 2), .ref (n 3), .ref (n 4), .int (nI mtaped), .ref (n 5), .int (nI msize), .int (nI mat), .int (nI mfrom), .int mtoken, .int mvalue, .int mfaultKind, .int mfaultPlace, .ref (n 6), .ref (n 7), .ref (n 8), .ref (n 9), .ref (n 10), .ref (n 11), .ref (n 12), .int (nI (u_101.2.1 0)), .int (u_101.1 0), .int (u_101.1 1), .int (u_101.1 2), .ref (n 13), .ref (n 14), .ref (n 15), .int (u_101.1 3), .int (u_101.1 4), .int (u_101.1 5), .ref (n 16), .ref (n 17), .int mroundNow, .ref (n 18), .long msampleFor, .long msampleAll, .ref (n 19), .int maskWorst, .long moftenAll, .long moftenView, .long moftenOnes, .ref (n 20), .ref (n 21), .ref (n 22), .ref (n 23)])), ((n 1), .inl (k 0, 99, .inl fworld)), ((n 7), .inl (k 0, 12, .inl (u_101.2.2.1 4))), ((n 8), .inl (k 0, 12, .inl (u_101.2.2.1 5))), ((n 9), .inl (k 0, 4, .inl (u_101.2.2.1 6))), ((n 10), .inl (k 0, 12, .inl (u_101.2.2.1 0))), ((n 11), .inl (k 0, 14, .inl fmoreHead)), ((n 12), .inl (k 0, 14, .inl fmoreView)), ((n 13), .inl (k 0, 17, .inl (u_101.2.2.1 1))), ((n 14), .inl (k 0, 17, .inl (u_101.2.2.1 2))), ((n 15), .inl (k 0, 17, .inl (u_101.2.2.1 3)))] H := hP.sub [0, 1, 2, 3, 4, 5, 6, 7, 8, 9, 10] rfl
          have hD : va_D A [((n 0), .inr (11, [.int mthrown, .ref (n 1), .ref (n 2), .ref (n 3), .ref (n 4), .int (nI mtaped), .ref (n 5), .int (nI msize), .int (nI mat), .int (nI mfrom), .int mtoken, .int mvalue, .int mfaultKind, .int mfaultPlace, .ref (n 6), .ref (n 7), .ref (n 8), .ref (n 9), .ref (n 10), .ref (n 11), .ref (n 12), .int (nI (u_101.2.1 0)), .int (u_101.1 0), .int (u_101.1 1), .int (u_101.1 2), .ref (n 13), .ref (n 14), .ref (n 15), .int (u_101.1 3), .int (u_101.1 4), .int (u_101.1 5), .ref (n 16), .ref (n 17), .int mroundNow, .ref (n 18), .long msampleFor, .long msampleAll, .ref (n 19), .int maskWorst, .long moftenAll, .long moftenView, .long moftenOnes, .ref (n 20), .ref (n 21), .ref (n 22), .ref (n 23)])), ((n 1), .inl (k 0, 99, .inl fworld)), ((n 7), .inl (k 0, 12, .inl (u_101.2.2.1 4))), ((n 8), .inl (k 0, 12, .inl (u_101.2.2.1 5))), ((n 9), .inl (k 0, 4, .inl (u_101.2.2.1 6))), ((n 10), .inl (k 0, 12, .inl (u_101.2.2.1 0))), ((n 11), .inl (k 0, 14, .inl fmoreHead)), ((n 12), .inl (k 0, 14, .inl fmoreView)), ((n 13), .inl (k 0, 17, .inl (u_101.2.2.1 1))), ((n 14), .inl (k 0, 17, .inl (u_101.2.2.1 2))), ((n 15), .inl (k 0, 17, .inl (u_101.2.2.1 3)))] := hD.sub [0, 1, 2, 3, 4, 5, 6, 7, 8, 9, 10] (by decide) rfl
          have hg_102 := hr_100
          refine lv_icmp_lt (tgt := 93) hx hb dX11_rests_59 (by decide) (fun c_103 => ?_) (fun c_103 => ?_)
          · skip
            refine lv_iconst (v := 0) hx hb dX11_rests_93 (by decide) ?_
            refine lv_istore (lv' := [(7, .int 0), (6, .int v_95), (5, .int v_94), (4, .int (nI j_76)), (3, .int x_91), (0, .ref (n 0)), (1, .int (nI n_6)), (2, .int (nI n_7))]) hx hb dX11_rests_94 hl (by decide) rfl (fun ls hl => ?_)
            refine lv_iload_n hx hb dX11_rests_96 rfl (lv_at hl 4 rfl) ?_
            refine lv_iload hx hb dX11_rests_97 (lv_at hl 0 rfl) ?_
            refine lv_if_eq (tgt := 109) hx hb dX11_rests_99 (by decide) (fun c_104 => ?_) (fun c_104 => absurd (by decide) c_104)
            refine lv_iconst (v := 0) hx hb dX11_rests_109 (by decide) ?_
            refine lv_ior hx hb dX11_rests_110 ?_
            refine lv_topi (fun v_105 ev_105 => ?_)
            refine lv_istore_n (lv' := [(3, .int v_105), (7, .int 0), (6, .int v_95), (5, .int v_94), (4, .int (nI j_76)), (0, .ref (n 0)), (1, .int (nI n_6)), (2, .int (nI n_7))]) hx hb dX11_rests_111 rfl hl (by decide) rfl (fun ls hl => ?_)
            refine lv_iinc (v := (nI (j_76 + 1))) (lv' := [(4, .int (nI (j_76 + 1))), (3, .int v_105), (7, .int 0), (6, .int v_95), (5, .int v_94), (0, .ref (n 0)), (1, .int (nI n_6)), (2, .int (nI n_7))]) hx hb dX11_rests_112 hl (k := 4) rfl (ni_inc _) (by decide) rfl (fun ls hl => ?_)
            refine lv_goto (tgt := 17) hx hb dX11_rests_115 (by decide) ?_
            exact ihj_76 (j_76 + 1) (u_101.2.1 0) (u_101.1 0) (u_101.1 1) (u_101.1 2) (u_101.1 3) (u_101.1 4) (u_101.1 5) (u_101.2.2.1 4) (u_101.2.2.1 5) (u_101.2.2.1 6) (u_101.2.2.1 0) (u_101.2.2.1 1) (u_101.2.2.1 2) (u_101.2.2.1 3) v_105 _ _ _ (by omega) (by omega) (by omega) hP hD hS (lv_sub hl [0, 1, 5, 6, 7] rfl)
          · skip
            refine lv_aload_n hx hb dX11_rests_62 rfl (lv_at hl 4 rfl) ?_
            refine lv_iload_n hx hb dX11_rests_63 rfl (lv_at hl 5 rfl) ?_
            refine lv_iload_n hx hb dX11_rests_64 rfl (lv_at hl 6 rfl) ?_
            refine lv_iload hx hb dX11_rests_65 (lv_at hl 1 rfl) ?_
            refine lv_iload hx hb dX11_rests_67 (lv_at hl 0 rfl) ?_
            refine lv_iconst (v := 1) hx hb dX11_rests_69 (by decide) ?_
            refine x_muVi (wr := []) (As := [.int (nI n_6), .int (nI n_7), .int v_94, .int v_95, .int 1]) S hK hP hD hZ hS hA hl mwX11_getsBy lkX11_461 (ctX11_getsBy l D k z n mthrown mtaped msize mat mfrom mtoken mvalue mfaultKind mfaultPlace (u_101.2.1 0) (u_101.1 0) (u_101.1 1) (u_101.1 2) (u_101.1 3) (u_101.1 4) (u_101.1 5) mroundNow msampleFor msampleAll maskWorst moftenAll moftenView moftenOnes fworld (u_101.2.2.1 4) (u_101.2.2.1 5) (u_101.2.2.1 6) (u_101.2.2.1 0) fmoreHead fmoreView (u_101.2.2.1 1) (u_101.2.2.1 2) (u_101.2.2.1 3) n_6 n_7 v_94 v_95 1 (by omega) (by omega) (by omega) (by omega) (by omega) (hkworld) (by omega) (by omega)) [0, 1, 2, 3, 4, 5, 6, 7, 8, 9, 10] [] rfl rfl (by decide) (by decide) (by decide) rfl rfl rfl rfl rfl ⟨Nat.le_of_ble_eq_true rfl, Nat.le_of_ble_eq_true rfl, Nat.le_of_ble_eq_true rfl⟩ dX11_rests_70 ⟨Nat.le_of_ble_eq_true rfl, Nat.le_of_ble_eq_true rfl⟩ (fun r_106 u_107 H locs hr_106 hP hD hS => ?_)
            have hP : va_P D vwCl [((n 0), .inr (11, [.int mthrown, .ref (n 1), .ref (n 2), .ref (n 3), .ref (n 4), .int (nI mtaped), .ref (n 5), .int (nI msize), .int (nI mat), .int (nI mfrom), .int mtoken, .int mvalue, .int mfaultKind, .int mfaultPlace, .ref (n 6), .ref (n 7), .ref (n 8), .ref (n 9), .ref (n 10), .ref (n 11), .ref (n 12), .int (nI (u_107.2.1 0)), .int (u_107.1 0), .int (u_107.1 1), .int (u_107.1 2), .ref (n 13), .ref (n 14), .ref (n 15), .int (u_107.1 3), .int (u_107.1 4), .int (u_107.1 5), .ref (n 16), .ref (n 17), .int mroundNow, .ref (n 18), .long msampleFor, .long msampleAll, .ref (n 19), .int maskWorst, .long moftenAll, .long moftenView, .long moftenOnes, .ref (n 20), .ref (n 21), .ref (n 22), .ref (n 23)])), ((n 1), .inl (k 0, 99, .inl fworld)), ((n 7), .inl (k 0, 12, .inl (u_107.2.2.1 4))), ((n 8), .inl (k 0, 12, .inl (u_107.2.2.1 5))), ((n 9), .inl (k 0, 4, .inl (u_107.2.2.1 6))), ((n 10), .inl (k 0, 12, .inl (u_107.2.2.1 0))), ((n 11), .inl (k 0, 14, .inl fmoreHead)), ((n 12), .inl (k 0, 14, .inl fmoreView)), ((n 13), .inl (k 0, 17, .inl (u_107.2.2.1 1))), ((n 14), .inl (k 0, 17, .inl (u_107.2.2.1 2))), ((n 15), .inl (k 0, 17, .inl (u_107.2.2.1 3)))] H := hP.sub [0, 1, 2, 3, 4, 5, 6, 7, 8, 9, 10] rfl
            have hD : va_D A [((n 0), .inr (11, [.int mthrown, .ref (n 1), .ref (n 2), .ref (n 3), .ref (n 4), .int (nI mtaped), .ref (n 5), .int (nI msize), .int (nI mat), .int (nI mfrom), .int mtoken, .int mvalue, .int mfaultKind, .int mfaultPlace, .ref (n 6), .ref (n 7), .ref (n 8), .ref (n 9), .ref (n 10), .ref (n 11), .ref (n 12), .int (nI (u_107.2.1 0)), .int (u_107.1 0), .int (u_107.1 1), .int (u_107.1 2), .ref (n 13), .ref (n 14), .ref (n 15), .int (u_107.1 3), .int (u_107.1 4), .int (u_107.1 5), .ref (n 16), .ref (n 17), .int mroundNow, .ref (n 18), .long msampleFor, .long msampleAll, .ref (n 19), .int maskWorst, .long moftenAll, .long moftenView, .long moftenOnes, .ref (n 20), .ref (n 21), .ref (n 22), .ref (n 23)])), ((n 1), .inl (k 0, 99, .inl fworld)), ((n 7), .inl (k 0, 12, .inl (u_107.2.2.1 4))), ((n 8), .inl (k 0, 12, .inl (u_107.2.2.1 5))), ((n 9), .inl (k 0, 4, .inl (u_107.2.2.1 6))), ((n 10), .inl (k 0, 12, .inl (u_107.2.2.1 0))), ((n 11), .inl (k 0, 14, .inl fmoreHead)), ((n 12), .inl (k 0, 14, .inl fmoreView)), ((n 13), .inl (k 0, 17, .inl (u_107.2.2.1 1))), ((n 14), .inl (k 0, 17, .inl (u_107.2.2.1 2))), ((n 15), .inl (k 0, 17, .inl (u_107.2.2.1 3)))] := hD.sub [0, 1, 2, 3, 4, 5, 6, 7, 8, 9, 10] (by decide) rfl
            have hg_108 := hr_106
            refine lv_aload_n hx hb dX11_rests_73 rfl (lv_at hl 4 rfl) ?_
            refine lv_iload_n hx hb dX11_rests_74 rfl (lv_at hl 5 rfl) ?_
            refine lv_iload_n hx hb dX11_rests_75 rfl (lv_at hl 6 rfl) ?_
            refine lv_iload hx hb dX11_rests_76 (lv_at hl 1 rfl) ?_
            refine lv_iconst (v := 1) hx hb dX11_rests_78 (by decide) ?_
            refine lv_iload hx hb dX11_rests_79 (lv_at hl 0 rfl) ?_
            refine lv_isub hx hb dX11_rests_81 ?_
            refine lv_topi (fun v_109 ev_109 => ?_)
            refine lv_iconst (v := 1) hx hb dX11_rests_82 (by decide) ?_
            refine x_muVi (wr := []) (As := [.int (nI n_6), .int (nI n_7), .int v_94, .int v_109, .int 1]) S hK hP hD hZ hS hA hl mwX11_getsBy lkX11_461 (ctX11_getsBy l D k z n mthrown mtaped msize mat mfrom mtoken mvalue mfaultKind mfaultPlace (u_107.2.1 0) (u_107.1 0) (u_107.1 1) (u_107.1 2) (u_107.1 3) (u_107.1 4) (u_107.1 5) mroundNow msampleFor msampleAll maskWorst moftenAll moftenView moftenOnes fworld (u_107.2.2.1 4) (u_107.2.2.1 5) (u_107.2.2.1 6) (u_107.2.2.1 0) fmoreHead fmoreView (u_107.2.2.1 1) (u_107.2.2.1 2) (u_107.2.2.1 3) n_6 n_7 v_94 v_109 1 (by omega) (by omega) (by omega) (by omega) (by omega) (hkworld) (by omega) (by omega)) [0, 1, 2, 3, 4, 5, 6, 7, 8, 9, 10] [] rfl rfl (by decide) (by decide) (by decide) rfl rfl rfl rfl rfl ⟨Nat.le_of_ble_eq_true rfl, Nat.le_of_ble_eq_true rfl, Nat.le_of_ble_eq_true rfl⟩ dX11_rests_83 ⟨Nat.le_of_ble_eq_true rfl, Nat.le_of_ble_eq_true rfl⟩ (fun r_110 u_111 H locs hr_110 hP hD hS => ?_)
            have hP : va_P D vwCl [((n 0), .inr (11, [.int mthrown, .ref (n 1), .ref (n 2), .ref (n 3), .ref (n 4), .int (nI mtaped), .ref (n 5), .int (nI msize), .int (nI mat), .int (nI mfrom), .int mtoken, .int mvalue, .int mfaultKind, .int mfaultPlace, .ref (n 6), .ref (n 7), .ref (n 8), .ref (n 9), .ref (n 10), .ref (n 11), .ref (n 12), .int (nI (u_111.2.1 0)), .int (u_111.1 0), .int (u_111.1 1), .int (u_111.1 2), .ref (n 13), .ref (n 14), .ref (n 15), .int (u_111.1 3), .int (u_111.1 4), .int (u_111.1 5), .ref (n 16), .ref (n 17), .int mroundNow, .ref (n 18), .long msampleFor, .long msampleAll, .ref (n 19), .int maskWorst, .long moftenAll, .long moftenView, .long moftenOnes, .ref (n 20), .ref (n 21), .ref (n 22), .ref (n 23)])), ((n 1), .inl (k 0, 99, .inl fworld)), ((n 7), .inl (k 0, 12, .inl (u_111.2.2.1 4))), ((n 8), .inl (k 0, 12, .inl (u_111.2.2.1 5))), ((n 9), .inl (k 0, 4, .inl (u_111.2.2.1 6))), ((n 10), .inl (k 0, 12, .inl (u_111.2.2.1 0))), ((n 11), .inl (k 0, 14, .inl fmoreHead)), ((n 12), .inl (k 0, 14, .inl fmoreView)), ((n 13), .inl (k 0, 17, .inl (u_111.2.2.1 1))), ((n 14), .inl (k 0, 17, .inl (u_111.2.2.1 2))), ((n 15), .inl (k 0, 17, .inl (u_111.2.2.1 3)))] H := hP.sub [0, 1, 2, 3, 4, 5, 6, 7, 8, 9, 10] rfl
            have hD : va_D A [((n 0), .inr (11, [.int mthrown, .ref (n 1), .ref (n 2), .ref (n 3), .ref (n 4), .int (nI mtaped), .ref (n 5), .int (nI msize), .int (nI mat), .int (nI mfrom), .int mtoken, .int mvalue, .int mfaultKind, .int mfaultPlace, .ref (n 6), .ref (n 7), .ref (n 8), .ref (n 9), .ref (n 10), .ref (n 11), .ref (n 12), .int (nI (u_111.2.1 0)), .int (u_111.1 0), .int (u_111.1 1), .int (u_111.1 2), .ref (n 13), .ref (n 14), .ref (n 15), .int (u_111.1 3), .int (u_111.1 4), .int (u_111.1 5), .ref (n 16), .ref (n 17), .int mroundNow, .ref (n 18), .long msampleFor, .long msampleAll, .ref (n 19), .int maskWorst, .long moftenAll, .long moftenView, .long moftenOnes, .ref (n 20), .ref (n 21), .ref (n 22), .ref (n 23)])), ((n 1), .inl (k 0, 99, .inl fworld)), ((n 7), .inl (k 0, 12, .inl (u_111.2.2.1 4))), ((n 8), .inl (k 0, 12, .inl (u_111.2.2.1 5))), ((n 9), .inl (k 0, 4, .inl (u_111.2.2.1 6))), ((n 10), .inl (k 0, 12, .inl (u_111.2.2.1 0))), ((n 11), .inl (k 0, 14, .inl fmoreHead)), ((n 12), .inl (k 0, 14, .inl fmoreView)), ((n 13), .inl (k 0, 17, .inl (u_111.2.2.1 1))), ((n 14), .inl (k 0, 17, .inl (u_111.2.2.1 2))), ((n 15), .inl (k 0, 17, .inl (u_111.2.2.1 3)))] := hD.sub [0, 1, 2, 3, 4, 5, 6, 7, 8, 9, 10] (by decide) rfl
            have hg_112 := hr_110
            refine lv_icmp_lt (tgt := 93) hx hb dX11_rests_86 (by decide) (fun c_113 => ?_) (fun c_113 => ?_)
            · skip
              refine lv_iconst (v := 0) hx hb dX11_rests_93 (by decide) ?_
              refine lv_istore (lv' := [(7, .int 0), (6, .int v_95), (5, .int v_94), (4, .int (nI j_76)), (3, .int x_91), (0, .ref (n 0)), (1, .int (nI n_6)), (2, .int (nI n_7))]) hx hb dX11_rests_94 hl (by decide) rfl (fun ls hl => ?_)
              refine lv_iload_n hx hb dX11_rests_96 rfl (lv_at hl 4 rfl) ?_
              refine lv_iload hx hb dX11_rests_97 (lv_at hl 0 rfl) ?_
              refine lv_if_eq (tgt := 109) hx hb dX11_rests_99 (by decide) (fun c_114 => ?_) (fun c_114 => absurd (by decide) c_114)
              refine lv_iconst (v := 0) hx hb dX11_rests_109 (by decide) ?_
              refine lv_ior hx hb dX11_rests_110 ?_
              refine lv_topi (fun v_115 ev_115 => ?_)
              refine lv_istore_n (lv' := [(3, .int v_115), (7, .int 0), (6, .int v_95), (5, .int v_94), (4, .int (nI j_76)), (0, .ref (n 0)), (1, .int (nI n_6)), (2, .int (nI n_7))]) hx hb dX11_rests_111 rfl hl (by decide) rfl (fun ls hl => ?_)
              refine lv_iinc (v := (nI (j_76 + 1))) (lv' := [(4, .int (nI (j_76 + 1))), (3, .int v_115), (7, .int 0), (6, .int v_95), (5, .int v_94), (0, .ref (n 0)), (1, .int (nI n_6)), (2, .int (nI n_7))]) hx hb dX11_rests_112 hl (k := 4) rfl (ni_inc _) (by decide) rfl (fun ls hl => ?_)
              refine lv_goto (tgt := 17) hx hb dX11_rests_115 (by decide) ?_
              exact ihj_76 (j_76 + 1) (u_111.2.1 0) (u_111.1 0) (u_111.1 1) (u_111.1 2) (u_111.1 3) (u_111.1 4) (u_111.1 5) (u_111.2.2.1 4) (u_111.2.2.1 5) (u_111.2.2.1 6) (u_111.2.2.1 0) (u_111.2.2.1 1) (u_111.2.2.1 2) (u_111.2.2.1 3) v_115 _ _ _ (by omega) (by omega) (by omega) hP hD hS (lv_sub hl [0, 1, 5, 6, 7] rfl)
            · skip
              refine lv_iconst (v := 1) hx hb dX11_rests_89 (by decide) ?_
              refine lv_goto (tgt := 94) hx hb dX11_rests_90 (by decide) ?_
              refine lv_istore (lv' := [(7, .int 1), (6, .int v_95), (5, .int v_94), (4, .int (nI j_76)), (3, .int x_91), (0, .ref (n 0)), (1, .int (nI n_6)), (2, .int (nI n_7))]) hx hb dX11_rests_94 hl (by decide) rfl (fun ls hl => ?_)
              refine lv_iload_n hx hb dX11_rests_96 rfl (lv_at hl 4 rfl) ?_
              refine lv_iload hx hb dX11_rests_97 (lv_at hl 0 rfl) ?_
              refine lv_if_eq (tgt := 109) hx hb dX11_rests_99 (by decide) (fun c_116 => absurd c_116 (by decide)) (fun c_116 => ?_)
              refine lv_iconst (v := 1) hx hb dX11_rests_102 (by decide) ?_
              refine lv_iload hx hb dX11_rests_103 (lv_at hl 3 rfl) ?_
              refine lv_ishl hx hb dX11_rests_105 ?_
              refine lv_topi (fun v_117 ev_117 => ?_)
              refine lv_goto (tgt := 110) hx hb dX11_rests_106 (by decide) ?_
              refine lv_ior hx hb dX11_rests_110 ?_
              refine lv_topi (fun v_118 ev_118 => ?_)
              refine lv_istore_n (lv' := [(3, .int v_118), (7, .int 1), (6, .int v_95), (5, .int v_94), (4, .int (nI j_76)), (0, .ref (n 0)), (1, .int (nI n_6)), (2, .int (nI n_7))]) hx hb dX11_rests_111 rfl hl (by decide) rfl (fun ls hl => ?_)
              refine lv_iinc (v := (nI (j_76 + 1))) (lv' := [(4, .int (nI (j_76 + 1))), (3, .int v_118), (7, .int 1), (6, .int v_95), (5, .int v_94), (0, .ref (n 0)), (1, .int (nI n_6)), (2, .int (nI n_7))]) hx hb dX11_rests_112 hl (k := 4) rfl (ni_inc _) (by decide) rfl (fun ls hl => ?_)
              refine lv_goto (tgt := 17) hx hb dX11_rests_115 (by decide) ?_
              exact ihj_76 (j_76 + 1) (u_111.2.1 0) (u_111.1 0) (u_111.1 1) (u_111.1 2) (u_111.1 3) (u_111.1 4) (u_111.1 5) (u_111.2.2.1 4) (u_111.2.2.1 5) (u_111.2.2.1 6) (u_111.2.2.1 0) (u_111.2.2.1 1) (u_111.2.2.1 2) (u_111.2.2.1 3) v_118 _ _ _ (by omega) (by omega) (by omega) hP hD hS (lv_sub hl [0, 1, 5, 6, 7] rfl)
    exact lp_92 (4 + 1) 0 mmoreMany mlawNow mwetSet moverAll mones mtwos mgone frowOf fplaceOf ffirstOf fhardNow fonesAt ftwosAt fgoneAt 0 _ _ _ (by omega) (by omega) (by omega) hP hD hS (lv_sub hl [0, 1, 2, 3, 4] rfl)
  · skip
    refine lv_bipush (v := (-2)) hx hb dX11_rests_9 (by decide) ?_
    exact x_reti S hr hlk hQ hS ((fun i => ([mlawNow, mwetSet, moverAll, mones, mtwos, mgone] : List (Int32)).getD i 0), (fun i => ([mmoreMany] : List (Nat)).getD i 0), (fun i => ([fhardNow, fonesAt, ftwosAt, fgoneAt, frowOf, fplaceOf, ffirstOf] : List (Nat → Int32)).getD i (fun _ => 0)), (fun i => ([] : List (Nat → Int64)).getD i (fun _ => 0)), (fun i => ([] : List (Int64)).getD i 0)) (show mmoreMany ≤ 14 by omega) (x_B hP hD) dX11_rests_11

set_option maxHeartbeats 4000000 in
set_option maxRecDepth 100000 in
theorem ctX11_gets (l : Launch) (D : va_G) (k : Nat → ClassId) (z : Nat → Nat) (n : Nat → Nat) (mthrown : Int32) (mtaped : Nat) (msize : Nat) (mat : Nat) (mfrom : Nat) (mtoken : Int32) (mvalue : Int32) (mfaultKind : Int32) (mfaultPlace : Int32) (mmoreMany : Nat) (mlawNow : Int32) (mwetSet : Int32) (moverAll : Int32) (mones : Int32) (mtwos : Int32) (mgone : Int32) (mroundNow : Int32) (msampleFor : Int64) (msampleAll : Int64) (maskWorst : Int32) (moftenAll : Int64) (moftenView : Int64) (moftenOnes : Int64) (fworld : Nat → Int32) (frowOf : Nat → Int32) (fplaceOf : Nat → Int32) (ffirstOf : Nat → Int32) (fhardNow : Nat → Int32) (fmoreHead : Nat → Int32) (fmoreView : Nat → Int32) (fonesAt : Nat → Int32) (ftwosAt : Nat → Int32) (fgoneAt : Nat → Int32) (p0 : Int32) (p1 : Int32) (p2 : Int32) (p3 : Int32) (hmtaped : mtaped ≤ 600) (hmsize : msize ≤ 600) (hmat : mat ≤ 600) (hmfrom : mfrom ≤ 600) (hmmoreMany : mmoreMany ≤ 14) (hkworld : okW fworld) : MU l yX11_gets cX11_gets 5 (some .int) 8 D k z [.ref (n 0), .int p0, .int p1, .int p2, .int p3] [((n 0), .inr (11, [.int mthrown, .ref (n 1), .ref (n 2), .ref (n 3), .ref (n 4), .int (nI mtaped), .ref (n 5), .int (nI msize), .int (nI mat), .int (nI mfrom), .int mtoken, .int mvalue, .int mfaultKind, .int mfaultPlace, .ref (n 6), .ref (n 7), .ref (n 8), .ref (n 9), .ref (n 10), .ref (n 11), .ref (n 12), .int (nI mmoreMany), .int mlawNow, .int mwetSet, .int moverAll, .ref (n 13), .ref (n 14), .ref (n 15), .int mones, .int mtwos, .int mgone, .ref (n 16), .ref (n 17), .int mroundNow, .ref (n 18), .long msampleFor, .long msampleAll, .ref (n 19), .int maskWorst, .long moftenAll, .long moftenView, .long moftenOnes, .ref (n 20), .ref (n 21), .ref (n 22), .ref (n 23)])), ((n 1), .inl (k 0, 99, .inl fworld)), ((n 7), .inl (k 0, 12, .inl frowOf)), ((n 8), .inl (k 0, 12, .inl fplaceOf)), ((n 9), .inl (k 0, 4, .inl ffirstOf)), ((n 10), .inl (k 0, 12, .inl fhardNow)), ((n 11), .inl (k 0, 14, .inl fmoreHead)), ((n 12), .inl (k 0, 14, .inl fmoreView)), ((n 13), .inl (k 0, 17, .inl fonesAt)), ((n 14), .inl (k 0, 17, .inl ftwosAt)), ((n 15), .inl (k 0, 17, .inl fgoneAt))] 0 0 (Ui D (fun (r : Int32) (u : (Nat → Int32) × (Nat → Nat) × (Nat → Nat → Int32) × (Nat → Nat → Int64) × (Nat → Int64)) => (u.2.1 0 ≤ 14)) (fun u : (Nat → Int32) × (Nat → Nat) × (Nat → Nat → Int32) × (Nat → Nat → Int64) × (Nat → Int64) => [((n 0), .inr (11, [.int mthrown, .ref (n 1), .ref (n 2), .ref (n 3), .ref (n 4), .int (nI mtaped), .ref (n 5), .int (nI msize), .int (nI mat), .int (nI mfrom), .int mtoken, .int mvalue, .int mfaultKind, .int mfaultPlace, .ref (n 6), .ref (n 7), .ref (n 8), .ref (n 9), .ref (n 10), .ref (n 11), .ref (n 12), .int (nI (u.2.1 0)), .int (u.1 0), .int (u.1 1), .int (u.1 2), .ref (n 13), .ref (n 14), .ref (n 15), .int (u.1 3), .int (u.1 4), .int (u.1 5), .ref (n 16), .ref (n 17), .int mroundNow, .ref (n 18), .long msampleFor, .long msampleAll, .ref (n 19), .int maskWorst, .long moftenAll, .long moftenView, .long moftenOnes, .ref (n 20), .ref (n 21), .ref (n 22), .ref (n 23)])), ((n 1), .inl (k 0, 99, .inl fworld)), ((n 7), .inl (k 0, 12, .inl (u.2.2.1 4))), ((n 8), .inl (k 0, 12, .inl (u.2.2.1 5))), ((n 9), .inl (k 0, 4, .inl (u.2.2.1 6))), ((n 10), .inl (k 0, 12, .inl (u.2.2.1 0))), ((n 11), .inl (k 0, 14, .inl fmoreHead)), ((n 12), .inl (k 0, 14, .inl fmoreView)), ((n 13), .inl (k 0, 17, .inl (u.2.2.1 1))), ((n 14), .inl (k 0, 17, .inl (u.2.2.1 2))), ((n 15), .inl (k 0, 17, .inl (u.2.2.1 3)))])) := by
  refine MU.of (by decide) (Nat.le_of_ble_eq_true rfl) ?_
  intro p e s m below meth c ls A args Q S hr hlk hnm hQ hK hP hD hZ hA hS hl
  have hx := S.1
  have hb := S.2.1
  have hl : lv_has ls 5 [(0, .ref (n 0)), (1, .int p0), (2, .int p1), (3, .int p2), (4, .int p3)] := hl
  have hbfworld := okW_bd hkworld
  refine lv_aload_n hx hb dX11_gets_0 rfl (lv_at hl 0 rfl) ?_
  refine lv_iload_n hx hb dX11_gets_1 rfl (lv_at hl 1 rfl) ?_
  refine lv_iload_n hx hb dX11_gets_2 rfl (lv_at hl 2 rfl) ?_
  refine x_roVi (As := [.int p0, .int p1]) S hK hP hD hZ (fun _ h => h) hA hS hA hl mwX11_areTwo lkX11_458 (ctX11_areTwo l D k z n mthrown mtaped msize mat mfrom mtoken mvalue mfaultKind mfaultPlace mmoreMany mlawNow mwetSet moverAll mones mtwos mgone mroundNow msampleFor msampleAll maskWorst moftenAll moftenView moftenOnes fworld p0 p1 (by omega) (by omega) (by omega) (by omega) (by omega) (hkworld)) [0, 1] rfl (by decide) rfl rfl rfl rfl rfl ⟨Nat.le_of_ble_eq_true rfl, Nat.le_of_ble_eq_true rfl, Nat.le_of_ble_eq_true rfl⟩ dX11_gets_3 ⟨Nat.le_of_ble_eq_true rfl, Nat.le_of_ble_eq_true rfl⟩ (fun r_1 H locs hr_1 hP hS => ?_)
  obtain ⟨hp_3, hz_4⟩ := hr_1
  refine lv_if_eq (tgt := 43) hx hb dX11_gets_6 (by decide) (fun c_5 => ?_) (fun c_5 => ?_)
  · skip
    refine lv_sipush (v := (-1000)) hx hb dX11_gets_43 (by decide) ?_
    exact x_reti S hr hlk hQ hS ((fun i => ([mlawNow, mwetSet, moverAll, mones, mtwos, mgone] : List (Int32)).getD i 0), (fun i => ([mmoreMany] : List (Nat)).getD i 0), (fun i => ([fhardNow, fonesAt, ftwosAt, fgoneAt, frowOf, fplaceOf, ffirstOf] : List (Nat → Int32)).getD i (fun _ => 0)), (fun i => ([] : List (Nat → Int64)).getD i (fun _ => 0)), (fun i => ([] : List (Int64)).getD i 0)) (show mmoreMany ≤ 14 by omega) (x_B hP hD) dX11_gets_46
  · skip
    obtain ⟨⟨n_6, rfl, hn_6⟩, ⟨n_7, rfl, hn_7⟩⟩ := hp_3.resolve_left c_5
    refine lv_iload_n hx hb dX11_gets_9 rfl (lv_at hl 3 rfl) ?_
    refine lv_i2l (v := p2.toInt64) hx hb dX11_gets_10 rfl ?_
    refine lv_lconst (v := 0) hx hb dX11_gets_11 (by decide) ?_
    refine lv_lconst (v := 1) hx hb dX11_gets_12 (by decide) ?_
    refine x_roSi (As := [.long p2.toInt64, .long 0, .long 1]) S hK hP hD hZ (fun _ h => h) hA hS hA hl mwX11_in lkX11_91 (ctX11_in l D k z p2.toInt64 0 1 ) [] rfl (by decide) rfl rfl ⟨Nat.le_of_ble_eq_true rfl, Nat.le_of_ble_eq_true rfl, Nat.le_of_ble_eq_true rfl⟩ dX11_gets_13 ⟨Nat.le_of_ble_eq_true rfl, Nat.le_of_ble_eq_true rfl⟩ (fun r_8 H locs hr_8 hP hS => ?_)
    obtain rfl := hr_8
    refine lv_if_eq (tgt := 43) hx hb dX11_gets_16 (by decide) (fun c_10 => ?_) (fun c_10 => ?_)
    · skip
      have c_10 : ¬ (0 ≤ p2.toInt64 ∧ p2.toInt64 ≤ 1) := bo_0.mp c_10
      refine lv_sipush (v := (-1000)) hx hb dX11_gets_43 (by decide) ?_
      exact x_reti S hr hlk hQ hS ((fun i => ([mlawNow, mwetSet, moverAll, mones, mtwos, mgone] : List (Int32)).getD i 0), (fun i => ([mmoreMany] : List (Nat)).getD i 0), (fun i => ([fhardNow, fonesAt, ftwosAt, fgoneAt, frowOf, fplaceOf, ffirstOf] : List (Nat → Int32)).getD i (fun _ => 0)), (fun i => ([] : List (Nat → Int64)).getD i (fun _ => 0)), (fun i => ([] : List (Int64)).getD i 0)) (show mmoreMany ≤ 14 by omega) (x_B hP hD) dX11_gets_46
    · skip
      have c_10 : 0 ≤ p2.toInt64 ∧ p2.toInt64 ≤ 1 := bo_1.mp c_10
      refine lv_iload hx hb dX11_gets_19 (lv_at hl 4 rfl) ?_
      refine lv_i2l (v := p3.toInt64) hx hb dX11_gets_21 rfl ?_
      refine lv_lconst (v := 0) hx hb dX11_gets_22 (by decide) ?_
      refine lv_lconst (v := 1) hx hb dX11_gets_23 (by decide) ?_
      refine x_roSi (As := [.long p3.toInt64, .long 0, .long 1]) S hK hP hD hZ (fun _ h => h) hA hS hA hl mwX11_in lkX11_91 (ctX11_in l D k z p3.toInt64 0 1 ) [] rfl (by decide) rfl rfl ⟨Nat.le_of_ble_eq_true rfl, Nat.le_of_ble_eq_true rfl, Nat.le_of_ble_eq_true rfl⟩ dX11_gets_24 ⟨Nat.le_of_ble_eq_true rfl, Nat.le_of_ble_eq_true rfl⟩ (fun r_11 H locs hr_11 hP hS => ?_)
      obtain rfl := hr_11
      refine lv_if_eq (tgt := 43) hx hb dX11_gets_27 (by decide) (fun c_13 => ?_) (fun c_13 => ?_)
      · skip
        have c_13 : ¬ (0 ≤ p3.toInt64 ∧ p3.toInt64 ≤ 1) := bo_0.mp c_13
        refine lv_sipush (v := (-1000)) hx hb dX11_gets_43 (by decide) ?_
        exact x_reti S hr hlk hQ hS ((fun i => ([mlawNow, mwetSet, moverAll, mones, mtwos, mgone] : List (Int32)).getD i 0), (fun i => ([mmoreMany] : List (Nat)).getD i 0), (fun i => ([fhardNow, fonesAt, ftwosAt, fgoneAt, frowOf, fplaceOf, ffirstOf] : List (Nat → Int32)).getD i (fun _ => 0)), (fun i => ([] : List (Nat → Int64)).getD i (fun _ => 0)), (fun i => ([] : List (Int64)).getD i 0)) (show mmoreMany ≤ 14 by omega) (x_B hP hD) dX11_gets_46
      · skip
        have c_13 : 0 ≤ p3.toInt64 ∧ p3.toInt64 ≤ 1 := bo_1.mp c_13
        refine lv_aload_n hx hb dX11_gets_30 rfl (lv_at hl 0 rfl) ?_
        refine lv_iload_n hx hb dX11_gets_31 rfl (lv_at hl 1 rfl) ?_
        refine lv_iload_n hx hb dX11_gets_32 rfl (lv_at hl 2 rfl) ?_
        refine lv_iload_n hx hb dX11_gets_33 rfl (lv_at hl 3 rfl) ?_
        refine lv_iload hx hb dX11_gets_34 (lv_at hl 4 rfl) ?_
        refine lv_iconst (v := 0) hx hb dX11_gets_36 (by decide) ?_
        refine x_muVi (wr := []) (As := [.int (nI n_6), .int (nI n_7), .int p2, .int p3, .int 0]) S hK hP hD hZ hS hA hl mwX11_getsBy lkX11_461 (ctX11_getsBy l D k z n mthrown mtaped msize mat mfrom mtoken mvalue mfaultKind mfaultPlace mmoreMany mlawNow mwetSet moverAll mones mtwos mgone mroundNow msampleFor msampleAll maskWorst moftenAll moftenView moftenOnes fworld frowOf fplaceOf ffirstOf fhardNow fmoreHead fmoreView fonesAt ftwosAt fgoneAt n_6 n_7 p2 p3 0 (by omega) (by omega) (by omega) (by omega) (by omega) (hkworld) (by omega) (by omega)) [0, 1, 2, 3, 4, 5, 6, 7, 8, 9, 10] [] rfl rfl (by decide) (by decide) (by decide) rfl rfl rfl rfl rfl ⟨Nat.le_of_ble_eq_true rfl, Nat.le_of_ble_eq_true rfl, Nat.le_of_ble_eq_true rfl⟩ dX11_gets_37 ⟨Nat.le_of_ble_eq_true rfl, Nat.le_of_ble_eq_true rfl⟩ (fun r_14 u_15 H locs hr_14 hP hD hS => ?_)
        have hP : va_P D vwCl [((n 0), .inr (11, [.int mthrown, .ref (n 1), .ref (n 2), .ref (n 3), .ref (n 4), .int (nI mtaped), .ref (n 5), .int (nI msize), .int (nI mat), .int (nI mfrom), .int mtoken, .int mvalue, .int mfaultKind, .int mfaultPlace, .ref (n 6), .ref (n 7), .ref (n 8), .ref (n 9), .ref (n 10), .ref (n 11), .ref (n 12), .int (nI (u_15.2.1 0)), .int (u_15.1 0), .int (u_15.1 1), .int (u_15.1 2), .ref (n 13), .ref (n 14), .ref (n 15), .int (u_15.1 3), .int (u_15.1 4), .int (u_15.1 5), .ref (n 16), .ref (n 17), .int mroundNow, .ref (n 18), .long msampleFor, .long msampleAll, .ref (n 19), .int maskWorst, .long moftenAll, .long moftenView, .long moftenOnes, .ref (n 20), .ref (n 21), .ref (n 22), .ref (n 23)])), ((n 1), .inl (k 0, 99, .inl fworld)), ((n 7), .inl (k 0, 12, .inl (u_15.2.2.1 4))), ((n 8), .inl (k 0, 12, .inl (u_15.2.2.1 5))), ((n 9), .inl (k 0, 4, .inl (u_15.2.2.1 6))), ((n 10), .inl (k 0, 12, .inl (u_15.2.2.1 0))), ((n 11), .inl (k 0, 14, .inl fmoreHead)), ((n 12), .inl (k 0, 14, .inl fmoreView)), ((n 13), .inl (k 0, 17, .inl (u_15.2.2.1 1))), ((n 14), .inl (k 0, 17, .inl (u_15.2.2.1 2))), ((n 15), .inl (k 0, 17, .inl (u_15.2.2.1 3)))] H := hP.sub [0, 1, 2, 3, 4, 5, 6, 7, 8, 9, 10] rfl
        have hD : va_D A [((n 0), .inr (11, [.int mthrown, .ref (n 1), .ref (n 2), .ref (n 3), .ref (n 4), .int (nI mtaped), .ref (n 5), .int (nI msize), .int (nI mat), .int (nI mfrom), .int mtoken, .int mvalue, .int mfaultKind, .int mfaultPlace, .ref (n 6), .ref (n 7), .ref (n 8), .ref (n 9), .ref (n 10), .ref (n 11), .ref (n 12), .int (nI (u_15.2.1 0)), .int (u_15.1 0), .int (u_15.1 1), .int (u_15.1 2), .ref (n 13), .ref (n 14), .ref (n 15), .int (u_15.1 3), .int (u_15.1 4), .int (u_15.1 5), .ref (n 16), .ref (n 17), .int mroundNow, .ref (n 18), .long msampleFor, .long msampleAll, .ref (n 19), .int maskWorst, .long moftenAll, .long moftenView, .long moftenOnes, .ref (n 20), .ref (n 21), .ref (n 22), .ref (n 23)])), ((n 1), .inl (k 0, 99, .inl fworld)), ((n 7), .inl (k 0, 12, .inl (u_15.2.2.1 4))), ((n 8), .inl (k 0, 12, .inl (u_15.2.2.1 5))), ((n 9), .inl (k 0, 4, .inl (u_15.2.2.1 6))), ((n 10), .inl (k 0, 12, .inl (u_15.2.2.1 0))), ((n 11), .inl (k 0, 14, .inl fmoreHead)), ((n 12), .inl (k 0, 14, .inl fmoreView)), ((n 13), .inl (k 0, 17, .inl (u_15.2.2.1 1))), ((n 14), .inl (k 0, 17, .inl (u_15.2.2.1 2))), ((n 15), .inl (k 0, 17, .inl (u_15.2.2.1 3)))] := hD.sub [0, 1, 2, 3, 4, 5, 6, 7, 8, 9, 10] (by decide) rfl
        have hg_16 := hr_14
        refine lv_goto (tgt := 46) hx hb dX11_gets_40 (by decide) ?_
        exact x_reti S hr hlk hQ hS ((fun i => ([(u_15.1 0), (u_15.1 1), (u_15.1 2), (u_15.1 3), (u_15.1 4), (u_15.1 5)] : List (Int32)).getD i 0), (fun i => ([u_15.2.1 0] : List (Nat)).getD i 0), (fun i => ([(u_15.2.2.1 0), (u_15.2.2.1 1), (u_15.2.2.1 2), (u_15.2.2.1 3), (u_15.2.2.1 4), (u_15.2.2.1 5), (u_15.2.2.1 6)] : List (Nat → Int32)).getD i (fun _ => 0)), (fun i => ([] : List (Nat → Int64)).getD i (fun _ => 0)), (fun i => ([] : List (Int64)).getD i 0)) (show u_15.2.1 0 ≤ 14 by omega) (x_B hP hD) dX11_gets_46

set_option maxHeartbeats 4000000 in
set_option maxRecDepth 100000 in
theorem ctX11_layWet (l : Launch) (D : va_G) (k : Nat → ClassId) (z : Nat → Nat) (n : Nat → Nat) (mthrown : Int32) (mtaped : Nat) (msize : Nat) (mat : Nat) (mfrom : Nat) (mtoken : Int32) (mvalue : Int32) (mfaultKind : Int32) (mfaultPlace : Int32) (mmoreMany : Nat) (mlawNow : Int32) (mwetSet : Int32) (moverAll : Int32) (mones : Int32) (mtwos : Int32) (mgone : Int32) (mroundNow : Int32) (msampleFor : Int64) (msampleAll : Int64) (maskWorst : Int32) (moftenAll : Int64) (moftenView : Int64) (moftenOnes : Int64) (fworld : Nat → Int32) (frowOf : Nat → Int32) (fplaceOf : Nat → Int32) (ffirstOf : Nat → Int32) (fhardNow : Nat → Int32) (fmoreHead : Nat → Int32) (fmoreView : Nat → Int32) (fonesAt : Nat → Int32) (ftwosAt : Nat → Int32) (fgoneAt : Nat → Int32) (p0 : Int32) (p1 : Int32) (p2 : Nat) (hmtaped : mtaped ≤ 600) (hmsize : msize ≤ 600) (hmat : mat ≤ 600) (hmfrom : mfrom ≤ 600) (hmmoreMany : mmoreMany ≤ 14) (hkworld : okW fworld) (hp2 : p2 ≤ 7) (hhr : p2 < wn fworld 0) : MU l yX11_layWet cX11_layWet 8 none 7 D k z [.ref (n 0), .int p0, .int p1, .int (nI p2)] [((n 0), .inr (11, [.int mthrown, .ref (n 1), .ref (n 2), .ref (n 3), .ref (n 4), .int (nI mtaped), .ref (n 5), .int (nI msize), .int (nI mat), .int (nI mfrom), .int mtoken, .int mvalue, .int mfaultKind, .int mfaultPlace, .ref (n 6), .ref (n 7), .ref (n 8), .ref (n 9), .ref (n 10), .ref (n 11), .ref (n 12), .int (nI mmoreMany), .int mlawNow, .int mwetSet, .int moverAll, .ref (n 13), .ref (n 14), .ref (n 15), .int mones, .int mtwos, .int mgone, .ref (n 16), .ref (n 17), .int mroundNow, .ref (n 18), .long msampleFor, .long msampleAll, .ref (n 19), .int maskWorst, .long moftenAll, .long moftenView, .long moftenOnes, .ref (n 20), .ref (n 21), .ref (n 22), .ref (n 23)])), ((n 1), .inl (k 0, 99, .inl fworld)), ((n 7), .inl (k 0, 12, .inl frowOf)), ((n 8), .inl (k 0, 12, .inl fplaceOf)), ((n 9), .inl (k 0, 4, .inl ffirstOf)), ((n 10), .inl (k 0, 12, .inl fhardNow)), ((n 11), .inl (k 0, 14, .inl fmoreHead)), ((n 12), .inl (k 0, 14, .inl fmoreView)), ((n 13), .inl (k 0, 17, .inl fonesAt)), ((n 14), .inl (k 0, 17, .inl ftwosAt)), ((n 15), .inl (k 0, 17, .inl fgoneAt))] 0 0 (Uv D (fun u : (Nat → Int32) × (Nat → Nat) × (Nat → Nat → Int32) × (Nat → Nat → Int64) × (Nat → Int64) => (u.2.1 0 ≤ 14) ∧ (¬ (u.2.2.2.2 0) = 0)) (fun u : (Nat → Int32) × (Nat → Nat) × (Nat → Nat → Int32) × (Nat → Nat → Int64) × (Nat → Int64) => [((n 0), .inr (11, [.int mthrown, .ref (n 1), .ref (n 2), .ref (n 3), .ref (n 4), .int (nI mtaped), .ref (n 5), .int (nI msize), .int (nI mat), .int (nI mfrom), .int mtoken, .int mvalue, .int mfaultKind, .int mfaultPlace, .ref (n 6), .ref (n 7), .ref (n 8), .ref (n 9), .ref (n 10), .ref (n 11), .ref (n 12), .int (nI (u.2.1 0)), .int (u.1 0), .int (u.1 1), .int (u.1 2), .ref (n 13), .ref (n 14), .ref (n 15), .int (u.1 3), .int (u.1 4), .int (u.1 5), .ref (n 16), .ref (n 17), .int mroundNow, .ref (n 18), .long msampleFor, .long msampleAll, .ref (n 19), .int maskWorst, .long (u.2.2.2.2 0), .long (u.2.2.2.2 1), .long (u.2.2.2.2 2), .ref (n 20), .ref (n 21), .ref (n 22), .ref (n 23)])), ((n 1), .inl (k 0, 99, .inl fworld)), ((n 7), .inl (k 0, 12, .inl (u.2.2.1 4))), ((n 8), .inl (k 0, 12, .inl (u.2.2.1 5))), ((n 9), .inl (k 0, 4, .inl (u.2.2.1 6))), ((n 10), .inl (k 0, 12, .inl (u.2.2.1 0))), ((n 11), .inl (k 0, 14, .inl fmoreHead)), ((n 12), .inl (k 0, 14, .inl fmoreView)), ((n 13), .inl (k 0, 17, .inl (u.2.2.1 1))), ((n 14), .inl (k 0, 17, .inl (u.2.2.1 2))), ((n 15), .inl (k 0, 17, .inl (u.2.2.1 3)))])) := by
  refine MU.of (by decide) (Nat.le_of_ble_eq_true rfl) ?_
  intro p e s m below meth c ls A args Q S hr hlk hnm hQ hK hP hD hZ hA hS hl
  have hx := S.1
  have hb := S.2.1
  have hl : lv_has ls 8 [(0, .ref (n 0)), (1, .int p0), (2, .int p1), (3, .int (nI p2))] := hl
  have hbfworld := okW_bd hkworld
  have hpow := pow8 (p2 + 1) (by omega)
  have hpos : 0 < 2 ^ (p2 + 1) := Nat.two_pow_pos _
  refine lv_aload_n hx hb dX11_layWet_0 rfl (lv_at hl 0 rfl) ?_
  refine lv_lconst (v := 0) hx hb dX11_layWet_1 (by decide) ?_
  refine x_put (ws' := [((n 0), .inr (11, [.int mthrown, .ref (n 1), .ref (n 2), .ref (n 3), .ref (n 4), .int (nI mtaped), .ref (n 5), .int (nI msize), .int (nI mat), .int (nI mfrom), .int mtoken, .int mvalue, .int mfaultKind, .int mfaultPlace, .ref (n 6), .ref (n 7), .ref (n 8), .ref (n 9), .ref (n 10), .ref (n 11), .ref (n 12), .int (nI mmoreMany), .int mlawNow, .int mwetSet, .int moverAll, .ref (n 13), .ref (n 14), .ref (n 15), .int mones, .int mtwos, .int mgone, .ref (n 16), .ref (n 17), .int mroundNow, .ref (n 18), .long msampleFor, .long msampleAll, .ref (n 19), .int maskWorst, .long 0, .long moftenView, .long moftenOnes, .ref (n 20), .ref (n 21), .ref (n 22), .ref (n 23)])), ((n 1), .inl (k 0, 99, .inl fworld)), ((n 7), .inl (k 0, 12, .inl frowOf)), ((n 8), .inl (k 0, 12, .inl fplaceOf)), ((n 9), .inl (k 0, 4, .inl ffirstOf)), ((n 10), .inl (k 0, 12, .inl fhardNow)), ((n 11), .inl (k 0, 14, .inl fmoreHead)), ((n 12), .inl (k 0, 14, .inl fmoreView)), ((n 13), .inl (k 0, 17, .inl fonesAt)), ((n 14), .inl (k 0, 17, .inl ftwosAt)), ((n 15), .inl (k 0, 17, .inl fgoneAt))]) S hK hP hD hS 0 rfl cfX11 39 lkX11_465 (by decide) rfl rfl rfl (Nat.le_of_ble_eq_true rfl) rfl dX11_layWet_2 (fun H locs hP hD hS => ?_)
  refine lv_aload_n hx hb dX11_layWet_5 rfl (lv_at hl 0 rfl) ?_
  refine lv_lconst (v := 0) hx hb dX11_layWet_6 (by decide) ?_
  refine x_put (ws' := [((n 0), .inr (11, [.int mthrown, .ref (n 1), .ref (n 2), .ref (n 3), .ref (n 4), .int (nI mtaped), .ref (n 5), .int (nI msize), .int (nI mat), .int (nI mfrom), .int mtoken, .int mvalue, .int mfaultKind, .int mfaultPlace, .ref (n 6), .ref (n 7), .ref (n 8), .ref (n 9), .ref (n 10), .ref (n 11), .ref (n 12), .int (nI mmoreMany), .int mlawNow, .int mwetSet, .int moverAll, .ref (n 13), .ref (n 14), .ref (n 15), .int mones, .int mtwos, .int mgone, .ref (n 16), .ref (n 17), .int mroundNow, .ref (n 18), .long msampleFor, .long msampleAll, .ref (n 19), .int maskWorst, .long 0, .long 0, .long moftenOnes, .ref (n 20), .ref (n 21), .ref (n 22), .ref (n 23)])), ((n 1), .inl (k 0, 99, .inl fworld)), ((n 7), .inl (k 0, 12, .inl frowOf)), ((n 8), .inl (k 0, 12, .inl fplaceOf)), ((n 9), .inl (k 0, 4, .inl ffirstOf)), ((n 10), .inl (k 0, 12, .inl fhardNow)), ((n 11), .inl (k 0, 14, .inl fmoreHead)), ((n 12), .inl (k 0, 14, .inl fmoreView)), ((n 13), .inl (k 0, 17, .inl fonesAt)), ((n 14), .inl (k 0, 17, .inl ftwosAt)), ((n 15), .inl (k 0, 17, .inl fgoneAt))]) S hK hP hD hS 0 rfl cfX11 40 lkX11_468 (by decide) rfl rfl rfl (Nat.le_of_ble_eq_true rfl) rfl dX11_layWet_7 (fun H locs hP hD hS => ?_)
  refine lv_aload_n hx hb dX11_layWet_10 rfl (lv_at hl 0 rfl) ?_
  refine lv_lconst (v := 0) hx hb dX11_layWet_11 (by decide) ?_
  refine x_put (ws' := [((n 0), .inr (11, [.int mthrown, .ref (n 1), .ref (n 2), .ref (n 3), .ref (n 4), .int (nI mtaped), .ref (n 5), .int (nI msize), .int (nI mat), .int (nI mfrom), .int mtoken, .int mvalue, .int mfaultKind, .int mfaultPlace, .ref (n 6), .ref (n 7), .ref (n 8), .ref (n 9), .ref (n 10), .ref (n 11), .ref (n 12), .int (nI mmoreMany), .int mlawNow, .int mwetSet, .int moverAll, .ref (n 13), .ref (n 14), .ref (n 15), .int mones, .int mtwos, .int mgone, .ref (n 16), .ref (n 17), .int mroundNow, .ref (n 18), .long msampleFor, .long msampleAll, .ref (n 19), .int maskWorst, .long 0, .long 0, .long 0, .ref (n 20), .ref (n 21), .ref (n 22), .ref (n 23)])), ((n 1), .inl (k 0, 99, .inl fworld)), ((n 7), .inl (k 0, 12, .inl frowOf)), ((n 8), .inl (k 0, 12, .inl fplaceOf)), ((n 9), .inl (k 0, 4, .inl ffirstOf)), ((n 10), .inl (k 0, 12, .inl fhardNow)), ((n 11), .inl (k 0, 14, .inl fmoreHead)), ((n 12), .inl (k 0, 14, .inl fmoreView)), ((n 13), .inl (k 0, 17, .inl fonesAt)), ((n 14), .inl (k 0, 17, .inl ftwosAt)), ((n 15), .inl (k 0, 17, .inl fgoneAt))]) S hK hP hD hS 0 rfl cfX11 41 lkX11_471 (by decide) rfl rfl rfl (Nat.le_of_ble_eq_true rfl) rfl dX11_layWet_12 (fun H locs hP hD hS => ?_)
  refine lv_aload_n hx hb dX11_layWet_15 rfl (lv_at hl 0 rfl) ?_
  refine x_muVv (wr := [((n 11), .inl (k 0, 14, .inl fmoreHead)), ((n 12), .inl (k 0, 14, .inl fmoreView)), ((n 13), .inl (k 0, 17, .inl fonesAt)), ((n 14), .inl (k 0, 17, .inl ftwosAt)), ((n 15), .inl (k 0, 17, .inl fgoneAt))]) (As := []) S hK hP hD hZ hS hA hl mwX11_asItIs lkX11_309 (ctX11_asItIs l D k z n mthrown mtaped msize mat mfrom mtoken mvalue mfaultKind mfaultPlace mmoreMany mlawNow mwetSet moverAll mones mtwos mgone mroundNow msampleFor msampleAll maskWorst 0 0 0 fworld frowOf fplaceOf ffirstOf fhardNow (by omega) (by omega) (by omega) (by omega) (by omega) (hkworld)) [0, 1, 2, 3, 4, 5] [6, 7, 8, 9, 10] rfl rfl (by decide) (by decide) (by decide) rfl rfl rfl rfl rfl ⟨Nat.le_of_ble_eq_true rfl, Nat.le_of_ble_eq_true rfl, Nat.le_of_ble_eq_true rfl⟩ dX11_layWet_16 ⟨Nat.le_of_ble_eq_true rfl, Nat.le_of_ble_eq_true rfl⟩ (fun u_2 H locs hr_1 hP hD hS => ?_)
  have hP : va_P D vwCl [((n 0), .inr (11, [.int mthrown, .ref (n 1), .ref (n 2), .ref (n 3), .ref (n 4), .int (nI mtaped), .ref (n 5), .int (nI msize), .int (nI mat), .int (nI mfrom), .int mtoken, .int mvalue, .int mfaultKind, .int mfaultPlace, .ref (n 6), .ref (n 7), .ref (n 8), .ref (n 9), .ref (n 10), .ref (n 11), .ref (n 12), .int (nI (u_2.2.1 0)), .int (u_2.1 0), .int (u_2.1 1), .int (u_2.1 2), .ref (n 13), .ref (n 14), .ref (n 15), .int mones, .int mtwos, .int mgone, .ref (n 16), .ref (n 17), .int mroundNow, .ref (n 18), .long msampleFor, .long msampleAll, .ref (n 19), .int maskWorst, .long 0, .long 0, .long 0, .ref (n 20), .ref (n 21), .ref (n 22), .ref (n 23)])), ((n 1), .inl (k 0, 99, .inl fworld)), ((n 7), .inl (k 0, 12, .inl (u_2.2.2.1 1))), ((n 8), .inl (k 0, 12, .inl (u_2.2.2.1 2))), ((n 9), .inl (k 0, 4, .inl (u_2.2.2.1 3))), ((n 10), .inl (k 0, 12, .inl (u_2.2.2.1 0))), ((n 11), .inl (k 0, 14, .inl fmoreHead)), ((n 12), .inl (k 0, 14, .inl fmoreView)), ((n 13), .inl (k 0, 17, .inl fonesAt)), ((n 14), .inl (k 0, 17, .inl ftwosAt)), ((n 15), .inl (k 0, 17, .inl fgoneAt))] H := hP.sub [5, 6, 7, 8, 9, 10, 0, 1, 2, 3, 4] rfl
  have hD : va_D A [((n 0), .inr (11, [.int mthrown, .ref (n 1), .ref (n 2), .ref (n 3), .ref (n 4), .int (nI mtaped), .ref (n 5), .int (nI msize), .int (nI mat), .int (nI mfrom), .int mtoken, .int mvalue, .int mfaultKind, .int mfaultPlace, .ref (n 6), .ref (n 7), .ref (n 8), .ref (n 9), .ref (n 10), .ref (n 11), .ref (n 12), .int (nI (u_2.2.1 0)), .int (u_2.1 0), .int (u_2.1 1), .int (u_2.1 2), .ref (n 13), .ref (n 14), .ref (n 15), .int mones, .int mtwos, .int mgone, .ref (n 16), .ref (n 17), .int mroundNow, .ref (n 18), .long msampleFor, .long msampleAll, .ref (n 19), .int maskWorst, .long 0, .long 0, .long 0, .ref (n 20), .ref (n 21), .ref (n 22), .ref (n 23)])), ((n 1), .inl (k 0, 99, .inl fworld)), ((n 7), .inl (k 0, 12, .inl (u_2.2.2.1 1))), ((n 8), .inl (k 0, 12, .inl (u_2.2.2.1 2))), ((n 9), .inl (k 0, 4, .inl (u_2.2.2.1 3))), ((n 10), .inl (k 0, 12, .inl (u_2.2.2.1 0))), ((n 11), .inl (k 0, 14, .inl fmoreHead)), ((n 12), .inl (k 0, 14, .inl fmoreView)), ((n 13), .inl (k 0, 17, .inl fonesAt)), ((n 14), .inl (k 0, 17, .inl ftwosAt)), ((n 15), .inl (k 0, 17, .inl fgoneAt))] := hD.sub [5, 6, 7, 8, 9, 10, 0, 1, 2, 3, 4] (by decide) rfl
  have hg_3 := hr_1
  refine lv_iconst (v := 0) hx hb dX11_layWet_19 (by decide) ?_
  refine lv_istore (lv' := [(4, .int 0), (0, .ref (n 0)), (1, .int p0), (2, .int p1), (3, .int (nI p2))]) hx hb dX11_layWet_20 hl (by decide) rfl (fun ls hl => ?_)
  have lp_113 : ∀ (nn j_102 : Nat) (x_103 : Int32) (x_104 : Int32) (x_105 : Int32) (x_106 : Int32) (x_107 : Int64) (x_108 : Int64) (g_109 : Nat → Int32) (g_110 : Nat → Int32) (g_111 : Nat → Int32) (x_112 : Int64) (H : Heap) (locs : List Loc) (ls : Array Slot), j_102 ≤ 2 ^ (p2 + 1) → 2 ^ (p2 + 1) - j_102 < nn → (x_107 = lN (smm (wn fworld 2) j_102 (p2 + 1))) → va_P D vwCl [((n 0), .inr (11, [.int mthrown, .ref (n 1), .ref (n 2), .ref (n 3), .ref (n 4), .int (nI mtaped), .ref (n 5), .int (nI msize), .int (nI mat), .int (nI mfrom), .int mtoken, .int mvalue, .int mfaultKind, .int mfaultPlace, .ref (n 6), .ref (n 7), .ref (n 8), .ref (n 9), .ref (n 10), .ref (n 11), .ref (n 12), .int (nI (u_2.2.1 0)), .int (u_2.1 0), .int x_103, .int (u_2.1 2), .ref (n 13), .ref (n 14), .ref (n 15), .int x_104, .int x_105, .int x_106, .ref (n 16), .ref (n 17), .int mroundNow, .ref (n 18), .long msampleFor, .long msampleAll, .ref (n 19), .int maskWorst, .long x_107, .long x_112, .long x_108, .ref (n 20), .ref (n 21), .ref (n 22), .ref (n 23)])), ((n 1), .inl (k 0, 99, .inl fworld)), ((n 7), .inl (k 0, 12, .inl (u_2.2.2.1 1))), ((n 8), .inl (k 0, 12, .inl (u_2.2.2.1 2))), ((n 9), .inl (k 0, 4, .inl (u_2.2.2.1 3))), ((n 10), .inl (k 0, 12, .inl (u_2.2.2.1 0))), ((n 11), .inl (k 0, 14, .inl fmoreHead)), ((n 12), .inl (k 0, 14, .inl fmoreView)), ((n 13), .inl (k 0, 17, .inl g_109)), ((n 14), .inl (k 0, 17, .inl g_110)), ((n 15), .inl (k 0, 17, .inl g_111))] H → va_D A [((n 0), .inr (11, [.int mthrown, .ref (n 1), .ref (n 2), .ref (n 3), .ref (n 4), .int (nI mtaped), .ref (n 5), .int (nI msize), .int (nI mat), .int (nI mfrom), .int mtoken, .int mvalue, .int mfaultKind, .int mfaultPlace, .ref (n 6), .ref (n 7), .ref (n 8), .ref (n 9), .ref (n 10), .ref (n 11), .ref (n 12), .int (nI (u_2.2.1 0)), .int (u_2.1 0), .int x_103, .int (u_2.1 2), .ref (n 13), .ref (n 14), .ref (n 15), .int x_104, .int x_105, .int x_106, .ref (n 16), .ref (n 17), .int mroundNow, .ref (n 18), .long msampleFor, .long msampleAll, .ref (n 19), .int maskWorst, .long x_107, .long x_112, .long x_108, .ref (n 20), .ref (n 21), .ref (n 22), .ref (n 23)])), ((n 1), .inl (k 0, 99, .inl fworld)), ((n 7), .inl (k 0, 12, .inl (u_2.2.2.1 1))), ((n 8), .inl (k 0, 12, .inl (u_2.2.2.1 2))), ((n 9), .inl (k 0, 4, .inl (u_2.2.2.1 3))), ((n 10), .inl (k 0, 12, .inl (u_2.2.2.1 0))), ((n 11), .inl (k 0, 14, .inl fmoreHead)), ((n 12), .inl (k 0, 14, .inl fmoreView)), ((n 13), .inl (k 0, 17, .inl g_109)), ((n 14), .inl (k 0, 17, .inl g_110)), ((n 15), .inl (k 0, 17, .inl g_111))] → va_S A s.heap H locs → lv_has ls 8 [(4, .int (nI j_102)), (0, .ref (n 0)), (1, .int p0), (2, .int p1), (3, .int (nI p2))] → W p l e (Rm 7 0 0) s m args below meth c H locs 0 0 Q (F0 m 22 ls []) := by
    intro nn
    induction nn with
    | zero => intro j_102 x_103 x_104 x_105 x_106 x_107 x_108 g_109 g_110 g_111 x_112 H locs ls hjj_102 hnj_102 hsm; exact absurd hnj_102 (by omega)
    | succ nn ihj_102 =>
      intro j_102 x_103 x_104 x_105 x_106 x_107 x_108 g_109 g_110 g_111 x_112 H locs ls hjj_102 hnj_102 hsm hP hD hS hl
      refine lv_iload hx hb dX11_layWet_22 (lv_at hl 0 rfl) ?_
      refine lv_iconst (v := 2) hx hb dX11_layWet_24 (by decide) ?_
      refine lv_iload_n hx hb dX11_layWet_25 rfl (lv_at hl 4 rfl) ?_
      refine lv_ishl hx hb dX11_layWet_26 ?_
      refine x_is (nI (2 ^ (p2 + 1))) (sh2p (by omega)) ?_
      refine lv_icmp_ge (tgt := 172) hx hb dX11_layWet_27 (by decide) (fun c_114 => ?_) (fun c_114 => ?_)
      · skip
        have c_114 : 2 ^ (p2 + 1) ≤ j_102 := (ni_le rfl rfl (by omega) (by omega)).mp c_114
        exact x_retv S hr hlk hQ hS ((fun i => ([(u_2.1 0), x_103, (u_2.1 2), x_104, x_105, x_106] : List (Int32)).getD i 0), (fun i => ([u_2.2.1 0] : List (Nat)).getD i 0), (fun i => ([(u_2.2.2.1 0), g_109, g_110, g_111, (u_2.2.2.1 1), (u_2.2.2.1 2), (u_2.2.2.1 3)] : List (Nat → Int32)).getD i (fun _ => 0)), (fun i => ([] : List (Nat → Int64)).getD i (fun _ => 0)), (fun i => ([x_107, x_112, x_108] : List (Int64)).getD i 0)) ⟨(show u_2.2.1 0 ≤ 14 by omega), (smm_ne hsm (by omega) (by omega) (by omega))⟩ (x_B hP hD) dX11_layWet_172
      · skip
        have c_114 : ¬ 2 ^ (p2 + 1) ≤ j_102 := fun q => c_114 ((ni_le rfl rfl (by omega) (by omega)).mpr q)
        refine lv_lconst (v := 1) hx hb dX11_layWet_30 (by decide) ?_
        refine lv_lstore (lv' := [(5, .long 1), (4, .int (nI j_102)), (0, .ref (n 0)), (1, .int p0), (2, .int p1), (3, .int (nI p2))]) hx hb dX11_layWet_31 hl (by decide) rfl (fun ls hl => ?_)
        refine lv_iconst (v := 0) hx hb dX11_layWet_33 (by decide) ?_
        refine lv_istore (lv' := [(7, .int 0), (5, .long 1), (4, .int (nI j_102)), (0, .ref (n 0)), (1, .int p0), (2, .int p1), (3, .int (nI p2))]) hx hb dX11_layWet_34 hl (by decide) rfl (fun ls hl => ?_)
        have lp_127 : ∀ (nn j_125 : Nat) (x_126 : Int64) (H : Heap) (locs : List Loc) (ls : Array Slot), j_125 ≤ p2 + 1 → p2 + 1 - j_125 < nn → (x_126 = lN (prd (wn fworld 2) j_102 j_125)) → va_P D vwCl [((n 0), .inr (11, [.int mthrown, .ref (n 1), .ref (n 2), .ref (n 3), .ref (n 4), .int (nI mtaped), .ref (n 5), .int (nI msize), .int (nI mat), .int (nI mfrom), .int mtoken, .int mvalue, .int mfaultKind, .int mfaultPlace, .ref (n 6), .ref (n 7), .ref (n 8), .ref (n 9), .ref (n 10), .ref (n 11), .ref (n 12), .int (nI (u_2.2.1 0)), .int (u_2.1 0), .int x_103, .int (u_2.1 2), .ref (n 13), .ref (n 14), .ref (n 15), .int x_104, .int x_105, .int x_106, .ref (n 16), .ref (n 17), .int mroundNow, .ref (n 18), .long msampleFor, .long msampleAll, .ref (n 19), .int maskWorst, .long x_107, .long x_112, .long x_108, .ref (n 20), .ref (n 21), .ref (n 22), .ref (n 23)])), ((n 1), .inl (k 0, 99, .inl fworld)), ((n 7), .inl (k 0, 12, .inl (u_2.2.2.1 1))), ((n 8), .inl (k 0, 12, .inl (u_2.2.2.1 2))), ((n 9), .inl (k 0, 4, .inl (u_2.2.2.1 3))), ((n 10), .inl (k 0, 12, .inl (u_2.2.2.1 0))), ((n 11), .inl (k 0, 14, .inl fmoreHead)), ((n 12), .inl (k 0, 14, .inl fmoreView)), ((n 13), .inl (k 0, 17, .inl g_109)), ((n 14), .inl (k 0, 17, .inl g_110)), ((n 15), .inl (k 0, 17, .inl g_111))] H → va_D A [((n 0), .inr (11, [.int mthrown, .ref (n 1), .ref (n 2), .ref (n 3), .ref (n 4), .int (nI mtaped), .ref (n 5), .int (nI msize), .int (nI mat), .int (nI mfrom), .int mtoken, .int mvalue, .int mfaultKind, .int mfaultPlace, .ref (n 6), .ref (n 7), .ref (n 8), .ref (n 9), .ref (n 10), .ref (n 11), .ref (n 12), .int (nI (u_2.2.1 0)), .int (u_2.1 0), .int x_103, .int (u_2.1 2), .ref (n 13), .ref (n 14), .ref (n 15), .int x_104, .int x_105, .int x_106, .ref (n 16), .ref (n 17), .int mroundNow, .ref (n 18), .long msampleFor, .long msampleAll, .ref (n 19), .int maskWorst, .long x_107, .long x_112, .long x_108, .ref (n 20), .ref (n 21), .ref (n 22), .ref (n 23)])), ((n 1), .inl (k 0, 99, .inl fworld)), ((n 7), .inl (k 0, 12, .inl (u_2.2.2.1 1))), ((n 8), .inl (k 0, 12, .inl (u_2.2.2.1 2))), ((n 9), .inl (k 0, 4, .inl (u_2.2.2.1 3))), ((n 10), .inl (k 0, 12, .inl (u_2.2.2.1 0))), ((n 11), .inl (k 0, 14, .inl fmoreHead)), ((n 12), .inl (k 0, 14, .inl fmoreView)), ((n 13), .inl (k 0, 17, .inl g_109)), ((n 14), .inl (k 0, 17, .inl g_110)), ((n 15), .inl (k 0, 17, .inl g_111))] → va_S A s.heap H locs → lv_has ls 8 [(7, .int (nI j_125)), (5, .long x_126), (4, .int (nI j_102)), (0, .ref (n 0)), (1, .int p0), (2, .int p1), (3, .int (nI p2))] → W p l e (Rm 7 0 0) s m args below meth c H locs 0 0 Q (F0 m 36 ls []) := by
          intro nn
          induction nn with
          | zero => intro j_125 x_126 H locs ls hjj_125 hnj_125 hprd; exact absurd hnj_125 (by omega)
          | succ nn ihj_125 =>
            intro j_125 x_126 H locs ls hjj_125 hnj_125 hprd hP hD hS hl
            refine lv_iload hx hb dX11_layWet_36 (lv_at hl 0 rfl) ?_
            refine lv_iload_n hx hb dX11_layWet_38 rfl (lv_at hl 6 rfl) ?_
            refine lv_icmp_gt (tgt := 84) hx hb dX11_layWet_39 (by decide) (fun c_128 => ?_) (fun c_128 => ?_)
            · skip
              have c_128 : p2 < j_125 := (ni_lt rfl rfl (by omega) (by omega)).mp c_128
              refine lv_lload hx hb dX11_layWet_84 (lv_at hl 1 rfl) ?_
              refine lv_lconst (v := 0) hx hb dX11_layWet_86 (by decide) ?_
              refine W.lcmp hx hb dX11_layWet_87 ?_
              refine lv_if_ne (tgt := 94) hx hb dX11_layWet_88 (by decide) (fun c_129 => ?_) (fun c_129 => ?_)
              · skip
                have c_129 : ¬ x_126 = 0 := fun q => c_129 ((lg_cmp_eq _ _).mpr q)
                refine lv_aload_n hx hb dX11_layWet_94 rfl (lv_at hl 3 rfl) ?_
                refine lv_iload hx hb dX11_layWet_95 (lv_at hl 2 rfl) ?_
                refine x_put (ws' := [((n 0), .inr (11, [.int mthrown, .ref (n 1), .ref (n 2), .ref (n 3), .ref (n 4), .int (nI mtaped), .ref (n 5), .int (nI msize), .int (nI mat), .int (nI mfrom), .int mtoken, .int mvalue, .int mfaultKind, .int mfaultPlace, .ref (n 6), .ref (n 7), .ref (n 8), .ref (n 9), .ref (n 10), .ref (n 11), .ref (n 12), .int (nI (u_2.2.1 0)), .int (u_2.1 0), .int (nI j_102), .int (u_2.1 2), .ref (n 13), .ref (n 14), .ref (n 15), .int x_104, .int x_105, .int x_106, .ref (n 16), .ref (n 17), .int mroundNow, .ref (n 18), .long msampleFor, .long msampleAll, .ref (n 19), .int maskWorst, .long x_107, .long x_112, .long x_108, .ref (n 20), .ref (n 21), .ref (n 22), .ref (n 23)])), ((n 1), .inl (k 0, 99, .inl fworld)), ((n 7), .inl (k 0, 12, .inl (u_2.2.2.1 1))), ((n 8), .inl (k 0, 12, .inl (u_2.2.2.1 2))), ((n 9), .inl (k 0, 4, .inl (u_2.2.2.1 3))), ((n 10), .inl (k 0, 12, .inl (u_2.2.2.1 0))), ((n 11), .inl (k 0, 14, .inl fmoreHead)), ((n 12), .inl (k 0, 14, .inl fmoreView)), ((n 13), .inl (k 0, 17, .inl g_109)), ((n 14), .inl (k 0, 17, .inl g_110)), ((n 15), .inl (k 0, 17, .inl g_111))]) S hK hP hD hS 0 rfl cfX11 23 lkX11_264 (by decide) rfl rfl rfl (Nat.le_of_ble_eq_true rfl) rfl dX11_layWet_97 (fun H locs hP hD hS => ?_)
                refine lv_aload_n hx hb dX11_layWet_100 rfl (lv_at hl 3 rfl) ?_
                refine x_muVv (wr := []) (As := []) S hK hP hD hZ hS hA hl mwX11_goAll lkX11_312 (ctX11_goAll l D k z n mthrown mtaped msize mat mfrom mtoken mvalue mfaultKind mfaultPlace (u_2.2.1 0) (u_2.1 0) (nI j_102) (u_2.1 2) x_104 x_105 x_106 mroundNow msampleFor msampleAll maskWorst x_107 x_112 x_108 fworld (u_2.2.2.1 1) (u_2.2.2.1 2) (u_2.2.2.1 3) (u_2.2.2.1 0) fmoreHead fmoreView g_109 g_110 g_111 (by omega) (by omega) (by omega) (by omega) (by omega) (hkworld)) [0, 1, 2, 3, 4, 5, 6, 7, 8, 9, 10] [] rfl rfl (by decide) (by decide) (by decide) rfl rfl rfl rfl rfl ⟨Nat.le_of_ble_eq_true rfl, Nat.le_of_ble_eq_true rfl, Nat.le_of_ble_eq_true rfl⟩ dX11_layWet_101 ⟨Nat.le_of_ble_eq_true rfl, Nat.le_of_ble_eq_true rfl⟩ (fun u_131 H locs hr_130 hP hD hS => ?_)
                have hP : va_P D vwCl [((n 0), .inr (11, [.int mthrown, .ref (n 1), .ref (n 2), .ref (n 3), .ref (n 4), .int (nI mtaped), .ref (n 5), .int (nI msize), .int (nI mat), .int (nI mfrom), .int mtoken, .int mvalue, .int mfaultKind, .int mfaultPlace, .ref (n 6), .ref (n 7), .ref (n 8), .ref (n 9), .ref (n 10), .ref (n 11), .ref (n 12), .int (nI (u_2.2.1 0)), .int (u_2.1 0), .int (nI j_102), .int (u_2.1 2), .ref (n 13), .ref (n 14), .ref (n 15), .int (u_131.1 0), .int (u_131.1 1), .int (u_131.1 2), .ref (n 16), .ref (n 17), .int mroundNow, .ref (n 18), .long msampleFor, .long msampleAll, .ref (n 19), .int maskWorst, .long x_107, .long x_112, .long x_108, .ref (n 20), .ref (n 21), .ref (n 22), .ref (n 23)])), ((n 1), .inl (k 0, 99, .inl fworld)), ((n 7), .inl (k 0, 12, .inl (u_2.2.2.1 1))), ((n 8), .inl (k 0, 12, .inl (u_2.2.2.1 2))), ((n 9), .inl (k 0, 4, .inl (u_2.2.2.1 3))), ((n 10), .inl (k 0, 12, .inl (u_2.2.2.1 0))), ((n 11), .inl (k 0, 14, .inl fmoreHead)), ((n 12), .inl (k 0, 14, .inl fmoreView)), ((n 13), .inl (k 0, 17, .inl (u_131.2.2.1 0))), ((n 14), .inl (k 0, 17, .inl (u_131.2.2.1 1))), ((n 15), .inl (k 0, 17, .inl (u_131.2.2.1 2)))] H := hP.sub [0, 1, 2, 3, 4, 5, 6, 7, 8, 9, 10] rfl
                have hD : va_D A [((n 0), .inr (11, [.int mthrown, .ref (n 1), .ref (n 2), .ref (n 3), .ref (n 4), .int (nI mtaped), .ref (n 5), .int (nI msize), .int (nI mat), .int (nI mfrom), .int mtoken, .int mvalue, .int mfaultKind, .int mfaultPlace, .ref (n 6), .ref (n 7), .ref (n 8), .ref (n 9), .ref (n 10), .ref (n 11), .ref (n 12), .int (nI (u_2.2.1 0)), .int (u_2.1 0), .int (nI j_102), .int (u_2.1 2), .ref (n 13), .ref (n 14), .ref (n 15), .int (u_131.1 0), .int (u_131.1 1), .int (u_131.1 2), .ref (n 16), .ref (n 17), .int mroundNow, .ref (n 18), .long msampleFor, .long msampleAll, .ref (n 19), .int maskWorst, .long x_107, .long x_112, .long x_108, .ref (n 20), .ref (n 21), .ref (n 22), .ref (n 23)])), ((n 1), .inl (k 0, 99, .inl fworld)), ((n 7), .inl (k 0, 12, .inl (u_2.2.2.1 1))), ((n 8), .inl (k 0, 12, .inl (u_2.2.2.1 2))), ((n 9), .inl (k 0, 4, .inl (u_2.2.2.1 3))), ((n 10), .inl (k 0, 12, .inl (u_2.2.2.1 0))), ((n 11), .inl (k 0, 14, .inl fmoreHead)), ((n 12), .inl (k 0, 14, .inl fmoreView)), ((n 13), .inl (k 0, 17, .inl (u_131.2.2.1 0))), ((n 14), .inl (k 0, 17, .inl (u_131.2.2.1 1))), ((n 15), .inl (k 0, 17, .inl (u_131.2.2.1 2)))] := hD.sub [0, 1, 2, 3, 4, 5, 6, 7, 8, 9, 10] (by decide) rfl
                refine lv_aload_n hx hb dX11_layWet_104 rfl (lv_at hl 3 rfl) ?_
                refine lv_dup hx hb dX11_layWet_105 rfl ?_
                refine x_get S hK hP 0 rfl cfX11 39 lkX11_465 (by decide) rfl dX11_layWet_106 ?_
                refine lv_lload hx hb dX11_layWet_109 (lv_at hl 1 rfl) ?_
                refine lv_ladd hx hb dX11_layWet_111 ?_
                refine lv_topl (fun v_132 ev_132 => ?_)
                refine x_put (ws' := [((n 0), .inr (11, [.int mthrown, .ref (n 1), .ref (n 2), .ref (n 3), .ref (n 4), .int (nI mtaped), .ref (n 5), .int (nI msize), .int (nI mat), .int (nI mfrom), .int mtoken, .int mvalue, .int mfaultKind, .int mfaultPlace, .ref (n 6), .ref (n 7), .ref (n 8), .ref (n 9), .ref (n 10), .ref (n 11), .ref (n 12), .int (nI (u_2.2.1 0)), .int (u_2.1 0), .int (nI j_102), .int (u_2.1 2), .ref (n 13), .ref (n 14), .ref (n 15), .int (u_131.1 0), .int (u_131.1 1), .int (u_131.1 2), .ref (n 16), .ref (n 17), .int mroundNow, .ref (n 18), .long msampleFor, .long msampleAll, .ref (n 19), .int maskWorst, .long v_132, .long x_112, .long x_108, .ref (n 20), .ref (n 21), .ref (n 22), .ref (n 23)])), ((n 1), .inl (k 0, 99, .inl fworld)), ((n 7), .inl (k 0, 12, .inl (u_2.2.2.1 1))), ((n 8), .inl (k 0, 12, .inl (u_2.2.2.1 2))), ((n 9), .inl (k 0, 4, .inl (u_2.2.2.1 3))), ((n 10), .inl (k 0, 12, .inl (u_2.2.2.1 0))), ((n 11), .inl (k 0, 14, .inl fmoreHead)), ((n 12), .inl (k 0, 14, .inl fmoreView)), ((n 13), .inl (k 0, 17, .inl (u_131.2.2.1 0))), ((n 14), .inl (k 0, 17, .inl (u_131.2.2.1 1))), ((n 15), .inl (k 0, 17, .inl (u_131.2.2.1 2)))]) S hK hP hD hS 0 rfl cfX11 39 lkX11_465 (by decide) rfl rfl rfl (Nat.le_of_ble_eq_true rfl) rfl dX11_layWet_112 (fun H locs hP hD hS => ?_)
                refine lv_aload_n hx hb dX11_layWet_115 rfl (lv_at hl 3 rfl) ?_
                refine lv_dup hx hb dX11_layWet_116 rfl ?_
                refine x_get S hK hP 0 rfl cfX11 40 lkX11_468 (by decide) rfl dX11_layWet_117 ?_
                refine lv_aload_n hx hb dX11_layWet_120 rfl (lv_at hl 3 rfl) ?_
                refine lv_iload_n hx hb dX11_layWet_121 rfl (lv_at hl 4 rfl) ?_
                refine lv_iload_n hx hb dX11_layWet_122 rfl (lv_at hl 6 rfl) ?_
                refine lv_iconst (v := 1) hx hb dX11_layWet_123 (by decide) ?_
                refine lv_iadd hx hb dX11_layWet_124 ?_
                refine x_is (nI (p2 + 1)) (ni_add rfl (by decide)) ?_
                refine x_roVi (As := [.int p0, .int (nI (p2 + 1))]) S hK hP hD hZ (fun _ h => h) hA hS hA hl mwX11_viewOf lkX11_333 (ctX11_viewOf l D k z n mthrown mtaped msize mat mfrom mtoken mvalue mfaultKind mfaultPlace (u_2.2.1 0) (u_2.1 0) (nI j_102) (u_2.1 2) (u_131.1 0) (u_131.1 1) (u_131.1 2) mroundNow msampleFor msampleAll maskWorst v_132 x_112 x_108 (u_131.2.2.1 0) (u_131.2.2.1 1) p0 (p2 + 1) (by omega) (by omega) (by omega) (by omega) (by omega) (by omega)) [0, 8, 9] rfl (by decide) rfl rfl rfl rfl rfl ⟨Nat.le_of_ble_eq_true rfl, Nat.le_of_ble_eq_true rfl, Nat.le_of_ble_eq_true rfl⟩ dX11_layWet_125 ⟨Nat.le_of_ble_eq_true rfl, Nat.le_of_ble_eq_true rfl⟩ (fun r_133 H locs hr_133 hP hS => ?_)
                refine lv_iload_n hx hb dX11_layWet_128 rfl (lv_at hl 5 rfl) ?_
                refine lv_icmp_ne (tgt := 137) hx hb dX11_layWet_129 (by decide) (fun c_135 => ?_) (fun c_135 => ?_)
                · skip
                  refine lv_lconst (v := 0) hx hb dX11_layWet_137 (by decide) ?_
                  refine lv_ladd hx hb dX11_layWet_138 ?_
                  refine lv_topl (fun v_136 ev_136 => ?_)
                  refine x_put (ws' := [((n 0), .inr (11, [.int mthrown, .ref (n 1), .ref (n 2), .ref (n 3), .ref (n 4), .int (nI mtaped), .ref (n 5), .int (nI msize), .int (nI mat), .int (nI mfrom), .int mtoken, .int mvalue, .int mfaultKind, .int mfaultPlace, .ref (n 6), .ref (n 7), .ref (n 8), .ref (n 9), .ref (n 10), .ref (n 11), .ref (n 12), .int (nI (u_2.2.1 0)), .int (u_2.1 0), .int (nI j_102), .int (u_2.1 2), .ref (n 13), .ref (n 14), .ref (n 15), .int (u_131.1 0), .int (u_131.1 1), .int (u_131.1 2), .ref (n 16), .ref (n 17), .int mroundNow, .ref (n 18), .long msampleFor, .long msampleAll, .ref (n 19), .int maskWorst, .long v_132, .long v_136, .long x_108, .ref (n 20), .ref (n 21), .ref (n 22), .ref (n 23)])), ((n 1), .inl (k 0, 99, .inl fworld)), ((n 7), .inl (k 0, 12, .inl (u_2.2.2.1 1))), ((n 8), .inl (k 0, 12, .inl (u_2.2.2.1 2))), ((n 9), .inl (k 0, 4, .inl (u_2.2.2.1 3))), ((n 10), .inl (k 0, 12, .inl (u_2.2.2.1 0))), ((n 11), .inl (k 0, 14, .inl fmoreHead)), ((n 12), .inl (k 0, 14, .inl fmoreView)), ((n 13), .inl (k 0, 17, .inl (u_131.2.2.1 0))), ((n 14), .inl (k 0, 17, .inl (u_131.2.2.1 1))), ((n 15), .inl (k 0, 17, .inl (u_131.2.2.1 2)))]) S hK hP hD hS 0 rfl cfX11 40 lkX11_468 (by decide) rfl rfl rfl (Nat.le_of_ble_eq_true rfl) rfl dX11_layWet_139 (fun H locs hP hD hS => ?_)
                  refine lv_aload_n hx hb dX11_layWet_142 rfl (lv_at hl 3 rfl) ?_
                  refine lv_dup hx hb dX11_layWet_143 rfl ?_
                  refine x_get S hK hP 0 rfl cfX11 41 lkX11_471 (by decide) rfl dX11_layWet_144 ?_
                  refine lv_lload hx hb dX11_layWet_147 (lv_at hl 1 rfl) ?_
                  refine lv_aload_n hx hb dX11_layWet_149 rfl (lv_at hl 3 rfl) ?_
                  refine x_get S hK hP 0 rfl cfX11 25 lkX11_52 (by decide) rfl dX11_layWet_150 ?_
                  refine lv_iload_n hx hb dX11_layWet_153 rfl (lv_at hl 6 rfl) ?_
                  refine lv_iconst (v := 1) hx hb dX11_layWet_154 (by decide) ?_
                  refine lv_iadd hx hb dX11_layWet_155 ?_
                  refine x_is (nI (p2 + 1)) (ni_add rfl (by decide)) ?_
                  refine x_iald S hK hP 8 rfl (vp_in_nI (by omega) (by decide)) dX11_layWet_156 ?_
                  refine lv_topi (fun v_137 ev_137 => ?_)
                  refine x_roSi (As := [.int v_137]) S hK hP hD hZ (fun _ h => h) hA hS hA hl mwX11_bits lkX11_296 (ctX11_bits l D k z v_137 ) [] rfl (by decide) rfl rfl ⟨Nat.le_of_ble_eq_true rfl, Nat.le_of_ble_eq_true rfl, Nat.le_of_ble_eq_true rfl⟩ dX11_layWet_157 ⟨Nat.le_of_ble_eq_true rfl, Nat.le_of_ble_eq_true rfl⟩ (fun r_138 H locs hr_138 hP hS => ?_)
                  obtain ⟨rfl, hg_140⟩ := hr_138
                  refine lv_i2l (v := (nI (pcn v_137 16)).toInt64) hx hb dX11_layWet_160 rfl ?_
                  refine lv_lmul hx hb dX11_layWet_161 ?_
                  refine lv_topl (fun v_141 ev_141 => ?_)
                  refine lv_ladd hx hb dX11_layWet_162 ?_
                  refine lv_topl (fun v_142 ev_142 => ?_)
                  refine x_put (ws' := [((n 0), .inr (11, [.int mthrown, .ref (n 1), .ref (n 2), .ref (n 3), .ref (n 4), .int (nI mtaped), .ref (n 5), .int (nI msize), .int (nI mat), .int (nI mfrom), .int mtoken, .int mvalue, .int mfaultKind, .int mfaultPlace, .ref (n 6), .ref (n 7), .ref (n 8), .ref (n 9), .ref (n 10), .ref (n 11), .ref (n 12), .int (nI (u_2.2.1 0)), .int (u_2.1 0), .int (nI j_102), .int (u_2.1 2), .ref (n 13), .ref (n 14), .ref (n 15), .int (u_131.1 0), .int (u_131.1 1), .int (u_131.1 2), .ref (n 16), .ref (n 17), .int mroundNow, .ref (n 18), .long msampleFor, .long msampleAll, .ref (n 19), .int maskWorst, .long v_132, .long v_136, .long v_142, .ref (n 20), .ref (n 21), .ref (n 22), .ref (n 23)])), ((n 1), .inl (k 0, 99, .inl fworld)), ((n 7), .inl (k 0, 12, .inl (u_2.2.2.1 1))), ((n 8), .inl (k 0, 12, .inl (u_2.2.2.1 2))), ((n 9), .inl (k 0, 4, .inl (u_2.2.2.1 3))), ((n 10), .inl (k 0, 12, .inl (u_2.2.2.1 0))), ((n 11), .inl (k 0, 14, .inl fmoreHead)), ((n 12), .inl (k 0, 14, .inl fmoreView)), ((n 13), .inl (k 0, 17, .inl (u_131.2.2.1 0))), ((n 14), .inl (k 0, 17, .inl (u_131.2.2.1 1))), ((n 15), .inl (k 0, 17, .inl (u_131.2.2.1 2)))]) S hK hP hD hS 0 rfl cfX11 41 lkX11_471 (by decide) rfl rfl rfl (Nat.le_of_ble_eq_true rfl) rfl dX11_layWet_163 (fun H locs hP hD hS => ?_)
                  refine lv_iinc (v := (nI (j_102 + 1))) (lv' := [(4, .int (nI (j_102 + 1))), (7, .int (nI j_125)), (5, .long x_126), (0, .ref (n 0)), (1, .int p0), (2, .int p1), (3, .int (nI p2))]) hx hb dX11_layWet_166 hl (k := 2) rfl (ni_inc _) (by decide) rfl (fun ls hl => ?_)
                  refine lv_goto (tgt := 22) hx hb dX11_layWet_169 (by decide) ?_
                  exact ihj_102 (j_102 + 1) (nI j_102) (u_131.1 0) (u_131.1 1) (u_131.1 2) v_132 v_142 (u_131.2.2.1 0) (u_131.2.2.1 1) (u_131.2.2.1 2) v_136 _ _ _ (by omega) (by omega) (smm_1 hsm hprd ev_132 (by omega)) hP hD hS (lv_sub hl [0, 3, 4, 5, 6] rfl)
                · skip
                  refine lv_lload hx hb dX11_layWet_132 (lv_at hl 1 rfl) ?_
                  refine lv_goto (tgt := 138) hx hb dX11_layWet_134 (by decide) ?_
                  refine lv_ladd hx hb dX11_layWet_138 ?_
                  refine lv_topl (fun v_143 ev_143 => ?_)
                  refine x_put (ws' := [((n 0), .inr (11, [.int mthrown, .ref (n 1), .ref (n 2), .ref (n 3), .ref (n 4), .int (nI mtaped), .ref (n 5), .int (nI msize), .int (nI mat), .int (nI mfrom), .int mtoken, .int mvalue, .int mfaultKind, .int mfaultPlace, .ref (n 6), .ref (n 7), .ref (n 8), .ref (n 9), .ref (n 10), .ref (n 11), .ref (n 12), .int (nI (u_2.2.1 0)), .int (u_2.1 0), .int (nI j_102), .int (u_2.1 2), .ref (n 13), .ref (n 14), .ref (n 15), .int (u_131.1 0), .int (u_131.1 1), .int (u_131.1 2), .ref (n 16), .ref (n 17), .int mroundNow, .ref (n 18), .long msampleFor, .long msampleAll, .ref (n 19), .int maskWorst, .long v_132, .long v_143, .long x_108, .ref (n 20), .ref (n 21), .ref (n 22), .ref (n 23)])), ((n 1), .inl (k 0, 99, .inl fworld)), ((n 7), .inl (k 0, 12, .inl (u_2.2.2.1 1))), ((n 8), .inl (k 0, 12, .inl (u_2.2.2.1 2))), ((n 9), .inl (k 0, 4, .inl (u_2.2.2.1 3))), ((n 10), .inl (k 0, 12, .inl (u_2.2.2.1 0))), ((n 11), .inl (k 0, 14, .inl fmoreHead)), ((n 12), .inl (k 0, 14, .inl fmoreView)), ((n 13), .inl (k 0, 17, .inl (u_131.2.2.1 0))), ((n 14), .inl (k 0, 17, .inl (u_131.2.2.1 1))), ((n 15), .inl (k 0, 17, .inl (u_131.2.2.1 2)))]) S hK hP hD hS 0 rfl cfX11 40 lkX11_468 (by decide) rfl rfl rfl (Nat.le_of_ble_eq_true rfl) rfl dX11_layWet_139 (fun H locs hP hD hS => ?_)
                  refine lv_aload_n hx hb dX11_layWet_142 rfl (lv_at hl 3 rfl) ?_
                  refine lv_dup hx hb dX11_layWet_143 rfl ?_
                  refine x_get S hK hP 0 rfl cfX11 41 lkX11_471 (by decide) rfl dX11_layWet_144 ?_
                  refine lv_lload hx hb dX11_layWet_147 (lv_at hl 1 rfl) ?_
                  refine lv_aload_n hx hb dX11_layWet_149 rfl (lv_at hl 3 rfl) ?_
                  refine x_get S hK hP 0 rfl cfX11 25 lkX11_52 (by decide) rfl dX11_layWet_150 ?_
                  refine lv_iload_n hx hb dX11_layWet_153 rfl (lv_at hl 6 rfl) ?_
                  refine lv_iconst (v := 1) hx hb dX11_layWet_154 (by decide) ?_
                  refine lv_iadd hx hb dX11_layWet_155 ?_
                  refine x_is (nI (p2 + 1)) (ni_add rfl (by decide)) ?_
                  refine x_iald S hK hP 8 rfl (vp_in_nI (by omega) (by decide)) dX11_layWet_156 ?_
                  refine lv_topi (fun v_144 ev_144 => ?_)
                  refine x_roSi (As := [.int v_144]) S hK hP hD hZ (fun _ h => h) hA hS hA hl mwX11_bits lkX11_296 (ctX11_bits l D k z v_144 ) [] rfl (by decide) rfl rfl ⟨Nat.le_of_ble_eq_true rfl, Nat.le_of_ble_eq_true rfl, Nat.le_of_ble_eq_true rfl⟩ dX11_layWet_157 ⟨Nat.le_of_ble_eq_true rfl, Nat.le_of_ble_eq_true rfl⟩ (fun r_145 H locs hr_145 hP hS => ?_)
                  obtain ⟨rfl, hg_147⟩ := hr_145
                  refine lv_i2l (v := (nI (pcn v_144 16)).toInt64) hx hb dX11_layWet_160 rfl ?_
                  refine lv_lmul hx hb dX11_layWet_161 ?_
                  refine lv_topl (fun v_148 ev_148 => ?_)
                  refine lv_ladd hx hb dX11_layWet_162 ?_
                  refine lv_topl (fun v_149 ev_149 => ?_)
                  refine x_put (ws' := [((n 0), .inr (11, [.int mthrown, .ref (n 1), .ref (n 2), .ref (n 3), .ref (n 4), .int (nI mtaped), .ref (n 5), .int (nI msize), .int (nI mat), .int (nI mfrom), .int mtoken, .int mvalue, .int mfaultKind, .int mfaultPlace, .ref (n 6), .ref (n 7), .ref (n 8), .ref (n 9), .ref (n 10), .ref (n 11), .ref (n 12), .int (nI (u_2.2.1 0)), .int (u_2.1 0), .int (nI j_102), .int (u_2.1 2), .ref (n 13), .ref (n 14), .ref (n 15), .int (u_131.1 0), .int (u_131.1 1), .int (u_131.1 2), .ref (n 16), .ref (n 17), .int mroundNow, .ref (n 18), .long msampleFor, .long msampleAll, .ref (n 19), .int maskWorst, .long v_132, .long v_143, .long v_149, .ref (n 20), .ref (n 21), .ref (n 22), .ref (n 23)])), ((n 1), .inl (k 0, 99, .inl fworld)), ((n 7), .inl (k 0, 12, .inl (u_2.2.2.1 1))), ((n 8), .inl (k 0, 12, .inl (u_2.2.2.1 2))), ((n 9), .inl (k 0, 4, .inl (u_2.2.2.1 3))), ((n 10), .inl (k 0, 12, .inl (u_2.2.2.1 0))), ((n 11), .inl (k 0, 14, .inl fmoreHead)), ((n 12), .inl (k 0, 14, .inl fmoreView)), ((n 13), .inl (k 0, 17, .inl (u_131.2.2.1 0))), ((n 14), .inl (k 0, 17, .inl (u_131.2.2.1 1))), ((n 15), .inl (k 0, 17, .inl (u_131.2.2.1 2)))]) S hK hP hD hS 0 rfl cfX11 41 lkX11_471 (by decide) rfl rfl rfl (Nat.le_of_ble_eq_true rfl) rfl dX11_layWet_163 (fun H locs hP hD hS => ?_)
                  refine lv_iinc (v := (nI (j_102 + 1))) (lv' := [(4, .int (nI (j_102 + 1))), (7, .int (nI j_125)), (5, .long x_126), (0, .ref (n 0)), (1, .int p0), (2, .int p1), (3, .int (nI p2))]) hx hb dX11_layWet_166 hl (k := 2) rfl (ni_inc _) (by decide) rfl (fun ls hl => ?_)
                  refine lv_goto (tgt := 22) hx hb dX11_layWet_169 (by decide) ?_
                  exact ihj_102 (j_102 + 1) (nI j_102) (u_131.1 0) (u_131.1 1) (u_131.1 2) v_132 v_149 (u_131.2.2.1 0) (u_131.2.2.1 1) (u_131.2.2.1 2) v_143 _ _ _ (by omega) (by omega) (smm_1 hsm hprd ev_132 (by omega)) hP hD hS (lv_sub hl [0, 3, 4, 5, 6] rfl)
              · skip
                have c_129 : x_126 = 0 := (lg_cmp_eq _ _).mp c_129
                refine lv_goto (tgt := 166) hx hb dX11_layWet_91 (by decide) ?_
                refine lv_iinc (v := (nI (j_102 + 1))) (lv' := [(4, .int (nI (j_102 + 1))), (7, .int (nI j_125)), (5, .long x_126), (0, .ref (n 0)), (1, .int p0), (2, .int p1), (3, .int (nI p2))]) hx hb dX11_layWet_166 hl (k := 2) rfl (ni_inc _) (by decide) rfl (fun ls hl => ?_)
                refine lv_goto (tgt := 22) hx hb dX11_layWet_169 (by decide) ?_
                exact ihj_102 (j_102 + 1) x_103 x_104 x_105 x_106 x_107 x_108 g_109 g_110 g_111 x_112 _ _ _ (by omega) (by omega) (smm_0 hsm hprd c_129 (by omega)) hP hD hS (lv_sub hl [0, 3, 4, 5, 6] rfl)
            · skip
              have c_128 : ¬ p2 < j_125 := fun q => c_128 ((ni_lt rfl rfl (by omega) (by omega)).mpr q)
              refine lv_lload hx hb dX11_layWet_42 (lv_at hl 1 rfl) ?_
              refine lv_iload hx hb dX11_layWet_44 (lv_at hl 2 rfl) ?_
              refine lv_iload hx hb dX11_layWet_46 (lv_at hl 0 rfl) ?_
              refine x_roSi (As := [.int (nI j_102), .int (nI j_125)]) S hK hP hD hZ (fun _ h => h) hA hS hA hl mwX11_bit lkX11_274 (ctX11_bit_n l D k z j_102 j_125 (by omega) (by omega)) [] rfl (by decide) rfl rfl ⟨Nat.le_of_ble_eq_true rfl, Nat.le_of_ble_eq_true rfl, Nat.le_of_ble_eq_true rfl⟩ dX11_layWet_48 ⟨Nat.le_of_ble_eq_true rfl, Nat.le_of_ble_eq_true rfl⟩ (fun r_150 H locs hr_150 hP hS => ?_)
              obtain rfl := hr_150
              refine lv_iconst (v := 1) hx hb dX11_layWet_51 (by decide) ?_
              refine lv_icmp_ne (tgt := 65) hx hb dX11_layWet_52 (by decide) (fun c_152 => ?_) (fun c_152 => ?_)
              · skip
                have c_152 : ¬ j_102 / 2 ^ j_125 % 2 = 1 := fun q => c_152 ((ni_eq rfl (by decide) (by omega) (by omega)).mpr q)
                refine lv_bipush (v := 10) hx hb dX11_layWet_65 (by decide) ?_
                refine lv_aload_n hx hb dX11_layWet_67 rfl (lv_at hl 3 rfl) ?_
                refine x_get S hK hP 0 rfl cfX11 1 lkX11_9 (by decide) rfl dX11_layWet_68 ?_
                refine lv_iconst (v := 2) hx hb dX11_layWet_71 (by decide) ?_
                refine x_iald S hK hP 1 rfl (vp_lit (by decide)) dX11_layWet_72 ?_
                refine x_is (nI (wn fworld 2)) ((cl_at (f := fworld) (a := 2) (by decide) (by omega)).trans (okW_at hkworld (i := 2) (by omega))) ?_
                refine lv_isub hx hb dX11_layWet_73 ?_
                refine x_is (nI (10 - (wn fworld 2))) (ni_sub (by decide) rfl (by omega)) ?_
                refine lv_i2l (v := (nI (10 - (wn fworld 2))).toInt64) hx hb dX11_layWet_74 rfl ?_
                refine lv_lmul hx hb dX11_layWet_75 ?_
                refine lv_topl (fun v_153 ev_153 => ?_)
                refine lv_lstore (lv' := [(5, .long v_153), (7, .int (nI j_125)), (4, .int (nI j_102)), (0, .ref (n 0)), (1, .int p0), (2, .int p1), (3, .int (nI p2))]) hx hb dX11_layWet_76 hl (by decide) rfl (fun ls hl => ?_)
                refine lv_iinc (v := (nI (j_125 + 1))) (lv' := [(7, .int (nI (j_125 + 1))), (5, .long v_153), (4, .int (nI j_102)), (0, .ref (n 0)), (1, .int p0), (2, .int p1), (3, .int (nI p2))]) hx hb dX11_layWet_78 hl (k := 1) rfl (ni_inc _) (by decide) rfl (fun ls hl => ?_)
                refine lv_goto (tgt := 36) hx hb dX11_layWet_81 (by decide) ?_
                exact ihj_125 (j_125 + 1) v_153 _ _ _ (by omega) (by omega) (prd_n hprd ev_153 c_152 (by omega)) hP hD hS (lv_sub hl [0, 1, 2, 3, 4, 5, 6] rfl)
              · skip
                have c_152 : j_102 / 2 ^ j_125 % 2 = 1 := (ni_eq rfl (by decide) (by omega) (by omega)).mp c_152
                refine lv_aload_n hx hb dX11_layWet_55 rfl (lv_at hl 3 rfl) ?_
                refine x_get S hK hP 0 rfl cfX11 1 lkX11_9 (by decide) rfl dX11_layWet_56 ?_
                refine lv_iconst (v := 2) hx hb dX11_layWet_59 (by decide) ?_
                refine x_iald S hK hP 1 rfl (vp_lit (by decide)) dX11_layWet_60 ?_
                refine x_is (nI (wn fworld 2)) ((cl_at (f := fworld) (a := 2) (by decide) (by omega)).trans (okW_at hkworld (i := 2) (by omega))) ?_
                refine lv_i2l (v := (nI (wn fworld 2)).toInt64) hx hb dX11_layWet_61 rfl ?_
                refine lv_goto (tgt := 75) hx hb dX11_layWet_62 (by decide) ?_
                refine lv_lmul hx hb dX11_layWet_75 ?_
                refine lv_topl (fun v_154 ev_154 => ?_)
                refine lv_lstore (lv' := [(5, .long v_154), (7, .int (nI j_125)), (4, .int (nI j_102)), (0, .ref (n 0)), (1, .int p0), (2, .int p1), (3, .int (nI p2))]) hx hb dX11_layWet_76 hl (by decide) rfl (fun ls hl => ?_)
                refine lv_iinc (v := (nI (j_125 + 1))) (lv' := [(7, .int (nI (j_125 + 1))), (5, .long v_154), (4, .int (nI j_102)), (0, .ref (n 0)), (1, .int p0), (2, .int p1), (3, .int (nI p2))]) hx hb dX11_layWet_78 hl (k := 1) rfl (ni_inc _) (by decide) rfl (fun ls hl => ?_)
                refine lv_goto (tgt := 36) hx hb dX11_layWet_81 (by decide) ?_
                exact ihj_125 (j_125 + 1) v_154 _ _ _ (by omega) (by omega) (prd_y hprd ev_154 c_152 (by omega)) hP hD hS (lv_sub hl [0, 1, 2, 3, 4, 5, 6] rfl)
        exact lp_127 (p2 + 1 + 1) 0 1 _ _ _ (by omega) (by omega) (prd_i _ _) hP hD hS (lv_sub hl [0, 1, 2, 3, 4, 5, 6] rfl)
  exact lp_113 (2 ^ (p2 + 1) + 1) 0 (u_2.1 1) mones mtwos mgone 0 0 fonesAt ftwosAt fgoneAt 0 _ _ _ (by omega) (by omega) (smm_i _ _) hP hD hS (lv_sub hl [0, 1, 2, 3, 4] rfl)

set_option maxHeartbeats 4000000 in
set_option maxRecDepth 100000 in
theorem ctX11_isWet (l : Launch) (D : va_G) (k : Nat → ClassId) (z : Nat → Nat) (n : Nat → Nat) (mthrown : Int32) (mtaped : Nat) (msize : Nat) (mat : Nat) (mfrom : Nat) (mtoken : Int32) (mvalue : Int32) (mfaultKind : Int32) (mfaultPlace : Int32) (mmoreMany : Nat) (mlawNow : Int32) (mwetSet : Int32) (moverAll : Int32) (mones : Int32) (mtwos : Int32) (mgone : Int32) (mroundNow : Int32) (msampleFor : Int64) (msampleAll : Int64) (maskWorst : Int32) (moftenAll : Int64) (moftenView : Int64) (moftenOnes : Int64) (fworld : Nat → Int32) (p0 : Int32) (p1 : Int32) (hmtaped : mtaped ≤ 600) (hmsize : msize ≤ 600) (hmat : mat ≤ 600) (hmfrom : mfrom ≤ 600) (hmmoreMany : mmoreMany ≤ 14) (hkworld : okW fworld) : RO l yX11_isWet cX11_isWet 3 (some .boolean) 1 D k z [.ref (n 0), .int p0, .int p1] [((n 0), .inr (11, [.int mthrown, .ref (n 1), .ref (n 2), .ref (n 3), .ref (n 4), .int (nI mtaped), .ref (n 5), .int (nI msize), .int (nI mat), .int (nI mfrom), .int mtoken, .int mvalue, .int mfaultKind, .int mfaultPlace, .ref (n 6), .ref (n 7), .ref (n 8), .ref (n 9), .ref (n 10), .ref (n 11), .ref (n 12), .int (nI mmoreMany), .int mlawNow, .int mwetSet, .int moverAll, .ref (n 13), .ref (n 14), .ref (n 15), .int mones, .int mtwos, .int mgone, .ref (n 16), .ref (n 17), .int mroundNow, .ref (n 18), .long msampleFor, .long msampleAll, .ref (n 19), .int maskWorst, .long moftenAll, .long moftenView, .long moftenOnes, .ref (n 20), .ref (n 21), .ref (n 22), .ref (n 23)])), ((n 1), .inl (k 0, 99, .inl fworld))] (Qi (fun r : Int32 => (r = 0 ∨ (∃ j : Nat, p0 = nI j ∧ j ≤ 7 ∧ j < wn fworld 0)) ∧ (r = 0 ∨ r = 1))) := by
  refine RO.of (by decide) (Nat.le_of_ble_eq_true rfl) ?_
  intro p e s m below meth c ls A B args Q S hr hlk hQ hK hP hDW hZ hAB hBA hA hS hl
  have hx := S.1
  have hb := S.2.1
  have hl : lv_has ls 3 [(0, .ref (n 0)), (1, .int p0), (2, .int p1)] := hl
  have hbfworld := okW_bd hkworld
  refine lv_aload_n hx hb dX11_isWet_0 rfl (lv_at hl 0 rfl) ?_
  refine x_roVi (As := []) S hK hP hDW hZ hAB hBA hS hA hl mwX11_isGarden lkX11_99 (ctX11_isGarden l D k z n mthrown mtaped msize mat mfrom mtoken mvalue mfaultKind mfaultPlace mmoreMany mlawNow mwetSet moverAll mones mtwos mgone mroundNow msampleFor msampleAll maskWorst moftenAll moftenView moftenOnes fworld (by omega) (by omega) (by omega) (by omega) (by omega) (hkworld)) [0, 1] rfl (by decide) rfl rfl rfl rfl rfl ⟨Nat.le_of_ble_eq_true rfl, Nat.le_of_ble_eq_true rfl, Nat.le_of_ble_eq_true rfl⟩ dX11_isWet_1 ⟨Nat.le_of_ble_eq_true rfl, Nat.le_of_ble_eq_true rfl⟩ (fun r_1 H locs hr_1 hP hS => ?_)
  have hz_3 := hr_1
  refine lv_if_eq (tgt := 41) hx hb dX11_isWet_4 (by decide) (fun c_4 => ?_) (fun c_4 => ?_)
  · skip
    refine lv_iconst (v := 0) hx hb dX11_isWet_41 (by decide) ?_
    exact x_retz S hr hlk hQ hS rfl () ⟨(Or.inl rfl), (Or.inl rfl)⟩ x_T dX11_isWet_42
  · skip
    refine lv_iload_n hx hb dX11_isWet_7 rfl (lv_at hl 1 rfl) ?_
    refine lv_i2l (v := p0.toInt64) hx hb dX11_isWet_8 rfl ?_
    refine lv_lconst (v := 0) hx hb dX11_isWet_9 (by decide) ?_
    refine lv_ldc2 hx hb S.2.2.2.1 (S.2.2.2.2 _ lkX11_474) dX11_isWet_10 ?_
    refine x_roSi (As := [.long p0.toInt64, .long 0, .long 7]) S hK hP hDW hZ hAB hBA hS hA hl mwX11_in lkX11_91 (ctX11_in l D k z p0.toInt64 0 7 ) [] rfl (by decide) rfl rfl ⟨Nat.le_of_ble_eq_true rfl, Nat.le_of_ble_eq_true rfl, Nat.le_of_ble_eq_true rfl⟩ dX11_isWet_13 ⟨Nat.le_of_ble_eq_true rfl, Nat.le_of_ble_eq_true rfl⟩ (fun r_5 H locs hr_5 hP hS => ?_)
    obtain rfl := hr_5
    refine lv_if_eq (tgt := 41) hx hb dX11_isWet_16 (by decide) (fun c_7 => ?_) (fun c_7 => ?_)
    · skip
      have c_7 : ¬ (0 ≤ p0.toInt64 ∧ p0.toInt64 ≤ 7) := bo_0.mp c_7
      refine lv_iconst (v := 0) hx hb dX11_isWet_41 (by decide) ?_
      exact x_retz S hr hlk hQ hS rfl () ⟨(Or.inl rfl), (Or.inl rfl)⟩ x_T dX11_isWet_42
    · skip
      have c_7 : 0 ≤ p0.toInt64 ∧ p0.toInt64 ≤ 7 := bo_1.mp c_7
      obtain ⟨kh, hkh, ekh⟩ : ∃ kh : Nat, kh < 7 + 1 ∧ p0 = nI kh := nat64g c_7 (by decide) (b := 7) (by decide)
      have hl : lv_has ls 3 [(0, .ref (n 0)), (1, .int (nI kh)), (2, .int p1)] := by rw [ekh] at hl; exact hl
      refine lv_iload_n hx hb dX11_isWet_19 rfl (lv_at hl 1 rfl) ?_
      refine lv_aload_n hx hb dX11_isWet_20 rfl (lv_at hl 0 rfl) ?_
      refine x_roVi (As := []) S hK hP hDW hZ hAB hBA hS hA hl mwX11_hours lkX11_103 (ctX11_hours l D k z n mthrown mtaped msize mat mfrom mtoken mvalue mfaultKind mfaultPlace mmoreMany mlawNow mwetSet moverAll mones mtwos mgone mroundNow msampleFor msampleAll maskWorst moftenAll moftenView moftenOnes fworld (by omega) (by omega) (by omega) (by omega) (by omega) (hkworld)) [0, 1] rfl (by decide) rfl rfl rfl rfl rfl ⟨Nat.le_of_ble_eq_true rfl, Nat.le_of_ble_eq_true rfl, Nat.le_of_ble_eq_true rfl⟩ dX11_isWet_21 ⟨Nat.le_of_ble_eq_true rfl, Nat.le_of_ble_eq_true rfl⟩ (fun r_8 H locs hr_8 hP hS => ?_)
      obtain rfl := hr_8
      refine lv_icmp_ge (tgt := 41) hx hb dX11_isWet_24 (by decide) (fun c_10 => ?_) (fun c_10 => ?_)
      · skip
        have c_10 : wn fworld 0 ≤ kh := (ni_le rfl rfl (by omega) (by omega)).mp c_10
        refine lv_iconst (v := 0) hx hb dX11_isWet_41 (by decide) ?_
        exact x_retz S hr hlk hQ hS rfl () ⟨(Or.inl rfl), (Or.inl rfl)⟩ x_T dX11_isWet_42
      · skip
        have c_10 : ¬ wn fworld 0 ≤ kh := fun q => c_10 ((ni_le rfl rfl (by omega) (by omega)).mpr q)
        refine lv_iload_n hx hb dX11_isWet_27 rfl (lv_at hl 2 rfl) ?_
        refine lv_i2l (v := p1.toInt64) hx hb dX11_isWet_28 rfl ?_
        refine lv_lconst (v := 0) hx hb dX11_isWet_29 (by decide) ?_
        refine lv_lconst (v := 1) hx hb dX11_isWet_30 (by decide) ?_
        refine x_roSi (As := [.long p1.toInt64, .long 0, .long 1]) S hK hP hDW hZ hAB hBA hS hA hl mwX11_in lkX11_91 (ctX11_in l D k z p1.toInt64 0 1 ) [] rfl (by decide) rfl rfl ⟨Nat.le_of_ble_eq_true rfl, Nat.le_of_ble_eq_true rfl, Nat.le_of_ble_eq_true rfl⟩ dX11_isWet_31 ⟨Nat.le_of_ble_eq_true rfl, Nat.le_of_ble_eq_true rfl⟩ (fun r_11 H locs hr_11 hP hS => ?_)
        obtain rfl := hr_11
        refine lv_if_eq (tgt := 41) hx hb dX11_isWet_34 (by decide) (fun c_13 => ?_) (fun c_13 => ?_)
        · skip
          have c_13 : ¬ (0 ≤ p1.toInt64 ∧ p1.toInt64 ≤ 1) := bo_0.mp c_13
          refine lv_iconst (v := 0) hx hb dX11_isWet_41 (by decide) ?_
          exact x_retz S hr hlk hQ hS rfl () ⟨(Or.inl rfl), (Or.inl rfl)⟩ x_T dX11_isWet_42
        · skip
          have c_13 : 0 ≤ p1.toInt64 ∧ p1.toInt64 ≤ 1 := bo_1.mp c_13
          refine lv_iconst (v := 1) hx hb dX11_isWet_37 (by decide) ?_
          refine lv_goto (tgt := 42) hx hb dX11_isWet_38 (by decide) ?_
          exact x_retz S hr hlk hQ hS rfl () ⟨(Or.inr ⟨kh, ekh, by omega⟩), (Or.inr rfl)⟩ x_T dX11_isWet_42

set_option maxHeartbeats 4000000 in
set_option maxRecDepth 100000 in
theorem ctX11_chance (l : Launch) (D : va_G) (k : Nat → ClassId) (z : Nat → Nat) (n : Nat → Nat) (mthrown : Int32) (mtaped : Nat) (msize : Nat) (mat : Nat) (mfrom : Nat) (mtoken : Int32) (mvalue : Int32) (mfaultKind : Int32) (mfaultPlace : Int32) (mmoreMany : Nat) (mlawNow : Int32) (mwetSet : Int32) (moverAll : Int32) (mones : Int32) (mtwos : Int32) (mgone : Int32) (mroundNow : Int32) (msampleFor : Int64) (msampleAll : Int64) (maskWorst : Int32) (moftenAll : Int64) (moftenView : Int64) (moftenOnes : Int64) (fworld : Nat → Int32) (frowOf : Nat → Int32) (fplaceOf : Nat → Int32) (ffirstOf : Nat → Int32) (fhardNow : Nat → Int32) (fmoreHead : Nat → Int32) (fmoreView : Nat → Int32) (fonesAt : Nat → Int32) (ftwosAt : Nat → Int32) (fgoneAt : Nat → Int32) (p0 : Int32) (p1 : Int32) (p2 : Int32) (p3 : Int32) (hmtaped : mtaped ≤ 600) (hmsize : msize ≤ 600) (hmat : mat ≤ 600) (hmfrom : mfrom ≤ 600) (hmmoreMany : mmoreMany ≤ 14) (hkworld : okW fworld) : MU l yX11_chance cX11_chance 5 (some .long) 8 D k z [.ref (n 0), .int p0, .int p1, .int p2, .int p3] [((n 0), .inr (11, [.int mthrown, .ref (n 1), .ref (n 2), .ref (n 3), .ref (n 4), .int (nI mtaped), .ref (n 5), .int (nI msize), .int (nI mat), .int (nI mfrom), .int mtoken, .int mvalue, .int mfaultKind, .int mfaultPlace, .ref (n 6), .ref (n 7), .ref (n 8), .ref (n 9), .ref (n 10), .ref (n 11), .ref (n 12), .int (nI mmoreMany), .int mlawNow, .int mwetSet, .int moverAll, .ref (n 13), .ref (n 14), .ref (n 15), .int mones, .int mtwos, .int mgone, .ref (n 16), .ref (n 17), .int mroundNow, .ref (n 18), .long msampleFor, .long msampleAll, .ref (n 19), .int maskWorst, .long moftenAll, .long moftenView, .long moftenOnes, .ref (n 20), .ref (n 21), .ref (n 22), .ref (n 23)])), ((n 1), .inl (k 0, 99, .inl fworld)), ((n 7), .inl (k 0, 12, .inl frowOf)), ((n 8), .inl (k 0, 12, .inl fplaceOf)), ((n 9), .inl (k 0, 4, .inl ffirstOf)), ((n 10), .inl (k 0, 12, .inl fhardNow)), ((n 11), .inl (k 0, 14, .inl fmoreHead)), ((n 12), .inl (k 0, 14, .inl fmoreView)), ((n 13), .inl (k 0, 17, .inl fonesAt)), ((n 14), .inl (k 0, 17, .inl ftwosAt)), ((n 15), .inl (k 0, 17, .inl fgoneAt))] 0 0 (Ul D (fun (r : Int64) (u : (Nat → Int32) × (Nat → Nat) × (Nat → Nat → Int32) × (Nat → Nat → Int64) × (Nat → Int64)) => (u.2.1 0 ≤ 14)) (fun u : (Nat → Int32) × (Nat → Nat) × (Nat → Nat → Int32) × (Nat → Nat → Int64) × (Nat → Int64) => [((n 0), .inr (11, [.int mthrown, .ref (n 1), .ref (n 2), .ref (n 3), .ref (n 4), .int (nI mtaped), .ref (n 5), .int (nI msize), .int (nI mat), .int (nI mfrom), .int mtoken, .int mvalue, .int mfaultKind, .int mfaultPlace, .ref (n 6), .ref (n 7), .ref (n 8), .ref (n 9), .ref (n 10), .ref (n 11), .ref (n 12), .int (nI (u.2.1 0)), .int (u.1 0), .int (u.1 1), .int (u.1 2), .ref (n 13), .ref (n 14), .ref (n 15), .int (u.1 3), .int (u.1 4), .int (u.1 5), .ref (n 16), .ref (n 17), .int mroundNow, .ref (n 18), .long msampleFor, .long msampleAll, .ref (n 19), .int maskWorst, .long (u.2.2.2.2 0), .long (u.2.2.2.2 1), .long (u.2.2.2.2 2), .ref (n 20), .ref (n 21), .ref (n 22), .ref (n 23)])), ((n 1), .inl (k 0, 99, .inl fworld)), ((n 7), .inl (k 0, 12, .inl (u.2.2.1 4))), ((n 8), .inl (k 0, 12, .inl (u.2.2.1 5))), ((n 9), .inl (k 0, 4, .inl (u.2.2.1 6))), ((n 10), .inl (k 0, 12, .inl (u.2.2.1 0))), ((n 11), .inl (k 0, 14, .inl fmoreHead)), ((n 12), .inl (k 0, 14, .inl fmoreView)), ((n 13), .inl (k 0, 17, .inl (u.2.2.1 1))), ((n 14), .inl (k 0, 17, .inl (u.2.2.1 2))), ((n 15), .inl (k 0, 17, .inl (u.2.2.1 3)))])) := by
  refine MU.of (by decide) (Nat.le_of_ble_eq_true rfl) ?_
  intro p e s m below meth c ls A args Q S hr hlk hnm hQ hK hP hD hZ hA hS hl
  have hx := S.1
  have hb := S.2.1
  have hl : lv_has ls 5 [(0, .ref (n 0)), (1, .int p0), (2, .int p1), (3, .int p2), (4, .int p3)] := hl
  have hbfworld := okW_bd hkworld
  refine lv_aload_n hx hb dX11_chance_0 rfl (lv_at hl 0 rfl) ?_
  refine lv_iload_n hx hb dX11_chance_1 rfl (lv_at hl 1 rfl) ?_
  refine lv_i2l (v := p0.toInt64) hx hb dX11_chance_2 rfl ?_
  refine x_roVi (As := [.long p0.toInt64]) S hK hP hD hZ (fun _ h => h) hA hS hA hl mwX11_isHead lkX11_237 (ctX11_isHead_i l D k z n mthrown mtaped msize mat mfrom mtoken mvalue mfaultKind mfaultPlace mmoreMany mlawNow mwetSet moverAll mones mtwos mgone mroundNow msampleFor msampleAll maskWorst moftenAll moftenView moftenOnes fworld p0 (by omega) (by omega) (by omega) (by omega) (by omega) (hkworld)) [0, 1] rfl (by decide) rfl rfl rfl rfl rfl ⟨Nat.le_of_ble_eq_true rfl, Nat.le_of_ble_eq_true rfl, Nat.le_of_ble_eq_true rfl⟩ dX11_chance_3 ⟨Nat.le_of_ble_eq_true rfl, Nat.le_of_ble_eq_true rfl⟩ (fun r_1 H locs hr_1 hP hS => ?_)
  obtain ⟨hp_3, hz_4⟩ := hr_1
  refine lv_if_eq (tgt := 27) hx hb dX11_chance_6 (by decide) (fun c_5 => ?_) (fun c_5 => ?_)
  · skip
    refine lv_ldc2 hx hb S.2.2.2.1 (S.2.2.2.2 _ lkX11_389) dX11_chance_27 ?_
    exact x_retl S hr hlk hQ hS ((fun i => ([mlawNow, mwetSet, moverAll, mones, mtwos, mgone] : List (Int32)).getD i 0), (fun i => ([mmoreMany] : List (Nat)).getD i 0), (fun i => ([fhardNow, fonesAt, ftwosAt, fgoneAt, frowOf, fplaceOf, ffirstOf] : List (Nat → Int32)).getD i (fun _ => 0)), (fun i => ([] : List (Nat → Int64)).getD i (fun _ => 0)), (fun i => ([moftenAll, moftenView, moftenOnes] : List (Int64)).getD i 0)) (show mmoreMany ≤ 14 by omega) (x_B hP hD) dX11_chance_30
  · skip
    obtain ⟨n_6, rfl, hn_6⟩ := hp_3.resolve_left c_5
    refine lv_iload_n hx hb dX11_chance_9 rfl (lv_at hl 2 rfl) ?_
    refine lv_i2l (v := p1.toInt64) hx hb dX11_chance_10 rfl ?_
    refine x_roSi (As := [.long p1.toInt64]) S hK hP hD hZ (fun _ h => h) hA hS hA hl mwX11_isAny lkX11_336 (ctX11_isAny l D k z p1.toInt64 ) [] rfl (by decide) rfl rfl ⟨Nat.le_of_ble_eq_true rfl, Nat.le_of_ble_eq_true rfl, Nat.le_of_ble_eq_true rfl⟩ dX11_chance_11 ⟨Nat.le_of_ble_eq_true rfl, Nat.le_of_ble_eq_true rfl⟩ (fun r_7 H locs hr_7 hP hS => ?_)
    obtain rfl := hr_7
    refine lv_if_eq (tgt := 27) hx hb dX11_chance_14 (by decide) (fun c_9 => ?_) (fun c_9 => ?_)
    · skip
      have c_9 : ¬ (0 ≤ p1.toInt64 ∧ p1.toInt64 ≤ 2) := bo_0.mp c_9
      refine lv_ldc2 hx hb S.2.2.2.1 (S.2.2.2.2 _ lkX11_389) dX11_chance_27 ?_
      exact x_retl S hr hlk hQ hS ((fun i => ([mlawNow, mwetSet, moverAll, mones, mtwos, mgone] : List (Int32)).getD i 0), (fun i => ([mmoreMany] : List (Nat)).getD i 0), (fun i => ([fhardNow, fonesAt, ftwosAt, fgoneAt, frowOf, fplaceOf, ffirstOf] : List (Nat → Int32)).getD i (fun _ => 0)), (fun i => ([] : List (Nat → Int64)).getD i (fun _ => 0)), (fun i => ([moftenAll, moftenView, moftenOnes] : List (Int64)).getD i 0)) (show mmoreMany ≤ 14 by omega) (x_B hP hD) dX11_chance_30
    · skip
      have c_9 : 0 ≤ p1.toInt64 ∧ p1.toInt64 ≤ 2 := bo_1.mp c_9
      refine lv_aload_n hx hb dX11_chance_17 rfl (lv_at hl 0 rfl) ?_
      refine lv_iload_n hx hb dX11_chance_18 rfl (lv_at hl 3 rfl) ?_
      refine lv_iload hx hb dX11_chance_19 (lv_at hl 4 rfl) ?_
      refine x_roVi (As := [.int p2, .int p3]) S hK hP hD hZ (fun _ h => h) hA hS hA hl mwX11_isWet lkX11_476 (ctX11_isWet l D k z n mthrown mtaped msize mat mfrom mtoken mvalue mfaultKind mfaultPlace mmoreMany mlawNow mwetSet moverAll mones mtwos mgone mroundNow msampleFor msampleAll maskWorst moftenAll moftenView moftenOnes fworld p2 p3 (by omega) (by omega) (by omega) (by omega) (by omega) (hkworld)) [0, 1] rfl (by decide) rfl rfl rfl rfl rfl ⟨Nat.le_of_ble_eq_true rfl, Nat.le_of_ble_eq_true rfl, Nat.le_of_ble_eq_true rfl⟩ dX11_chance_21 ⟨Nat.le_of_ble_eq_true rfl, Nat.le_of_ble_eq_true rfl⟩ (fun r_10 H locs hr_10 hP hS => ?_)
      obtain ⟨hp_12, hz_13⟩ := hr_10
      refine lv_if_ne (tgt := 31) hx hb dX11_chance_24 (by decide) (fun c_14 => ?_) (fun c_14 => ?_)
      · skip
        obtain ⟨n_15, rfl, hn_15⟩ := hp_12.resolve_left c_14
        refine lv_aload_n hx hb dX11_chance_31 rfl (lv_at hl 0 rfl) ?_
        refine lv_iload_n hx hb dX11_chance_32 rfl (lv_at hl 1 rfl) ?_
        refine lv_iload_n hx hb dX11_chance_33 rfl (lv_at hl 2 rfl) ?_
        refine lv_iload_n hx hb dX11_chance_34 rfl (lv_at hl 3 rfl) ?_
        refine x_muVv (wr := []) (As := [.int (nI n_6), .int p1, .int (nI n_15)]) S hK hP hD hZ hS hA hl mwX11_layWet lkX11_479 (ctX11_layWet l D k z n mthrown mtaped msize mat mfrom mtoken mvalue mfaultKind mfaultPlace mmoreMany mlawNow mwetSet moverAll mones mtwos mgone mroundNow msampleFor msampleAll maskWorst moftenAll moftenView moftenOnes fworld frowOf fplaceOf ffirstOf fhardNow fmoreHead fmoreView fonesAt ftwosAt fgoneAt (nI n_6) p1 n_15 (by omega) (by omega) (by omega) (by omega) (by omega) (hkworld) (by omega) (by omega)) [0, 1, 2, 3, 4, 5, 6, 7, 8, 9, 10] [] rfl rfl (by decide) (by decide) (by decide) rfl rfl rfl rfl rfl ⟨Nat.le_of_ble_eq_true rfl, Nat.le_of_ble_eq_true rfl, Nat.le_of_ble_eq_true rfl⟩ dX11_chance_35 ⟨Nat.le_of_ble_eq_true rfl, Nat.le_of_ble_eq_true rfl⟩ (fun u_17 H locs hr_16 hP hD hS => ?_)
        have hP : va_P D vwCl [((n 0), .inr (11, [.int mthrown, .ref (n 1), .ref (n 2), .ref (n 3), .ref (n 4), .int (nI mtaped), .ref (n 5), .int (nI msize), .int (nI mat), .int (nI mfrom), .int mtoken, .int mvalue, .int mfaultKind, .int mfaultPlace, .ref (n 6), .ref (n 7), .ref (n 8), .ref (n 9), .ref (n 10), .ref (n 11), .ref (n 12), .int (nI (u_17.2.1 0)), .int (u_17.1 0), .int (u_17.1 1), .int (u_17.1 2), .ref (n 13), .ref (n 14), .ref (n 15), .int (u_17.1 3), .int (u_17.1 4), .int (u_17.1 5), .ref (n 16), .ref (n 17), .int mroundNow, .ref (n 18), .long msampleFor, .long msampleAll, .ref (n 19), .int maskWorst, .long (u_17.2.2.2.2 0), .long (u_17.2.2.2.2 1), .long (u_17.2.2.2.2 2), .ref (n 20), .ref (n 21), .ref (n 22), .ref (n 23)])), ((n 1), .inl (k 0, 99, .inl fworld)), ((n 7), .inl (k 0, 12, .inl (u_17.2.2.1 4))), ((n 8), .inl (k 0, 12, .inl (u_17.2.2.1 5))), ((n 9), .inl (k 0, 4, .inl (u_17.2.2.1 6))), ((n 10), .inl (k 0, 12, .inl (u_17.2.2.1 0))), ((n 11), .inl (k 0, 14, .inl fmoreHead)), ((n 12), .inl (k 0, 14, .inl fmoreView)), ((n 13), .inl (k 0, 17, .inl (u_17.2.2.1 1))), ((n 14), .inl (k 0, 17, .inl (u_17.2.2.1 2))), ((n 15), .inl (k 0, 17, .inl (u_17.2.2.1 3)))] H := hP.sub [0, 1, 2, 3, 4, 5, 6, 7, 8, 9, 10] rfl
        have hD : va_D A [((n 0), .inr (11, [.int mthrown, .ref (n 1), .ref (n 2), .ref (n 3), .ref (n 4), .int (nI mtaped), .ref (n 5), .int (nI msize), .int (nI mat), .int (nI mfrom), .int mtoken, .int mvalue, .int mfaultKind, .int mfaultPlace, .ref (n 6), .ref (n 7), .ref (n 8), .ref (n 9), .ref (n 10), .ref (n 11), .ref (n 12), .int (nI (u_17.2.1 0)), .int (u_17.1 0), .int (u_17.1 1), .int (u_17.1 2), .ref (n 13), .ref (n 14), .ref (n 15), .int (u_17.1 3), .int (u_17.1 4), .int (u_17.1 5), .ref (n 16), .ref (n 17), .int mroundNow, .ref (n 18), .long msampleFor, .long msampleAll, .ref (n 19), .int maskWorst, .long (u_17.2.2.2.2 0), .long (u_17.2.2.2.2 1), .long (u_17.2.2.2.2 2), .ref (n 20), .ref (n 21), .ref (n 22), .ref (n 23)])), ((n 1), .inl (k 0, 99, .inl fworld)), ((n 7), .inl (k 0, 12, .inl (u_17.2.2.1 4))), ((n 8), .inl (k 0, 12, .inl (u_17.2.2.1 5))), ((n 9), .inl (k 0, 4, .inl (u_17.2.2.1 6))), ((n 10), .inl (k 0, 12, .inl (u_17.2.2.1 0))), ((n 11), .inl (k 0, 14, .inl fmoreHead)), ((n 12), .inl (k 0, 14, .inl fmoreView)), ((n 13), .inl (k 0, 17, .inl (u_17.2.2.1 1))), ((n 14), .inl (k 0, 17, .inl (u_17.2.2.1 2))), ((n 15), .inl (k 0, 17, .inl (u_17.2.2.1 3)))] := hD.sub [0, 1, 2, 3, 4, 5, 6, 7, 8, 9, 10] (by decide) rfl
        obtain ⟨hg_18, hg_19⟩ := hr_16
        refine lv_aload_n hx hb dX11_chance_38 rfl (lv_at hl 0 rfl) ?_
        refine x_get S hK hP 0 rfl cfX11 40 lkX11_468 (by decide) rfl dX11_chance_39 ?_
        refine lv_aload_n hx hb dX11_chance_42 rfl (lv_at hl 0 rfl) ?_
        refine x_get S hK hP 0 rfl cfX11 39 lkX11_465 (by decide) rfl dX11_chance_43 ?_
        refine lv_iload hx hb dX11_chance_46 (lv_at hl 4 rfl) ?_
        refine x_roSl (As := [.long (u_17.2.2.2.2 1), .long (u_17.2.2.2.2 0), .int p3]) S hK hP hD hZ (fun _ h => h) hA hS hA hl mwX11_part lkX11_397 (ctX11_part l D k z (u_17.2.2.2.2 1) (u_17.2.2.2.2 0) p3 (hg_19)) [] rfl (by decide) rfl rfl ⟨Nat.le_of_ble_eq_true rfl, Nat.le_of_ble_eq_true rfl, Nat.le_of_ble_eq_true rfl⟩ dX11_chance_48 ⟨Nat.le_of_ble_eq_true rfl, Nat.le_of_ble_eq_true rfl⟩ (fun r_20 H locs hr_20 hP hS => ?_)
        exact x_retl S hr hlk hQ hS ((fun i => ([(u_17.1 0), (u_17.1 1), (u_17.1 2), (u_17.1 3), (u_17.1 4), (u_17.1 5)] : List (Int32)).getD i 0), (fun i => ([u_17.2.1 0] : List (Nat)).getD i 0), (fun i => ([(u_17.2.2.1 0), (u_17.2.2.1 1), (u_17.2.2.1 2), (u_17.2.2.1 3), (u_17.2.2.1 4), (u_17.2.2.1 5), (u_17.2.2.1 6)] : List (Nat → Int32)).getD i (fun _ => 0)), (fun i => ([] : List (Nat → Int64)).getD i (fun _ => 0)), (fun i => ([(u_17.2.2.2.2 0), (u_17.2.2.2.2 1), (u_17.2.2.2.2 2)] : List (Int64)).getD i 0)) (show u_17.2.1 0 ≤ 14 by omega) (x_B hP hD) dX11_chance_51
      · skip
        refine lv_ldc2 hx hb S.2.2.2.1 (S.2.2.2.2 _ lkX11_389) dX11_chance_27 ?_
        exact x_retl S hr hlk hQ hS ((fun i => ([mlawNow, mwetSet, moverAll, mones, mtwos, mgone] : List (Int32)).getD i 0), (fun i => ([mmoreMany] : List (Nat)).getD i 0), (fun i => ([fhardNow, fonesAt, ftwosAt, fgoneAt, frowOf, fplaceOf, ffirstOf] : List (Nat → Int32)).getD i (fun _ => 0)), (fun i => ([] : List (Nat → Int64)).getD i (fun _ => 0)), (fun i => ([moftenAll, moftenView, moftenOnes] : List (Int64)).getD i 0)) (show mmoreMany ≤ 14 by omega) (x_B hP hD) dX11_chance_30

set_option maxHeartbeats 4000000 in
set_option maxRecDepth 100000 in
theorem ctX11_mean (l : Launch) (D : va_G) (k : Nat → ClassId) (z : Nat → Nat) (n : Nat → Nat) (mthrown : Int32) (mtaped : Nat) (msize : Nat) (mat : Nat) (mfrom : Nat) (mtoken : Int32) (mvalue : Int32) (mfaultKind : Int32) (mfaultPlace : Int32) (mmoreMany : Nat) (mlawNow : Int32) (mwetSet : Int32) (moverAll : Int32) (mones : Int32) (mtwos : Int32) (mgone : Int32) (mroundNow : Int32) (msampleFor : Int64) (msampleAll : Int64) (maskWorst : Int32) (moftenAll : Int64) (moftenView : Int64) (moftenOnes : Int64) (fworld : Nat → Int32) (frowOf : Nat → Int32) (fplaceOf : Nat → Int32) (ffirstOf : Nat → Int32) (fhardNow : Nat → Int32) (fmoreHead : Nat → Int32) (fmoreView : Nat → Int32) (fonesAt : Nat → Int32) (ftwosAt : Nat → Int32) (fgoneAt : Nat → Int32) (p0 : Int32) (p1 : Int32) (hmtaped : mtaped ≤ 600) (hmsize : msize ≤ 600) (hmat : mat ≤ 600) (hmfrom : mfrom ≤ 600) (hmmoreMany : mmoreMany ≤ 14) (hkworld : okW fworld) : MU l yX11_mean cX11_mean 3 (some .long) 8 D k z [.ref (n 0), .int p0, .int p1] [((n 0), .inr (11, [.int mthrown, .ref (n 1), .ref (n 2), .ref (n 3), .ref (n 4), .int (nI mtaped), .ref (n 5), .int (nI msize), .int (nI mat), .int (nI mfrom), .int mtoken, .int mvalue, .int mfaultKind, .int mfaultPlace, .ref (n 6), .ref (n 7), .ref (n 8), .ref (n 9), .ref (n 10), .ref (n 11), .ref (n 12), .int (nI mmoreMany), .int mlawNow, .int mwetSet, .int moverAll, .ref (n 13), .ref (n 14), .ref (n 15), .int mones, .int mtwos, .int mgone, .ref (n 16), .ref (n 17), .int mroundNow, .ref (n 18), .long msampleFor, .long msampleAll, .ref (n 19), .int maskWorst, .long moftenAll, .long moftenView, .long moftenOnes, .ref (n 20), .ref (n 21), .ref (n 22), .ref (n 23)])), ((n 1), .inl (k 0, 99, .inl fworld)), ((n 7), .inl (k 0, 12, .inl frowOf)), ((n 8), .inl (k 0, 12, .inl fplaceOf)), ((n 9), .inl (k 0, 4, .inl ffirstOf)), ((n 10), .inl (k 0, 12, .inl fhardNow)), ((n 11), .inl (k 0, 14, .inl fmoreHead)), ((n 12), .inl (k 0, 14, .inl fmoreView)), ((n 13), .inl (k 0, 17, .inl fonesAt)), ((n 14), .inl (k 0, 17, .inl ftwosAt)), ((n 15), .inl (k 0, 17, .inl fgoneAt))] 0 0 (Ul D (fun (r : Int64) (u : (Nat → Int32) × (Nat → Nat) × (Nat → Nat → Int32) × (Nat → Nat → Int64) × (Nat → Int64)) => (u.2.1 0 ≤ 14)) (fun u : (Nat → Int32) × (Nat → Nat) × (Nat → Nat → Int32) × (Nat → Nat → Int64) × (Nat → Int64) => [((n 0), .inr (11, [.int mthrown, .ref (n 1), .ref (n 2), .ref (n 3), .ref (n 4), .int (nI mtaped), .ref (n 5), .int (nI msize), .int (nI mat), .int (nI mfrom), .int mtoken, .int mvalue, .int mfaultKind, .int mfaultPlace, .ref (n 6), .ref (n 7), .ref (n 8), .ref (n 9), .ref (n 10), .ref (n 11), .ref (n 12), .int (nI (u.2.1 0)), .int (u.1 0), .int (u.1 1), .int (u.1 2), .ref (n 13), .ref (n 14), .ref (n 15), .int (u.1 3), .int (u.1 4), .int (u.1 5), .ref (n 16), .ref (n 17), .int mroundNow, .ref (n 18), .long msampleFor, .long msampleAll, .ref (n 19), .int maskWorst, .long (u.2.2.2.2 0), .long (u.2.2.2.2 1), .long (u.2.2.2.2 2), .ref (n 20), .ref (n 21), .ref (n 22), .ref (n 23)])), ((n 1), .inl (k 0, 99, .inl fworld)), ((n 7), .inl (k 0, 12, .inl (u.2.2.1 4))), ((n 8), .inl (k 0, 12, .inl (u.2.2.1 5))), ((n 9), .inl (k 0, 4, .inl (u.2.2.1 6))), ((n 10), .inl (k 0, 12, .inl (u.2.2.1 0))), ((n 11), .inl (k 0, 14, .inl fmoreHead)), ((n 12), .inl (k 0, 14, .inl fmoreView)), ((n 13), .inl (k 0, 17, .inl (u.2.2.1 1))), ((n 14), .inl (k 0, 17, .inl (u.2.2.1 2))), ((n 15), .inl (k 0, 17, .inl (u.2.2.1 3)))])) := by
  refine MU.of (by decide) (Nat.le_of_ble_eq_true rfl) ?_
  intro p e s m below meth c ls A args Q S hr hlk hnm hQ hK hP hD hZ hA hS hl
  have hx := S.1
  have hb := S.2.1
  have hl : lv_has ls 3 [(0, .ref (n 0)), (1, .int p0), (2, .int p1)] := hl
  have hbfworld := okW_bd hkworld
  refine lv_aload_n hx hb dX11_mean_0 rfl (lv_at hl 0 rfl) ?_
  refine lv_iload_n hx hb dX11_mean_1 rfl (lv_at hl 1 rfl) ?_
  refine lv_iload_n hx hb dX11_mean_2 rfl (lv_at hl 2 rfl) ?_
  refine x_roVi (As := [.int p0, .int p1]) S hK hP hD hZ (fun _ h => h) hA hS hA hl mwX11_isWet lkX11_476 (ctX11_isWet l D k z n mthrown mtaped msize mat mfrom mtoken mvalue mfaultKind mfaultPlace mmoreMany mlawNow mwetSet moverAll mones mtwos mgone mroundNow msampleFor msampleAll maskWorst moftenAll moftenView moftenOnes fworld p0 p1 (by omega) (by omega) (by omega) (by omega) (by omega) (hkworld)) [0, 1] rfl (by decide) rfl rfl rfl rfl rfl ⟨Nat.le_of_ble_eq_true rfl, Nat.le_of_ble_eq_true rfl, Nat.le_of_ble_eq_true rfl⟩ dX11_mean_3 ⟨Nat.le_of_ble_eq_true rfl, Nat.le_of_ble_eq_true rfl⟩ (fun r_1 H locs hr_1 hP hS => ?_)
  obtain ⟨hp_3, hz_4⟩ := hr_1
  refine lv_if_ne (tgt := 13) hx hb dX11_mean_6 (by decide) (fun c_5 => ?_) (fun c_5 => ?_)
  · skip
    obtain ⟨n_6, rfl, hn_6⟩ := hp_3.resolve_left c_5
    refine lv_aload_n hx hb dX11_mean_13 rfl (lv_at hl 0 rfl) ?_
    refine lv_iconst (v := 0) hx hb dX11_mean_14 (by decide) ?_
    refine lv_iconst (v := 0) hx hb dX11_mean_15 (by decide) ?_
    refine lv_iload_n hx hb dX11_mean_16 rfl (lv_at hl 1 rfl) ?_
    refine x_muVv (wr := []) (As := [.int 0, .int 0, .int (nI n_6)]) S hK hP hD hZ hS hA hl mwX11_layWet lkX11_479 (ctX11_layWet l D k z n mthrown mtaped msize mat mfrom mtoken mvalue mfaultKind mfaultPlace mmoreMany mlawNow mwetSet moverAll mones mtwos mgone mroundNow msampleFor msampleAll maskWorst moftenAll moftenView moftenOnes fworld frowOf fplaceOf ffirstOf fhardNow fmoreHead fmoreView fonesAt ftwosAt fgoneAt 0 0 n_6 (by omega) (by omega) (by omega) (by omega) (by omega) (hkworld) (by omega) (by omega)) [0, 1, 2, 3, 4, 5, 6, 7, 8, 9, 10] [] rfl rfl (by decide) (by decide) (by decide) rfl rfl rfl rfl rfl ⟨Nat.le_of_ble_eq_true rfl, Nat.le_of_ble_eq_true rfl, Nat.le_of_ble_eq_true rfl⟩ dX11_mean_17 ⟨Nat.le_of_ble_eq_true rfl, Nat.le_of_ble_eq_true rfl⟩ (fun u_8 H locs hr_7 hP hD hS => ?_)
    have hP : va_P D vwCl [((n 0), .inr (11, [.int mthrown, .ref (n 1), .ref (n 2), .ref (n 3), .ref (n 4), .int (nI mtaped), .ref (n 5), .int (nI msize), .int (nI mat), .int (nI mfrom), .int mtoken, .int mvalue, .int mfaultKind, .int mfaultPlace, .ref (n 6), .ref (n 7), .ref (n 8), .ref (n 9), .ref (n 10), .ref (n 11), .ref (n 12), .int (nI (u_8.2.1 0)), .int (u_8.1 0), .int (u_8.1 1), .int (u_8.1 2), .ref (n 13), .ref (n 14), .ref (n 15), .int (u_8.1 3), .int (u_8.1 4), .int (u_8.1 5), .ref (n 16), .ref (n 17), .int mroundNow, .ref (n 18), .long msampleFor, .long msampleAll, .ref (n 19), .int maskWorst, .long (u_8.2.2.2.2 0), .long (u_8.2.2.2.2 1), .long (u_8.2.2.2.2 2), .ref (n 20), .ref (n 21), .ref (n 22), .ref (n 23)])), ((n 1), .inl (k 0, 99, .inl fworld)), ((n 7), .inl (k 0, 12, .inl (u_8.2.2.1 4))), ((n 8), .inl (k 0, 12, .inl (u_8.2.2.1 5))), ((n 9), .inl (k 0, 4, .inl (u_8.2.2.1 6))), ((n 10), .inl (k 0, 12, .inl (u_8.2.2.1 0))), ((n 11), .inl (k 0, 14, .inl fmoreHead)), ((n 12), .inl (k 0, 14, .inl fmoreView)), ((n 13), .inl (k 0, 17, .inl (u_8.2.2.1 1))), ((n 14), .inl (k 0, 17, .inl (u_8.2.2.1 2))), ((n 15), .inl (k 0, 17, .inl (u_8.2.2.1 3)))] H := hP.sub [0, 1, 2, 3, 4, 5, 6, 7, 8, 9, 10] rfl
    have hD : va_D A [((n 0), .inr (11, [.int mthrown, .ref (n 1), .ref (n 2), .ref (n 3), .ref (n 4), .int (nI mtaped), .ref (n 5), .int (nI msize), .int (nI mat), .int (nI mfrom), .int mtoken, .int mvalue, .int mfaultKind, .int mfaultPlace, .ref (n 6), .ref (n 7), .ref (n 8), .ref (n 9), .ref (n 10), .ref (n 11), .ref (n 12), .int (nI (u_8.2.1 0)), .int (u_8.1 0), .int (u_8.1 1), .int (u_8.1 2), .ref (n 13), .ref (n 14), .ref (n 15), .int (u_8.1 3), .int (u_8.1 4), .int (u_8.1 5), .ref (n 16), .ref (n 17), .int mroundNow, .ref (n 18), .long msampleFor, .long msampleAll, .ref (n 19), .int maskWorst, .long (u_8.2.2.2.2 0), .long (u_8.2.2.2.2 1), .long (u_8.2.2.2.2 2), .ref (n 20), .ref (n 21), .ref (n 22), .ref (n 23)])), ((n 1), .inl (k 0, 99, .inl fworld)), ((n 7), .inl (k 0, 12, .inl (u_8.2.2.1 4))), ((n 8), .inl (k 0, 12, .inl (u_8.2.2.1 5))), ((n 9), .inl (k 0, 4, .inl (u_8.2.2.1 6))), ((n 10), .inl (k 0, 12, .inl (u_8.2.2.1 0))), ((n 11), .inl (k 0, 14, .inl fmoreHead)), ((n 12), .inl (k 0, 14, .inl fmoreView)), ((n 13), .inl (k 0, 17, .inl (u_8.2.2.1 1))), ((n 14), .inl (k 0, 17, .inl (u_8.2.2.1 2))), ((n 15), .inl (k 0, 17, .inl (u_8.2.2.1 3)))] := hD.sub [0, 1, 2, 3, 4, 5, 6, 7, 8, 9, 10] (by decide) rfl
    obtain ⟨hg_9, hg_10⟩ := hr_7
    refine lv_aload_n hx hb dX11_mean_20 rfl (lv_at hl 0 rfl) ?_
    refine x_get S hK hP 0 rfl cfX11 41 lkX11_471 (by decide) rfl dX11_mean_21 ?_
    refine lv_aload_n hx hb dX11_mean_24 rfl (lv_at hl 0 rfl) ?_
    refine x_get S hK hP 0 rfl cfX11 39 lkX11_465 (by decide) rfl dX11_mean_25 ?_
    refine lv_iload_n hx hb dX11_mean_28 rfl (lv_at hl 2 rfl) ?_
    refine x_roSl (As := [.long (u_8.2.2.2.2 2), .long (u_8.2.2.2.2 0), .int p1]) S hK hP hD hZ (fun _ h => h) hA hS hA hl mwX11_part lkX11_397 (ctX11_part l D k z (u_8.2.2.2.2 2) (u_8.2.2.2.2 0) p1 (hg_10)) [] rfl (by decide) rfl rfl ⟨Nat.le_of_ble_eq_true rfl, Nat.le_of_ble_eq_true rfl, Nat.le_of_ble_eq_true rfl⟩ dX11_mean_29 ⟨Nat.le_of_ble_eq_true rfl, Nat.le_of_ble_eq_true rfl⟩ (fun r_11 H locs hr_11 hP hS => ?_)
    exact x_retl S hr hlk hQ hS ((fun i => ([(u_8.1 0), (u_8.1 1), (u_8.1 2), (u_8.1 3), (u_8.1 4), (u_8.1 5)] : List (Int32)).getD i 0), (fun i => ([u_8.2.1 0] : List (Nat)).getD i 0), (fun i => ([(u_8.2.2.1 0), (u_8.2.2.1 1), (u_8.2.2.1 2), (u_8.2.2.1 3), (u_8.2.2.1 4), (u_8.2.2.1 5), (u_8.2.2.1 6)] : List (Nat → Int32)).getD i (fun _ => 0)), (fun i => ([] : List (Nat → Int64)).getD i (fun _ => 0)), (fun i => ([(u_8.2.2.2.2 0), (u_8.2.2.2.2 1), (u_8.2.2.2.2 2)] : List (Int64)).getD i 0)) (show u_8.2.1 0 ≤ 14 by omega) (x_B hP hD) dX11_mean_32
  · skip
    refine lv_ldc2 hx hb S.2.2.2.1 (S.2.2.2.2 _ lkX11_389) dX11_mean_9 ?_
    exact x_retl S hr hlk hQ hS ((fun i => ([mlawNow, mwetSet, moverAll, mones, mtwos, mgone] : List (Int32)).getD i 0), (fun i => ([mmoreMany] : List (Nat)).getD i 0), (fun i => ([fhardNow, fonesAt, ftwosAt, fgoneAt, frowOf, fplaceOf, ffirstOf] : List (Nat → Int32)).getD i (fun _ => 0)), (fun i => ([] : List (Nat → Int64)).getD i (fun _ => 0)), (fun i => ([moftenAll, moftenView, moftenOnes] : List (Int64)).getD i 0)) (show mmoreMany ≤ 14 by omega) (x_B hP hD) dX11_mean_12

set_option maxHeartbeats 4000000 in
set_option maxRecDepth 100000 in
theorem ctX11_keepAct (l : Launch) (D : va_G) (k : Nat → ClassId) (z : Nat → Nat) (n : Nat → Nat) (mthrown : Int32) (mtaped : Nat) (msize : Nat) (mat : Nat) (mfrom : Nat) (mtoken : Int32) (mvalue : Int32) (mfaultKind : Int32) (mfaultPlace : Int32) (mmoreMany : Nat) (mlawNow : Int32) (mwetSet : Int32) (moverAll : Int32) (mones : Int32) (mtwos : Int32) (mgone : Int32) (mroundNow : Int32) (msampleFor : Int64) (msampleAll : Int64) (maskWorst : Int32) (moftenAll : Int64) (moftenView : Int64) (moftenOnes : Int64) (fworld : Nat → Int32) (frowOf : Nat → Int32) (fplaceOf : Nat → Int32) (ffirstOf : Nat → Int32) (fhardNow : Nat → Int32) (fmoreHead : Nat → Int32) (fmoreView : Nat → Int32) (fonesAt : Nat → Int32) (ftwosAt : Nat → Int32) (fgoneAt : Nat → Int32) (p0 : Int32) (hmtaped : mtaped ≤ 600) (hmsize : msize ≤ 600) (hmat : mat ≤ 600) (hmfrom : mfrom ≤ 600) (hmmoreMany : mmoreMany ≤ 14) (hkworld : okW fworld) : MU l yX11_keepAct cX11_keepAct 2 (some .boolean) 8 D k z [.ref (n 0), .int p0] [((n 0), .inr (11, [.int mthrown, .ref (n 1), .ref (n 2), .ref (n 3), .ref (n 4), .int (nI mtaped), .ref (n 5), .int (nI msize), .int (nI mat), .int (nI mfrom), .int mtoken, .int mvalue, .int mfaultKind, .int mfaultPlace, .ref (n 6), .ref (n 7), .ref (n 8), .ref (n 9), .ref (n 10), .ref (n 11), .ref (n 12), .int (nI mmoreMany), .int mlawNow, .int mwetSet, .int moverAll, .ref (n 13), .ref (n 14), .ref (n 15), .int mones, .int mtwos, .int mgone, .ref (n 16), .ref (n 17), .int mroundNow, .ref (n 18), .long msampleFor, .long msampleAll, .ref (n 19), .int maskWorst, .long moftenAll, .long moftenView, .long moftenOnes, .ref (n 20), .ref (n 21), .ref (n 22), .ref (n 23)])), ((n 1), .inl (k 0, 99, .inl fworld)), ((n 7), .inl (k 0, 12, .inl frowOf)), ((n 8), .inl (k 0, 12, .inl fplaceOf)), ((n 9), .inl (k 0, 4, .inl ffirstOf)), ((n 10), .inl (k 0, 12, .inl fhardNow)), ((n 11), .inl (k 0, 14, .inl fmoreHead)), ((n 12), .inl (k 0, 14, .inl fmoreView)), ((n 13), .inl (k 0, 17, .inl fonesAt)), ((n 14), .inl (k 0, 17, .inl ftwosAt)), ((n 15), .inl (k 0, 17, .inl fgoneAt))] 0 0 (Ui D (fun (r : Int32) (u : (Nat → Int32) × (Nat → Nat) × (Nat → Nat → Int32) × (Nat → Nat → Int64) × (Nat → Int64)) => (r = 0 ∨ r = 1) ∧ (u.2.1 0 ≤ 14) ∧ (okW (u.2.2.1 0))) (fun u : (Nat → Int32) × (Nat → Nat) × (Nat → Nat → Int32) × (Nat → Nat → Int64) × (Nat → Int64) => [((n 0), .inr (11, [.int mthrown, .ref (n 1), .ref (n 2), .ref (n 3), .ref (n 4), .int (nI mtaped), .ref (n 5), .int (nI msize), .int (nI mat), .int (nI mfrom), .int mtoken, .int mvalue, .int mfaultKind, .int mfaultPlace, .ref (n 6), .ref (n 7), .ref (n 8), .ref (n 9), .ref (n 10), .ref (n 11), .ref (n 12), .int (nI (u.2.1 0)), .int (u.1 0), .int (u.1 1), .int (u.1 2), .ref (n 13), .ref (n 14), .ref (n 15), .int (u.1 3), .int (u.1 4), .int (u.1 5), .ref (n 16), .ref (n 17), .int mroundNow, .ref (n 18), .long msampleFor, .long msampleAll, .ref (n 19), .int maskWorst, .long moftenAll, .long moftenView, .long moftenOnes, .ref (n 20), .ref (n 21), .ref (n 22), .ref (n 23)])), ((n 1), .inl (k 0, 99, .inl (u.2.2.1 0))), ((n 7), .inl (k 0, 12, .inl (u.2.2.1 5))), ((n 8), .inl (k 0, 12, .inl (u.2.2.1 6))), ((n 9), .inl (k 0, 4, .inl (u.2.2.1 7))), ((n 10), .inl (k 0, 12, .inl (u.2.2.1 1))), ((n 11), .inl (k 0, 14, .inl fmoreHead)), ((n 12), .inl (k 0, 14, .inl fmoreView)), ((n 13), .inl (k 0, 17, .inl (u.2.2.1 2))), ((n 14), .inl (k 0, 17, .inl (u.2.2.1 3))), ((n 15), .inl (k 0, 17, .inl (u.2.2.1 4)))])) := by
  refine MU.of (by decide) (Nat.le_of_ble_eq_true rfl) ?_
  intro p e s m below meth c ls A args Q S hr hlk hnm hQ hK hP hD hZ hA hS hl
  have hx := S.1
  have hb := S.2.1
  have hl : lv_has ls 2 [(0, .ref (n 0)), (1, .int p0)] := hl
  have hbfworld := okW_bd hkworld
  refine lv_aload_n hx hb dX11_keepAct_0 rfl (lv_at hl 0 rfl) ?_
  refine x_get S hK hP 0 rfl cfX11 1 lkX11_9 (by decide) rfl dX11_keepAct_1 ?_
  refine lv_bipush (v := 7) hx hb dX11_keepAct_4 (by decide) ?_
  refine x_iald S hK hP 1 rfl (vp_lit (by decide)) dX11_keepAct_6 ?_
  refine x_is (nI (wn fworld 7)) ((cl_at (f := fworld) (a := 7) (by decide) (by omega)).trans (okW_at hkworld (i := 7) (by omega))) ?_
  refine lv_bipush (v := 30) hx hb dX11_keepAct_7 (by decide) ?_
  refine lv_icmp_ne (tgt := 14) hx hb dX11_keepAct_9 (by decide) (fun c_1 => ?_) (fun c_1 => ?_)
  · skip
    have c_1 : ¬ wn fworld 7 = 30 := fun q => c_1 ((ni_eq rfl (by decide) (by omega) (by omega)).mpr q)
    refine lv_aload_n hx hb dX11_keepAct_14 rfl (lv_at hl 0 rfl) ?_
    refine x_get S hK hP 0 rfl cfX11 1 lkX11_9 (by decide) rfl dX11_keepAct_15 ?_
    refine lv_bipush (v := 69) hx hb dX11_keepAct_18 (by decide) ?_
    refine lv_aload_n hx hb dX11_keepAct_20 rfl (lv_at hl 0 rfl) ?_
    refine x_get S hK hP 0 rfl cfX11 1 lkX11_9 (by decide) rfl dX11_keepAct_21 ?_
    refine lv_bipush (v := 7) hx hb dX11_keepAct_24 (by decide) ?_
    refine x_iald S hK hP 1 rfl (vp_lit (by decide)) dX11_keepAct_26 ?_
    refine x_is (nI (wn fworld 7)) ((cl_at (f := fworld) (a := 7) (by decide) (by omega)).trans (okW_at hkworld (i := 7) (by omega))) ?_
    refine lv_iadd hx hb dX11_keepAct_27 ?_
    refine x_is (nI (69 + wn fworld 7)) (ni_add (by decide) rfl) ?_
    refine lv_iload_n hx hb dX11_keepAct_28 rfl (lv_at hl 1 rfl) ?_
    refine x_iast (ws' := fun f_2 => [((n 0), .inr (11, [.int mthrown, .ref (n 1), .ref (n 2), .ref (n 3), .ref (n 4), .int (nI mtaped), .ref (n 5), .int (nI msize), .int (nI mat), .int (nI mfrom), .int mtoken, .int mvalue, .int mfaultKind, .int mfaultPlace, .ref (n 6), .ref (n 7), .ref (n 8), .ref (n 9), .ref (n 10), .ref (n 11), .ref (n 12), .int (nI mmoreMany), .int mlawNow, .int mwetSet, .int moverAll, .ref (n 13), .ref (n 14), .ref (n 15), .int mones, .int mtwos, .int mgone, .ref (n 16), .ref (n 17), .int mroundNow, .ref (n 18), .long msampleFor, .long msampleAll, .ref (n 19), .int maskWorst, .long moftenAll, .long moftenView, .long moftenOnes, .ref (n 20), .ref (n 21), .ref (n 22), .ref (n 23)])), ((n 1), .inl (k 0, 99, .inl f_2)), ((n 7), .inl (k 0, 12, .inl frowOf)), ((n 8), .inl (k 0, 12, .inl fplaceOf)), ((n 9), .inl (k 0, 4, .inl ffirstOf)), ((n 10), .inl (k 0, 12, .inl fhardNow)), ((n 11), .inl (k 0, 14, .inl fmoreHead)), ((n 12), .inl (k 0, 14, .inl fmoreView)), ((n 13), .inl (k 0, 17, .inl fonesAt)), ((n 14), .inl (k 0, 17, .inl ftwosAt)), ((n 15), .inl (k 0, 17, .inl fgoneAt))]) S hK hP hD hS 1 rfl (vp_in_nI (by omega) (by decide)) (fun _ => rfl) dX11_keepAct_29 (fun f_2 H locs ef_2 hP hD hS => ?_)
    obtain ⟨hif_2, hbf_2⟩ := okW_hi ef_2 hkworld (a := 69 + wn fworld 7) rfl (by omega) (by omega)
    refine lv_aload_n hx hb dX11_keepAct_30 rfl (lv_at hl 0 rfl) ?_
    refine x_get S hK hP 0 rfl cfX11 1 lkX11_9 (by decide) rfl dX11_keepAct_31 ?_
    refine lv_bipush (v := 7) hx hb dX11_keepAct_34 (by decide) ?_
    refine lv_dup2_11 hx hb dX11_keepAct_36 rfl rfl ?_
    refine x_iald S hK hP 1 rfl (vp_lit (by decide)) dX11_keepAct_37 ?_
    refine x_is (nI (wn f_2 7)) ((cl_at (f := f_2) (a := 7) (by decide) (by omega)).trans (okW_at hif_2 (i := 7) (by omega))) ?_
    refine lv_iconst (v := 1) hx hb dX11_keepAct_38 (by decide) ?_
    refine lv_iadd hx hb dX11_keepAct_39 ?_
    refine x_is (nI (wn f_2 7 + 1)) (ni_add rfl (by decide)) ?_
    refine x_iast (ws' := fun f_3 => [((n 0), .inr (11, [.int mthrown, .ref (n 1), .ref (n 2), .ref (n 3), .ref (n 4), .int (nI mtaped), .ref (n 5), .int (nI msize), .int (nI mat), .int (nI mfrom), .int mtoken, .int mvalue, .int mfaultKind, .int mfaultPlace, .ref (n 6), .ref (n 7), .ref (n 8), .ref (n 9), .ref (n 10), .ref (n 11), .ref (n 12), .int (nI mmoreMany), .int mlawNow, .int mwetSet, .int moverAll, .ref (n 13), .ref (n 14), .ref (n 15), .int mones, .int mtwos, .int mgone, .ref (n 16), .ref (n 17), .int mroundNow, .ref (n 18), .long msampleFor, .long msampleAll, .ref (n 19), .int maskWorst, .long moftenAll, .long moftenView, .long moftenOnes, .ref (n 20), .ref (n 21), .ref (n 22), .ref (n 23)])), ((n 1), .inl (k 0, 99, .inl f_3)), ((n 7), .inl (k 0, 12, .inl frowOf)), ((n 8), .inl (k 0, 12, .inl fplaceOf)), ((n 9), .inl (k 0, 4, .inl ffirstOf)), ((n 10), .inl (k 0, 12, .inl fhardNow)), ((n 11), .inl (k 0, 14, .inl fmoreHead)), ((n 12), .inl (k 0, 14, .inl fmoreView)), ((n 13), .inl (k 0, 17, .inl fonesAt)), ((n 14), .inl (k 0, 17, .inl ftwosAt)), ((n 15), .inl (k 0, 17, .inl fgoneAt))]) S hK hP hD hS 1 rfl (vp_lit (by decide)) (fun _ => rfl) dX11_keepAct_40 (fun f_3 H locs ef_3 hP hD hS => ?_)
    obtain ⟨hif_3, hbf_3⟩ := okW_s7 ef_3 hif_2 (by decide) (q := wn f_2 7 + 1) rfl (by omega)
    refine lv_aload_n hx hb dX11_keepAct_41 rfl (lv_at hl 0 rfl) ?_
    refine x_muVi (wr := []) (As := []) S hK hP hD hZ hS hA hl mwX11_asksGarden lkX11_315 (ctX11_asksGarden l D k z n mthrown mtaped msize mat mfrom mtoken mvalue mfaultKind mfaultPlace mmoreMany mlawNow mwetSet moverAll mones mtwos mgone mroundNow msampleFor msampleAll maskWorst moftenAll moftenView moftenOnes f_3 frowOf fplaceOf ffirstOf fhardNow fmoreHead fmoreView fonesAt ftwosAt fgoneAt (by omega) (by omega) (by omega) (by omega) (by omega) (hif_3)) [0, 1, 2, 3, 4, 5, 6, 7, 8, 9, 10] [] rfl rfl (by decide) (by decide) (by decide) rfl rfl rfl rfl rfl ⟨Nat.le_of_ble_eq_true rfl, Nat.le_of_ble_eq_true rfl, Nat.le_of_ble_eq_true rfl⟩ dX11_keepAct_42 ⟨Nat.le_of_ble_eq_true rfl, Nat.le_of_ble_eq_true rfl⟩ (fun r_4 u_5 H locs hr_4 hP hD hS => ?_)
    have hP : va_P D vwCl [((n 0), .inr (11, [.int mthrown, .ref (n 1), .ref (n 2), .ref (n 3), .ref (n 4), .int (nI mtaped), .ref (n 5), .int (nI msize), .int (nI mat), .int (nI mfrom), .int mtoken, .int mvalue, .int mfaultKind, .int mfaultPlace, .ref (n 6), .ref (n 7), .ref (n 8), .ref (n 9), .ref (n 10), .ref (n 11), .ref (n 12), .int (nI (u_5.2.1 0)), .int (u_5.1 0), .int (u_5.1 1), .int (u_5.1 2), .ref (n 13), .ref (n 14), .ref (n 15), .int (u_5.1 3), .int (u_5.1 4), .int (u_5.1 5), .ref (n 16), .ref (n 17), .int mroundNow, .ref (n 18), .long msampleFor, .long msampleAll, .ref (n 19), .int maskWorst, .long moftenAll, .long moftenView, .long moftenOnes, .ref (n 20), .ref (n 21), .ref (n 22), .ref (n 23)])), ((n 1), .inl (k 0, 99, .inl f_3)), ((n 7), .inl (k 0, 12, .inl (u_5.2.2.1 4))), ((n 8), .inl (k 0, 12, .inl (u_5.2.2.1 5))), ((n 9), .inl (k 0, 4, .inl (u_5.2.2.1 6))), ((n 10), .inl (k 0, 12, .inl (u_5.2.2.1 0))), ((n 11), .inl (k 0, 14, .inl fmoreHead)), ((n 12), .inl (k 0, 14, .inl fmoreView)), ((n 13), .inl (k 0, 17, .inl (u_5.2.2.1 1))), ((n 14), .inl (k 0, 17, .inl (u_5.2.2.1 2))), ((n 15), .inl (k 0, 17, .inl (u_5.2.2.1 3)))] H := hP.sub [0, 1, 2, 3, 4, 5, 6, 7, 8, 9, 10] rfl
    have hD : va_D A [((n 0), .inr (11, [.int mthrown, .ref (n 1), .ref (n 2), .ref (n 3), .ref (n 4), .int (nI mtaped), .ref (n 5), .int (nI msize), .int (nI mat), .int (nI mfrom), .int mtoken, .int mvalue, .int mfaultKind, .int mfaultPlace, .ref (n 6), .ref (n 7), .ref (n 8), .ref (n 9), .ref (n 10), .ref (n 11), .ref (n 12), .int (nI (u_5.2.1 0)), .int (u_5.1 0), .int (u_5.1 1), .int (u_5.1 2), .ref (n 13), .ref (n 14), .ref (n 15), .int (u_5.1 3), .int (u_5.1 4), .int (u_5.1 5), .ref (n 16), .ref (n 17), .int mroundNow, .ref (n 18), .long msampleFor, .long msampleAll, .ref (n 19), .int maskWorst, .long moftenAll, .long moftenView, .long moftenOnes, .ref (n 20), .ref (n 21), .ref (n 22), .ref (n 23)])), ((n 1), .inl (k 0, 99, .inl f_3)), ((n 7), .inl (k 0, 12, .inl (u_5.2.2.1 4))), ((n 8), .inl (k 0, 12, .inl (u_5.2.2.1 5))), ((n 9), .inl (k 0, 4, .inl (u_5.2.2.1 6))), ((n 10), .inl (k 0, 12, .inl (u_5.2.2.1 0))), ((n 11), .inl (k 0, 14, .inl fmoreHead)), ((n 12), .inl (k 0, 14, .inl fmoreView)), ((n 13), .inl (k 0, 17, .inl (u_5.2.2.1 1))), ((n 14), .inl (k 0, 17, .inl (u_5.2.2.1 2))), ((n 15), .inl (k 0, 17, .inl (u_5.2.2.1 3)))] := hD.sub [0, 1, 2, 3, 4, 5, 6, 7, 8, 9, 10] (by decide) rfl
    obtain ⟨hz_6, hg_7⟩ := hr_4
    refine lv_pop hx hb dX11_keepAct_45 rfl ?_
    refine lv_iconst (v := 1) hx hb dX11_keepAct_46 (by decide) ?_
    exact x_retz S hr hlk hQ hS rfl ((fun i => ([(u_5.1 0), (u_5.1 1), (u_5.1 2), (u_5.1 3), (u_5.1 4), (u_5.1 5)] : List (Int32)).getD i 0), (fun i => ([u_5.2.1 0] : List (Nat)).getD i 0), (fun i => ([f_3, (u_5.2.2.1 0), (u_5.2.2.1 1), (u_5.2.2.1 2), (u_5.2.2.1 3), (u_5.2.2.1 4), (u_5.2.2.1 5), (u_5.2.2.1 6)] : List (Nat → Int32)).getD i (fun _ => 0)), (fun i => ([] : List (Nat → Int64)).getD i (fun _ => 0)), (fun i => ([] : List (Int64)).getD i 0)) ⟨(Or.inr rfl), (show u_5.2.1 0 ≤ 14 by omega), hif_3⟩ (x_B hP hD) dX11_keepAct_47
  · skip
    have c_1 : wn fworld 7 = 30 := (ni_eq rfl (by decide) (by omega) (by omega)).mp c_1
    refine lv_iconst (v := 0) hx hb dX11_keepAct_12 (by decide) ?_
    exact x_retz S hr hlk hQ hS rfl ((fun i => ([mlawNow, mwetSet, moverAll, mones, mtwos, mgone] : List (Int32)).getD i 0), (fun i => ([mmoreMany] : List (Nat)).getD i 0), (fun i => ([fworld, fhardNow, fonesAt, ftwosAt, fgoneAt, frowOf, fplaceOf, ffirstOf] : List (Nat → Int32)).getD i (fun _ => 0)), (fun i => ([] : List (Nat → Int64)).getD i (fun _ => 0)), (fun i => ([] : List (Int64)).getD i 0)) ⟨(Or.inl rfl), (show mmoreMany ≤ 14 by omega), hkworld⟩ (x_B hP hD) dX11_keepAct_13

set_option maxHeartbeats 4000000 in
set_option maxRecDepth 100000 in
theorem ctX11_say (l : Launch) (D : va_G) (k : Nat → ClassId) (z : Nat → Nat) (n : Nat → Nat) (mthrown : Int32) (mtaped : Nat) (msize : Nat) (mat : Nat) (mfrom : Nat) (mtoken : Int32) (mvalue : Int32) (mfaultKind : Int32) (mfaultPlace : Int32) (mmoreMany : Nat) (mlawNow : Int32) (mwetSet : Int32) (moverAll : Int32) (mones : Int32) (mtwos : Int32) (mgone : Int32) (mroundNow : Int32) (msampleFor : Int64) (msampleAll : Int64) (maskWorst : Int32) (moftenAll : Int64) (moftenView : Int64) (moftenOnes : Int64) (fworld : Nat → Int32) (frowOf : Nat → Int32) (fplaceOf : Nat → Int32) (ffirstOf : Nat → Int32) (fhardNow : Nat → Int32) (fmoreHead : Nat → Int32) (fmoreView : Nat → Int32) (fonesAt : Nat → Int32) (ftwosAt : Nat → Int32) (fgoneAt : Nat → Int32) (p0 : Int32) (p1 : Int32) (p2 : Int32) (hmtaped : mtaped ≤ 600) (hmsize : msize ≤ 600) (hmat : mat ≤ 600) (hmfrom : mfrom ≤ 600) (hmmoreMany : mmoreMany ≤ 14) (hkworld : okW fworld) : MU l yX11_say cX11_say 4 (some .int) 9 D k z [.ref (n 0), .int p0, .int p1, .int p2] [((n 0), .inr (11, [.int mthrown, .ref (n 1), .ref (n 2), .ref (n 3), .ref (n 4), .int (nI mtaped), .ref (n 5), .int (nI msize), .int (nI mat), .int (nI mfrom), .int mtoken, .int mvalue, .int mfaultKind, .int mfaultPlace, .ref (n 6), .ref (n 7), .ref (n 8), .ref (n 9), .ref (n 10), .ref (n 11), .ref (n 12), .int (nI mmoreMany), .int mlawNow, .int mwetSet, .int moverAll, .ref (n 13), .ref (n 14), .ref (n 15), .int mones, .int mtwos, .int mgone, .ref (n 16), .ref (n 17), .int mroundNow, .ref (n 18), .long msampleFor, .long msampleAll, .ref (n 19), .int maskWorst, .long moftenAll, .long moftenView, .long moftenOnes, .ref (n 20), .ref (n 21), .ref (n 22), .ref (n 23)])), ((n 1), .inl (k 0, 99, .inl fworld)), ((n 7), .inl (k 0, 12, .inl frowOf)), ((n 8), .inl (k 0, 12, .inl fplaceOf)), ((n 9), .inl (k 0, 4, .inl ffirstOf)), ((n 10), .inl (k 0, 12, .inl fhardNow)), ((n 11), .inl (k 0, 14, .inl fmoreHead)), ((n 12), .inl (k 0, 14, .inl fmoreView)), ((n 13), .inl (k 0, 17, .inl fonesAt)), ((n 14), .inl (k 0, 17, .inl ftwosAt)), ((n 15), .inl (k 0, 17, .inl fgoneAt))] 0 0 (Ui D (fun (r : Int32) (u : (Nat → Int32) × (Nat → Nat) × (Nat → Nat → Int32) × (Nat → Nat → Int64) × (Nat → Int64)) => (u.2.1 0 ≤ 14) ∧ (okW (u.2.2.1 0))) (fun u : (Nat → Int32) × (Nat → Nat) × (Nat → Nat → Int32) × (Nat → Nat → Int64) × (Nat → Int64) => [((n 0), .inr (11, [.int mthrown, .ref (n 1), .ref (n 2), .ref (n 3), .ref (n 4), .int (nI mtaped), .ref (n 5), .int (nI msize), .int (nI mat), .int (nI mfrom), .int mtoken, .int mvalue, .int mfaultKind, .int mfaultPlace, .ref (n 6), .ref (n 7), .ref (n 8), .ref (n 9), .ref (n 10), .ref (n 11), .ref (n 12), .int (nI (u.2.1 0)), .int (u.1 0), .int (u.1 1), .int (u.1 2), .ref (n 13), .ref (n 14), .ref (n 15), .int (u.1 3), .int (u.1 4), .int (u.1 5), .ref (n 16), .ref (n 17), .int mroundNow, .ref (n 18), .long msampleFor, .long msampleAll, .ref (n 19), .int maskWorst, .long moftenAll, .long moftenView, .long moftenOnes, .ref (n 20), .ref (n 21), .ref (n 22), .ref (n 23)])), ((n 1), .inl (k 0, 99, .inl (u.2.2.1 0))), ((n 7), .inl (k 0, 12, .inl (u.2.2.1 5))), ((n 8), .inl (k 0, 12, .inl (u.2.2.1 6))), ((n 9), .inl (k 0, 4, .inl (u.2.2.1 7))), ((n 10), .inl (k 0, 12, .inl (u.2.2.1 1))), ((n 11), .inl (k 0, 14, .inl fmoreHead)), ((n 12), .inl (k 0, 14, .inl fmoreView)), ((n 13), .inl (k 0, 17, .inl (u.2.2.1 2))), ((n 14), .inl (k 0, 17, .inl (u.2.2.1 3))), ((n 15), .inl (k 0, 17, .inl (u.2.2.1 4)))])) := by
  refine MU.of (by decide) (Nat.le_of_ble_eq_true rfl) ?_
  intro p e s m below meth c ls A args Q S hr hlk hnm hQ hK hP hD hZ hA hS hl
  have hx := S.1
  have hb := S.2.1
  have hl : lv_has ls 4 [(0, .ref (n 0)), (1, .int p0), (2, .int p1), (3, .int p2)] := hl
  have hbfworld := okW_bd hkworld
  refine lv_iload_n hx hb dX11_say_0 rfl (lv_at hl 1 rfl) ?_
  refine lv_i2l (v := p0.toInt64) hx hb dX11_say_1 rfl ?_
  refine x_roSi (As := [.long p0.toInt64]) S hK hP hD hZ (fun _ h => h) hA hS hA hl mwX11_isView lkX11_348 (ctX11_isView l D k z p0.toInt64 ) [] rfl (by decide) rfl rfl ⟨Nat.le_of_ble_eq_true rfl, Nat.le_of_ble_eq_true rfl, Nat.le_of_ble_eq_true rfl⟩ dX11_say_2 ⟨Nat.le_of_ble_eq_true rfl, Nat.le_of_ble_eq_true rfl⟩ (fun r_1 H locs hr_1 hP hS => ?_)
  obtain rfl := hr_1
  refine lv_if_eq (tgt := 26) hx hb dX11_say_5 (by decide) (fun c_3 => ?_) (fun c_3 => ?_)
  · skip
    have c_3 : ¬ (1 ≤ p0.toInt64 ∧ p0.toInt64 ≤ 2) := bo_0.mp c_3
    refine lv_bipush (v := (-2)) hx hb dX11_say_26 (by decide) ?_
    exact x_reti S hr hlk hQ hS ((fun i => ([mlawNow, mwetSet, moverAll, mones, mtwos, mgone] : List (Int32)).getD i 0), (fun i => ([mmoreMany] : List (Nat)).getD i 0), (fun i => ([fworld, fhardNow, fonesAt, ftwosAt, fgoneAt, frowOf, fplaceOf, ffirstOf] : List (Nat → Int32)).getD i (fun _ => 0)), (fun i => ([] : List (Nat → Int64)).getD i (fun _ => 0)), (fun i => ([] : List (Int64)).getD i 0)) ⟨(show mmoreMany ≤ 14 by omega), hkworld⟩ (x_B hP hD) dX11_say_28
  · skip
    have c_3 : 1 ≤ p0.toInt64 ∧ p0.toInt64 ≤ 2 := bo_1.mp c_3
    refine lv_aload_n hx hb dX11_say_8 rfl (lv_at hl 0 rfl) ?_
    refine lv_iload_n hx hb dX11_say_9 rfl (lv_at hl 2 rfl) ?_
    refine lv_i2l (v := p1.toInt64) hx hb dX11_say_10 rfl ?_
    refine x_roVi (As := [.long p1.toInt64]) S hK hP hD hZ (fun _ h => h) hA hS hA hl mwX11_isHead lkX11_237 (ctX11_isHead_i l D k z n mthrown mtaped msize mat mfrom mtoken mvalue mfaultKind mfaultPlace mmoreMany mlawNow mwetSet moverAll mones mtwos mgone mroundNow msampleFor msampleAll maskWorst moftenAll moftenView moftenOnes fworld p1 (by omega) (by omega) (by omega) (by omega) (by omega) (hkworld)) [0, 1] rfl (by decide) rfl rfl rfl rfl rfl ⟨Nat.le_of_ble_eq_true rfl, Nat.le_of_ble_eq_true rfl, Nat.le_of_ble_eq_true rfl⟩ dX11_say_11 ⟨Nat.le_of_ble_eq_true rfl, Nat.le_of_ble_eq_true rfl⟩ (fun r_4 H locs hr_4 hP hS => ?_)
    obtain ⟨hp_6, hz_7⟩ := hr_4
    refine lv_if_eq (tgt := 26) hx hb dX11_say_14 (by decide) (fun c_8 => ?_) (fun c_8 => ?_)
    · skip
      refine lv_bipush (v := (-2)) hx hb dX11_say_26 (by decide) ?_
      exact x_reti S hr hlk hQ hS ((fun i => ([mlawNow, mwetSet, moverAll, mones, mtwos, mgone] : List (Int32)).getD i 0), (fun i => ([mmoreMany] : List (Nat)).getD i 0), (fun i => ([fworld, fhardNow, fonesAt, ftwosAt, fgoneAt, frowOf, fplaceOf, ffirstOf] : List (Nat → Int32)).getD i (fun _ => 0)), (fun i => ([] : List (Nat → Int64)).getD i (fun _ => 0)), (fun i => ([] : List (Int64)).getD i 0)) ⟨(show mmoreMany ≤ 14 by omega), hkworld⟩ (x_B hP hD) dX11_say_28
    · skip
      obtain ⟨n_9, rfl, hn_9⟩ := hp_6.resolve_left c_8
      refine lv_aload_n hx hb dX11_say_17 rfl (lv_at hl 0 rfl) ?_
      refine lv_iload_n hx hb dX11_say_18 rfl (lv_at hl 3 rfl) ?_
      refine lv_i2l (v := p2.toInt64) hx hb dX11_say_19 rfl ?_
      refine x_roVi (As := [.long p2.toInt64]) S hK hP hD hZ (fun _ h => h) hA hS hA hl mwX11_isHour lkX11_318 (ctX11_isHour_i l D k z n mthrown mtaped msize mat mfrom mtoken mvalue mfaultKind mfaultPlace mmoreMany mlawNow mwetSet moverAll mones mtwos mgone mroundNow msampleFor msampleAll maskWorst moftenAll moftenView moftenOnes fworld p2 (by omega) (by omega) (by omega) (by omega) (by omega) (hkworld)) [0, 1] rfl (by decide) rfl rfl rfl rfl rfl ⟨Nat.le_of_ble_eq_true rfl, Nat.le_of_ble_eq_true rfl, Nat.le_of_ble_eq_true rfl⟩ dX11_say_20 ⟨Nat.le_of_ble_eq_true rfl, Nat.le_of_ble_eq_true rfl⟩ (fun r_10 H locs hr_10 hP hS => ?_)
      obtain ⟨hp_12, hz_13⟩ := hr_10
      refine lv_if_ne (tgt := 29) hx hb dX11_say_23 (by decide) (fun c_14 => ?_) (fun c_14 => ?_)
      · skip
        obtain ⟨n_15, rfl, hn_15⟩ := hp_12.resolve_left c_14
        refine lv_aload_n hx hb dX11_say_29 rfl (lv_at hl 0 rfl) ?_
        refine lv_sipush (v := 10000) hx hb dX11_say_30 (by decide) ?_
        refine lv_iload_n hx hb dX11_say_33 rfl (lv_at hl 1 rfl) ?_
        refine lv_imul hx hb dX11_say_34 ?_
        refine lv_topi (fun v_16 ev_16 => ?_)
        refine lv_bipush (v := 100) hx hb dX11_say_35 (by decide) ?_
        refine lv_iload_n hx hb dX11_say_37 rfl (lv_at hl 2 rfl) ?_
        refine lv_imul hx hb dX11_say_38 ?_
        refine x_is (nI (100 * n_9)) (ni_mul (by decide) rfl) ?_
        refine lv_iadd hx hb dX11_say_39 ?_
        refine lv_topi (fun v_17 ev_17 => ?_)
        refine lv_iload_n hx hb dX11_say_40 rfl (lv_at hl 3 rfl) ?_
        refine lv_iadd hx hb dX11_say_41 ?_
        refine lv_topi (fun v_18 ev_18 => ?_)
        refine x_muVi (wr := []) (As := [.int v_18]) S hK hP hD hZ hS hA hl mwX11_keepAct lkX11_483 (ctX11_keepAct l D k z n mthrown mtaped msize mat mfrom mtoken mvalue mfaultKind mfaultPlace mmoreMany mlawNow mwetSet moverAll mones mtwos mgone mroundNow msampleFor msampleAll maskWorst moftenAll moftenView moftenOnes fworld frowOf fplaceOf ffirstOf fhardNow fmoreHead fmoreView fonesAt ftwosAt fgoneAt v_18 (by omega) (by omega) (by omega) (by omega) (by omega) (hkworld)) [0, 1, 2, 3, 4, 5, 6, 7, 8, 9, 10] [] rfl rfl (by decide) (by decide) (by decide) rfl rfl rfl rfl rfl ⟨Nat.le_of_ble_eq_true rfl, Nat.le_of_ble_eq_true rfl, Nat.le_of_ble_eq_true rfl⟩ dX11_say_42 ⟨Nat.le_of_ble_eq_true rfl, Nat.le_of_ble_eq_true rfl⟩ (fun r_19 u_20 H locs hr_19 hP hD hS => ?_)
        have hP : va_P D vwCl [((n 0), .inr (11, [.int mthrown, .ref (n 1), .ref (n 2), .ref (n 3), .ref (n 4), .int (nI mtaped), .ref (n 5), .int (nI msize), .int (nI mat), .int (nI mfrom), .int mtoken, .int mvalue, .int mfaultKind, .int mfaultPlace, .ref (n 6), .ref (n 7), .ref (n 8), .ref (n 9), .ref (n 10), .ref (n 11), .ref (n 12), .int (nI (u_20.2.1 0)), .int (u_20.1 0), .int (u_20.1 1), .int (u_20.1 2), .ref (n 13), .ref (n 14), .ref (n 15), .int (u_20.1 3), .int (u_20.1 4), .int (u_20.1 5), .ref (n 16), .ref (n 17), .int mroundNow, .ref (n 18), .long msampleFor, .long msampleAll, .ref (n 19), .int maskWorst, .long moftenAll, .long moftenView, .long moftenOnes, .ref (n 20), .ref (n 21), .ref (n 22), .ref (n 23)])), ((n 1), .inl (k 0, 99, .inl (u_20.2.2.1 0))), ((n 7), .inl (k 0, 12, .inl (u_20.2.2.1 5))), ((n 8), .inl (k 0, 12, .inl (u_20.2.2.1 6))), ((n 9), .inl (k 0, 4, .inl (u_20.2.2.1 7))), ((n 10), .inl (k 0, 12, .inl (u_20.2.2.1 1))), ((n 11), .inl (k 0, 14, .inl fmoreHead)), ((n 12), .inl (k 0, 14, .inl fmoreView)), ((n 13), .inl (k 0, 17, .inl (u_20.2.2.1 2))), ((n 14), .inl (k 0, 17, .inl (u_20.2.2.1 3))), ((n 15), .inl (k 0, 17, .inl (u_20.2.2.1 4)))] H := hP.sub [0, 1, 2, 3, 4, 5, 6, 7, 8, 9, 10] rfl
        have hD : va_D A [((n 0), .inr (11, [.int mthrown, .ref (n 1), .ref (n 2), .ref (n 3), .ref (n 4), .int (nI mtaped), .ref (n 5), .int (nI msize), .int (nI mat), .int (nI mfrom), .int mtoken, .int mvalue, .int mfaultKind, .int mfaultPlace, .ref (n 6), .ref (n 7), .ref (n 8), .ref (n 9), .ref (n 10), .ref (n 11), .ref (n 12), .int (nI (u_20.2.1 0)), .int (u_20.1 0), .int (u_20.1 1), .int (u_20.1 2), .ref (n 13), .ref (n 14), .ref (n 15), .int (u_20.1 3), .int (u_20.1 4), .int (u_20.1 5), .ref (n 16), .ref (n 17), .int mroundNow, .ref (n 18), .long msampleFor, .long msampleAll, .ref (n 19), .int maskWorst, .long moftenAll, .long moftenView, .long moftenOnes, .ref (n 20), .ref (n 21), .ref (n 22), .ref (n 23)])), ((n 1), .inl (k 0, 99, .inl (u_20.2.2.1 0))), ((n 7), .inl (k 0, 12, .inl (u_20.2.2.1 5))), ((n 8), .inl (k 0, 12, .inl (u_20.2.2.1 6))), ((n 9), .inl (k 0, 4, .inl (u_20.2.2.1 7))), ((n 10), .inl (k 0, 12, .inl (u_20.2.2.1 1))), ((n 11), .inl (k 0, 14, .inl fmoreHead)), ((n 12), .inl (k 0, 14, .inl fmoreView)), ((n 13), .inl (k 0, 17, .inl (u_20.2.2.1 2))), ((n 14), .inl (k 0, 17, .inl (u_20.2.2.1 3))), ((n 15), .inl (k 0, 17, .inl (u_20.2.2.1 4)))] := hD.sub [0, 1, 2, 3, 4, 5, 6, 7, 8, 9, 10] (by decide) rfl
        obtain ⟨hz_21, hg_22, hi_23⟩ := hr_19
        have hbhi_23 := okW_bd hi_23
        refine lv_if_eq (tgt := 59) hx hb dX11_say_45 (by decide) (fun c_24 => ?_) (fun c_24 => ?_)
        · skip
          refine lv_bipush (v := (-5)) hx hb dX11_say_59 (by decide) ?_
          exact x_reti S hr hlk hQ hS ((fun i => ([(u_20.1 0), (u_20.1 1), (u_20.1 2), (u_20.1 3), (u_20.1 4), (u_20.1 5)] : List (Int32)).getD i 0), (fun i => ([u_20.2.1 0] : List (Nat)).getD i 0), (fun i => ([(u_20.2.2.1 0), (u_20.2.2.1 1), (u_20.2.2.1 2), (u_20.2.2.1 3), (u_20.2.2.1 4), (u_20.2.2.1 5), (u_20.2.2.1 6), (u_20.2.2.1 7)] : List (Nat → Int32)).getD i (fun _ => 0)), (fun i => ([] : List (Nat → Int64)).getD i (fun _ => 0)), (fun i => ([] : List (Int64)).getD i 0)) ⟨(show u_20.2.1 0 ≤ 14 by omega), hi_23⟩ (x_B hP hD) dX11_say_61
        · skip
          refine lv_aload_n hx hb dX11_say_48 rfl (lv_at hl 0 rfl) ?_
          refine lv_iload_n hx hb dX11_say_49 rfl (lv_at hl 1 rfl) ?_
          refine x_roVi (As := [.int p0]) S hK hP hD hZ (fun _ h => h) hA hS hA hl mwX11_lastOf lkX11_373 (ctX11_lastOf l D k z n mthrown mtaped msize mat mfrom mtoken mvalue mfaultKind mfaultPlace (u_20.2.1 0) (u_20.1 0) (u_20.1 1) (u_20.1 2) (u_20.1 3) (u_20.1 4) (u_20.1 5) mroundNow msampleFor msampleAll maskWorst moftenAll moftenView moftenOnes (u_20.2.2.1 0) (u_20.2.2.1 2) (u_20.2.2.1 3) (u_20.2.2.1 4) p0 (by omega) (by omega) (by omega) (by omega) (by omega) (hi_23)) [0, 1, 8, 9, 10] rfl (by decide) rfl rfl rfl rfl rfl ⟨Nat.le_of_ble_eq_true rfl, Nat.le_of_ble_eq_true rfl, Nat.le_of_ble_eq_true rfl⟩ dX11_say_50 ⟨Nat.le_of_ble_eq_true rfl, Nat.le_of_ble_eq_true rfl⟩ (fun r_25 H locs hr_25 hP hS => ?_)
          refine x_roSi (As := [.int r_25]) S hK hP hD hZ (fun _ h => h) hA hS hA hl mwX11_bits lkX11_296 (ctX11_bits l D k z r_25 ) [] rfl (by decide) rfl rfl ⟨Nat.le_of_ble_eq_true rfl, Nat.le_of_ble_eq_true rfl, Nat.le_of_ble_eq_true rfl⟩ dX11_say_53 ⟨Nat.le_of_ble_eq_true rfl, Nat.le_of_ble_eq_true rfl⟩ (fun r_27 H locs hr_27 hP hS => ?_)
          obtain ⟨rfl, hg_29⟩ := hr_27
          refine lv_goto (tgt := 61) hx hb dX11_say_56 (by decide) ?_
          exact x_reti S hr hlk hQ hS ((fun i => ([(u_20.1 0), (u_20.1 1), (u_20.1 2), (u_20.1 3), (u_20.1 4), (u_20.1 5)] : List (Int32)).getD i 0), (fun i => ([u_20.2.1 0] : List (Nat)).getD i 0), (fun i => ([(u_20.2.2.1 0), (u_20.2.2.1 1), (u_20.2.2.1 2), (u_20.2.2.1 3), (u_20.2.2.1 4), (u_20.2.2.1 5), (u_20.2.2.1 6), (u_20.2.2.1 7)] : List (Nat → Int32)).getD i (fun _ => 0)), (fun i => ([] : List (Nat → Int64)).getD i (fun _ => 0)), (fun i => ([] : List (Int64)).getD i 0)) ⟨(show u_20.2.1 0 ≤ 14 by omega), hi_23⟩ (x_B hP hD) dX11_say_61
      · skip
        refine lv_bipush (v := (-2)) hx hb dX11_say_26 (by decide) ?_
        exact x_reti S hr hlk hQ hS ((fun i => ([mlawNow, mwetSet, moverAll, mones, mtwos, mgone] : List (Int32)).getD i 0), (fun i => ([mmoreMany] : List (Nat)).getD i 0), (fun i => ([fworld, fhardNow, fonesAt, ftwosAt, fgoneAt, frowOf, fplaceOf, ffirstOf] : List (Nat → Int32)).getD i (fun _ => 0)), (fun i => ([] : List (Nat → Int64)).getD i (fun _ => 0)), (fun i => ([] : List (Int64)).getD i 0)) ⟨(show mmoreMany ≤ 14 by omega), hkworld⟩ (x_B hP hD) dX11_say_28

set_option maxHeartbeats 4000000 in
set_option maxRecDepth 100000 in
theorem ctX11_slug (l : Launch) (D : va_G) (k : Nat → ClassId) (z : Nat → Nat) (n : Nat → Nat) (mthrown : Int32) (mtaped : Nat) (msize : Nat) (mat : Nat) (mfrom : Nat) (mtoken : Int32) (mvalue : Int32) (mfaultKind : Int32) (mfaultPlace : Int32) (mmoreMany : Nat) (mlawNow : Int32) (mwetSet : Int32) (moverAll : Int32) (mones : Int32) (mtwos : Int32) (mgone : Int32) (mroundNow : Int32) (msampleFor : Int64) (msampleAll : Int64) (maskWorst : Int32) (moftenAll : Int64) (moftenView : Int64) (moftenOnes : Int64) (fworld : Nat → Int32) (frowOf : Nat → Int32) (fplaceOf : Nat → Int32) (ffirstOf : Nat → Int32) (fhardNow : Nat → Int32) (fmoreHead : Nat → Int32) (fmoreView : Nat → Int32) (fonesAt : Nat → Int32) (ftwosAt : Nat → Int32) (fgoneAt : Nat → Int32) (p0 : Int32) (p1 : Int32) (hmtaped : mtaped ≤ 600) (hmsize : msize ≤ 600) (hmat : mat ≤ 600) (hmfrom : mfrom ≤ 600) (hmmoreMany : mmoreMany ≤ 14) (hkworld : okW fworld) : MU l yX11_slug cX11_slug 3 (some .int) 9 D k z [.ref (n 0), .int p0, .int p1] [((n 0), .inr (11, [.int mthrown, .ref (n 1), .ref (n 2), .ref (n 3), .ref (n 4), .int (nI mtaped), .ref (n 5), .int (nI msize), .int (nI mat), .int (nI mfrom), .int mtoken, .int mvalue, .int mfaultKind, .int mfaultPlace, .ref (n 6), .ref (n 7), .ref (n 8), .ref (n 9), .ref (n 10), .ref (n 11), .ref (n 12), .int (nI mmoreMany), .int mlawNow, .int mwetSet, .int moverAll, .ref (n 13), .ref (n 14), .ref (n 15), .int mones, .int mtwos, .int mgone, .ref (n 16), .ref (n 17), .int mroundNow, .ref (n 18), .long msampleFor, .long msampleAll, .ref (n 19), .int maskWorst, .long moftenAll, .long moftenView, .long moftenOnes, .ref (n 20), .ref (n 21), .ref (n 22), .ref (n 23)])), ((n 1), .inl (k 0, 99, .inl fworld)), ((n 7), .inl (k 0, 12, .inl frowOf)), ((n 8), .inl (k 0, 12, .inl fplaceOf)), ((n 9), .inl (k 0, 4, .inl ffirstOf)), ((n 10), .inl (k 0, 12, .inl fhardNow)), ((n 11), .inl (k 0, 14, .inl fmoreHead)), ((n 12), .inl (k 0, 14, .inl fmoreView)), ((n 13), .inl (k 0, 17, .inl fonesAt)), ((n 14), .inl (k 0, 17, .inl ftwosAt)), ((n 15), .inl (k 0, 17, .inl fgoneAt))] 0 0 (Ui D (fun (r : Int32) (u : (Nat → Int32) × (Nat → Nat) × (Nat → Nat → Int32) × (Nat → Nat → Int64) × (Nat → Int64)) => (u.2.1 0 ≤ 14) ∧ (okW (u.2.2.1 0))) (fun u : (Nat → Int32) × (Nat → Nat) × (Nat → Nat → Int32) × (Nat → Nat → Int64) × (Nat → Int64) => [((n 0), .inr (11, [.int mthrown, .ref (n 1), .ref (n 2), .ref (n 3), .ref (n 4), .int (nI mtaped), .ref (n 5), .int (nI msize), .int (nI mat), .int (nI mfrom), .int mtoken, .int mvalue, .int mfaultKind, .int mfaultPlace, .ref (n 6), .ref (n 7), .ref (n 8), .ref (n 9), .ref (n 10), .ref (n 11), .ref (n 12), .int (nI (u.2.1 0)), .int (u.1 0), .int (u.1 1), .int (u.1 2), .ref (n 13), .ref (n 14), .ref (n 15), .int (u.1 3), .int (u.1 4), .int (u.1 5), .ref (n 16), .ref (n 17), .int mroundNow, .ref (n 18), .long msampleFor, .long msampleAll, .ref (n 19), .int maskWorst, .long moftenAll, .long moftenView, .long moftenOnes, .ref (n 20), .ref (n 21), .ref (n 22), .ref (n 23)])), ((n 1), .inl (k 0, 99, .inl (u.2.2.1 0))), ((n 7), .inl (k 0, 12, .inl (u.2.2.1 5))), ((n 8), .inl (k 0, 12, .inl (u.2.2.1 6))), ((n 9), .inl (k 0, 4, .inl (u.2.2.1 7))), ((n 10), .inl (k 0, 12, .inl (u.2.2.1 1))), ((n 11), .inl (k 0, 14, .inl fmoreHead)), ((n 12), .inl (k 0, 14, .inl fmoreView)), ((n 13), .inl (k 0, 17, .inl (u.2.2.1 2))), ((n 14), .inl (k 0, 17, .inl (u.2.2.1 3))), ((n 15), .inl (k 0, 17, .inl (u.2.2.1 4)))])) := by
  refine MU.of (by decide) (Nat.le_of_ble_eq_true rfl) ?_
  intro p e s m below meth c ls A args Q S hr hlk hnm hQ hK hP hD hZ hA hS hl
  have hx := S.1
  have hb := S.2.1
  have hl : lv_has ls 3 [(0, .ref (n 0)), (1, .int p0), (2, .int p1)] := hl
  have hbfworld := okW_bd hkworld
  refine lv_aload_n hx hb dX11_slug_0 rfl (lv_at hl 0 rfl) ?_
  refine lv_iload_n hx hb dX11_slug_1 rfl (lv_at hl 1 rfl) ?_
  refine lv_i2l (v := p0.toInt64) hx hb dX11_slug_2 rfl ?_
  refine x_roVi (As := [.long p0.toInt64]) S hK hP hD hZ (fun _ h => h) hA hS hA hl mwX11_isHead lkX11_237 (ctX11_isHead_i l D k z n mthrown mtaped msize mat mfrom mtoken mvalue mfaultKind mfaultPlace mmoreMany mlawNow mwetSet moverAll mones mtwos mgone mroundNow msampleFor msampleAll maskWorst moftenAll moftenView moftenOnes fworld p0 (by omega) (by omega) (by omega) (by omega) (by omega) (hkworld)) [0, 1] rfl (by decide) rfl rfl rfl rfl rfl ⟨Nat.le_of_ble_eq_true rfl, Nat.le_of_ble_eq_true rfl, Nat.le_of_ble_eq_true rfl⟩ dX11_slug_3 ⟨Nat.le_of_ble_eq_true rfl, Nat.le_of_ble_eq_true rfl⟩ (fun r_1 H locs hr_1 hP hS => ?_)
  obtain ⟨hp_3, hz_4⟩ := hr_1
  refine lv_if_eq (tgt := 18) hx hb dX11_slug_6 (by decide) (fun c_5 => ?_) (fun c_5 => ?_)
  · skip
    refine lv_bipush (v := (-2)) hx hb dX11_slug_18 (by decide) ?_
    exact x_reti S hr hlk hQ hS ((fun i => ([mlawNow, mwetSet, moverAll, mones, mtwos, mgone] : List (Int32)).getD i 0), (fun i => ([mmoreMany] : List (Nat)).getD i 0), (fun i => ([fworld, fhardNow, fonesAt, ftwosAt, fgoneAt, frowOf, fplaceOf, ffirstOf] : List (Nat → Int32)).getD i (fun _ => 0)), (fun i => ([] : List (Nat → Int64)).getD i (fun _ => 0)), (fun i => ([] : List (Int64)).getD i 0)) ⟨(show mmoreMany ≤ 14 by omega), hkworld⟩ (x_B hP hD) dX11_slug_20
  · skip
    obtain ⟨n_6, rfl, hn_6⟩ := hp_3.resolve_left c_5
    refine lv_aload_n hx hb dX11_slug_9 rfl (lv_at hl 0 rfl) ?_
    refine lv_iload_n hx hb dX11_slug_10 rfl (lv_at hl 2 rfl) ?_
    refine lv_i2l (v := p1.toInt64) hx hb dX11_slug_11 rfl ?_
    refine x_roVi (As := [.long p1.toInt64]) S hK hP hD hZ (fun _ h => h) hA hS hA hl mwX11_isHour lkX11_318 (ctX11_isHour_i l D k z n mthrown mtaped msize mat mfrom mtoken mvalue mfaultKind mfaultPlace mmoreMany mlawNow mwetSet moverAll mones mtwos mgone mroundNow msampleFor msampleAll maskWorst moftenAll moftenView moftenOnes fworld p1 (by omega) (by omega) (by omega) (by omega) (by omega) (hkworld)) [0, 1] rfl (by decide) rfl rfl rfl rfl rfl ⟨Nat.le_of_ble_eq_true rfl, Nat.le_of_ble_eq_true rfl, Nat.le_of_ble_eq_true rfl⟩ dX11_slug_12 ⟨Nat.le_of_ble_eq_true rfl, Nat.le_of_ble_eq_true rfl⟩ (fun r_7 H locs hr_7 hP hS => ?_)
    obtain ⟨hp_9, hz_10⟩ := hr_7
    refine lv_if_ne (tgt := 21) hx hb dX11_slug_15 (by decide) (fun c_11 => ?_) (fun c_11 => ?_)
    · skip
      obtain ⟨n_12, rfl, hn_12⟩ := hp_9.resolve_left c_11
      refine lv_aload_n hx hb dX11_slug_21 rfl (lv_at hl 0 rfl) ?_
      refine lv_bipush (v := 100) hx hb dX11_slug_22 (by decide) ?_
      refine lv_iload_n hx hb dX11_slug_24 rfl (lv_at hl 1 rfl) ?_
      refine lv_imul hx hb dX11_slug_25 ?_
      refine x_is (nI (100 * n_6)) (ni_mul (by decide) rfl) ?_
      refine lv_iload_n hx hb dX11_slug_26 rfl (lv_at hl 2 rfl) ?_
      refine lv_iadd hx hb dX11_slug_27 ?_
      refine x_is (nI (100 * n_6 + n_12)) (ni_add rfl rfl) ?_
      refine x_muVi (wr := []) (As := [.int (nI (100 * n_6 + n_12))]) S hK hP hD hZ hS hA hl mwX11_keepAct lkX11_483 (ctX11_keepAct l D k z n mthrown mtaped msize mat mfrom mtoken mvalue mfaultKind mfaultPlace mmoreMany mlawNow mwetSet moverAll mones mtwos mgone mroundNow msampleFor msampleAll maskWorst moftenAll moftenView moftenOnes fworld frowOf fplaceOf ffirstOf fhardNow fmoreHead fmoreView fonesAt ftwosAt fgoneAt (nI (100 * n_6 + n_12)) (by omega) (by omega) (by omega) (by omega) (by omega) (hkworld)) [0, 1, 2, 3, 4, 5, 6, 7, 8, 9, 10] [] rfl rfl (by decide) (by decide) (by decide) rfl rfl rfl rfl rfl ⟨Nat.le_of_ble_eq_true rfl, Nat.le_of_ble_eq_true rfl, Nat.le_of_ble_eq_true rfl⟩ dX11_slug_28 ⟨Nat.le_of_ble_eq_true rfl, Nat.le_of_ble_eq_true rfl⟩ (fun r_13 u_14 H locs hr_13 hP hD hS => ?_)
      have hP : va_P D vwCl [((n 0), .inr (11, [.int mthrown, .ref (n 1), .ref (n 2), .ref (n 3), .ref (n 4), .int (nI mtaped), .ref (n 5), .int (nI msize), .int (nI mat), .int (nI mfrom), .int mtoken, .int mvalue, .int mfaultKind, .int mfaultPlace, .ref (n 6), .ref (n 7), .ref (n 8), .ref (n 9), .ref (n 10), .ref (n 11), .ref (n 12), .int (nI (u_14.2.1 0)), .int (u_14.1 0), .int (u_14.1 1), .int (u_14.1 2), .ref (n 13), .ref (n 14), .ref (n 15), .int (u_14.1 3), .int (u_14.1 4), .int (u_14.1 5), .ref (n 16), .ref (n 17), .int mroundNow, .ref (n 18), .long msampleFor, .long msampleAll, .ref (n 19), .int maskWorst, .long moftenAll, .long moftenView, .long moftenOnes, .ref (n 20), .ref (n 21), .ref (n 22), .ref (n 23)])), ((n 1), .inl (k 0, 99, .inl (u_14.2.2.1 0))), ((n 7), .inl (k 0, 12, .inl (u_14.2.2.1 5))), ((n 8), .inl (k 0, 12, .inl (u_14.2.2.1 6))), ((n 9), .inl (k 0, 4, .inl (u_14.2.2.1 7))), ((n 10), .inl (k 0, 12, .inl (u_14.2.2.1 1))), ((n 11), .inl (k 0, 14, .inl fmoreHead)), ((n 12), .inl (k 0, 14, .inl fmoreView)), ((n 13), .inl (k 0, 17, .inl (u_14.2.2.1 2))), ((n 14), .inl (k 0, 17, .inl (u_14.2.2.1 3))), ((n 15), .inl (k 0, 17, .inl (u_14.2.2.1 4)))] H := hP.sub [0, 1, 2, 3, 4, 5, 6, 7, 8, 9, 10] rfl
      have hD : va_D A [((n 0), .inr (11, [.int mthrown, .ref (n 1), .ref (n 2), .ref (n 3), .ref (n 4), .int (nI mtaped), .ref (n 5), .int (nI msize), .int (nI mat), .int (nI mfrom), .int mtoken, .int mvalue, .int mfaultKind, .int mfaultPlace, .ref (n 6), .ref (n 7), .ref (n 8), .ref (n 9), .ref (n 10), .ref (n 11), .ref (n 12), .int (nI (u_14.2.1 0)), .int (u_14.1 0), .int (u_14.1 1), .int (u_14.1 2), .ref (n 13), .ref (n 14), .ref (n 15), .int (u_14.1 3), .int (u_14.1 4), .int (u_14.1 5), .ref (n 16), .ref (n 17), .int mroundNow, .ref (n 18), .long msampleFor, .long msampleAll, .ref (n 19), .int maskWorst, .long moftenAll, .long moftenView, .long moftenOnes, .ref (n 20), .ref (n 21), .ref (n 22), .ref (n 23)])), ((n 1), .inl (k 0, 99, .inl (u_14.2.2.1 0))), ((n 7), .inl (k 0, 12, .inl (u_14.2.2.1 5))), ((n 8), .inl (k 0, 12, .inl (u_14.2.2.1 6))), ((n 9), .inl (k 0, 4, .inl (u_14.2.2.1 7))), ((n 10), .inl (k 0, 12, .inl (u_14.2.2.1 1))), ((n 11), .inl (k 0, 14, .inl fmoreHead)), ((n 12), .inl (k 0, 14, .inl fmoreView)), ((n 13), .inl (k 0, 17, .inl (u_14.2.2.1 2))), ((n 14), .inl (k 0, 17, .inl (u_14.2.2.1 3))), ((n 15), .inl (k 0, 17, .inl (u_14.2.2.1 4)))] := hD.sub [0, 1, 2, 3, 4, 5, 6, 7, 8, 9, 10] (by decide) rfl
      obtain ⟨hz_15, hg_16, hi_17⟩ := hr_13
      have hbhi_17 := okW_bd hi_17
      refine lv_if_eq (tgt := 46) hx hb dX11_slug_31 (by decide) (fun c_18 => ?_) (fun c_18 => ?_)
      · skip
        refine lv_bipush (v := (-5)) hx hb dX11_slug_46 (by decide) ?_
        exact x_reti S hr hlk hQ hS ((fun i => ([(u_14.1 0), (u_14.1 1), (u_14.1 2), (u_14.1 3), (u_14.1 4), (u_14.1 5)] : List (Int32)).getD i 0), (fun i => ([u_14.2.1 0] : List (Nat)).getD i 0), (fun i => ([(u_14.2.2.1 0), (u_14.2.2.1 1), (u_14.2.2.1 2), (u_14.2.2.1 3), (u_14.2.2.1 4), (u_14.2.2.1 5), (u_14.2.2.1 6), (u_14.2.2.1 7)] : List (Nat → Int32)).getD i (fun _ => 0)), (fun i => ([] : List (Nat → Int64)).getD i (fun _ => 0)), (fun i => ([] : List (Int64)).getD i 0)) ⟨(show u_14.2.1 0 ≤ 14 by omega), hi_17⟩ (x_B hP hD) dX11_slug_48
      · skip
        refine lv_aload_n hx hb dX11_slug_34 rfl (lv_at hl 0 rfl) ?_
        refine x_get S hK hP 0 rfl cfX11 27 lkX11_58 (by decide) rfl dX11_slug_35 ?_
        refine lv_aload_n hx hb dX11_slug_38 rfl (lv_at hl 0 rfl) ?_
        refine x_roVi (As := []) S hK hP hD hZ (fun _ h => h) hA hS hA hl mwX11_hours lkX11_103 (ctX11_hours l D k z n mthrown mtaped msize mat mfrom mtoken mvalue mfaultKind mfaultPlace (u_14.2.1 0) (u_14.1 0) (u_14.1 1) (u_14.1 2) (u_14.1 3) (u_14.1 4) (u_14.1 5) mroundNow msampleFor msampleAll maskWorst moftenAll moftenView moftenOnes (u_14.2.2.1 0) (by omega) (by omega) (by omega) (by omega) (by omega) (hi_17)) [0, 1] rfl (by decide) rfl rfl rfl rfl rfl ⟨Nat.le_of_ble_eq_true rfl, Nat.le_of_ble_eq_true rfl, Nat.le_of_ble_eq_true rfl⟩ dX11_slug_39 ⟨Nat.le_of_ble_eq_true rfl, Nat.le_of_ble_eq_true rfl⟩ (fun r_19 H locs hr_19 hP hS => ?_)
        obtain rfl := hr_19
        refine x_iald S hK hP 10 rfl (vp_in_nI (by omega) (by decide)) dX11_slug_42 ?_
        refine lv_topi (fun v_21 ev_21 => ?_)
        refine lv_goto (tgt := 48) hx hb dX11_slug_43 (by decide) ?_
        exact x_reti S hr hlk hQ hS ((fun i => ([(u_14.1 0), (u_14.1 1), (u_14.1 2), (u_14.1 3), (u_14.1 4), (u_14.1 5)] : List (Int32)).getD i 0), (fun i => ([u_14.2.1 0] : List (Nat)).getD i 0), (fun i => ([(u_14.2.2.1 0), (u_14.2.2.1 1), (u_14.2.2.1 2), (u_14.2.2.1 3), (u_14.2.2.1 4), (u_14.2.2.1 5), (u_14.2.2.1 6), (u_14.2.2.1 7)] : List (Nat → Int32)).getD i (fun _ => 0)), (fun i => ([] : List (Nat → Int64)).getD i (fun _ => 0)), (fun i => ([] : List (Int64)).getD i 0)) ⟨(show u_14.2.1 0 ≤ 14 by omega), hi_17⟩ (x_B hP hD) dX11_slug_48
    · skip
      refine lv_bipush (v := (-2)) hx hb dX11_slug_18 (by decide) ?_
      exact x_reti S hr hlk hQ hS ((fun i => ([mlawNow, mwetSet, moverAll, mones, mtwos, mgone] : List (Int32)).getD i 0), (fun i => ([mmoreMany] : List (Nat)).getD i 0), (fun i => ([fworld, fhardNow, fonesAt, ftwosAt, fgoneAt, frowOf, fplaceOf, ffirstOf] : List (Nat → Int32)).getD i (fun _ => 0)), (fun i => ([] : List (Nat → Int64)).getD i (fun _ => 0)), (fun i => ([] : List (Int64)).getD i 0)) ⟨(show mmoreMany ≤ 14 by omega), hkworld⟩ (x_B hP hD) dX11_slug_20

set_option maxHeartbeats 4000000 in
set_option maxRecDepth 100000 in
theorem ctX11_undo (l : Launch) (D : va_G) (k : Nat → ClassId) (z : Nat → Nat) (n : Nat → Nat) (mthrown : Int32) (mtaped : Nat) (msize : Nat) (mat : Nat) (mfrom : Nat) (mtoken : Int32) (mvalue : Int32) (mfaultKind : Int32) (mfaultPlace : Int32) (mmoreMany : Nat) (mlawNow : Int32) (mwetSet : Int32) (moverAll : Int32) (mones : Int32) (mtwos : Int32) (mgone : Int32) (mroundNow : Int32) (msampleFor : Int64) (msampleAll : Int64) (maskWorst : Int32) (moftenAll : Int64) (moftenView : Int64) (moftenOnes : Int64) (fworld : Nat → Int32) (hmtaped : mtaped ≤ 600) (hmsize : msize ≤ 600) (hmat : mat ≤ 600) (hmfrom : mfrom ≤ 600) (hmmoreMany : mmoreMany ≤ 14) (hkworld : okW fworld) : MU l yX11_undo cX11_undo 1 (some .int) 1 D k z [.ref (n 0)] [((n 0), .inr (11, [.int mthrown, .ref (n 1), .ref (n 2), .ref (n 3), .ref (n 4), .int (nI mtaped), .ref (n 5), .int (nI msize), .int (nI mat), .int (nI mfrom), .int mtoken, .int mvalue, .int mfaultKind, .int mfaultPlace, .ref (n 6), .ref (n 7), .ref (n 8), .ref (n 9), .ref (n 10), .ref (n 11), .ref (n 12), .int (nI mmoreMany), .int mlawNow, .int mwetSet, .int moverAll, .ref (n 13), .ref (n 14), .ref (n 15), .int mones, .int mtwos, .int mgone, .ref (n 16), .ref (n 17), .int mroundNow, .ref (n 18), .long msampleFor, .long msampleAll, .ref (n 19), .int maskWorst, .long moftenAll, .long moftenView, .long moftenOnes, .ref (n 20), .ref (n 21), .ref (n 22), .ref (n 23)])), ((n 1), .inl (k 0, 99, .inl fworld))] 0 0 (Ui D (fun (r : Int32) (u : (Nat → Int32) × (Nat → Nat) × (Nat → Nat → Int32) × (Nat → Nat → Int64) × (Nat → Int64)) => (okW (u.2.2.1 0))) (fun u : (Nat → Int32) × (Nat → Nat) × (Nat → Nat → Int32) × (Nat → Nat → Int64) × (Nat → Int64) => [((n 0), .inr (11, [.int mthrown, .ref (n 1), .ref (n 2), .ref (n 3), .ref (n 4), .int (nI mtaped), .ref (n 5), .int (nI msize), .int (nI mat), .int (nI mfrom), .int mtoken, .int mvalue, .int mfaultKind, .int mfaultPlace, .ref (n 6), .ref (n 7), .ref (n 8), .ref (n 9), .ref (n 10), .ref (n 11), .ref (n 12), .int (nI mmoreMany), .int mlawNow, .int mwetSet, .int moverAll, .ref (n 13), .ref (n 14), .ref (n 15), .int mones, .int mtwos, .int mgone, .ref (n 16), .ref (n 17), .int mroundNow, .ref (n 18), .long msampleFor, .long msampleAll, .ref (n 19), .int maskWorst, .long moftenAll, .long moftenView, .long moftenOnes, .ref (n 20), .ref (n 21), .ref (n 22), .ref (n 23)])), ((n 1), .inl (k 0, 99, .inl (u.2.2.1 0)))])) := by
  refine MU.of (by decide) (Nat.le_of_ble_eq_true rfl) ?_
  intro p e s m below meth c ls A args Q S hr hlk hnm hQ hK hP hD hZ hA hS hl
  have hx := S.1
  have hb := S.2.1
  have hl : lv_has ls 1 [(0, .ref (n 0))] := hl
  have hbfworld := okW_bd hkworld
  refine lv_aload_n hx hb dX11_undo_0 rfl (lv_at hl 0 rfl) ?_
  refine x_roVi (As := []) S hK hP hD hZ (fun _ h => h) hA hS hA hl mwX11_isGarden lkX11_99 (ctX11_isGarden l D k z n mthrown mtaped msize mat mfrom mtoken mvalue mfaultKind mfaultPlace mmoreMany mlawNow mwetSet moverAll mones mtwos mgone mroundNow msampleFor msampleAll maskWorst moftenAll moftenView moftenOnes fworld (by omega) (by omega) (by omega) (by omega) (by omega) (hkworld)) [0, 1] rfl (by decide) rfl rfl rfl rfl rfl ⟨Nat.le_of_ble_eq_true rfl, Nat.le_of_ble_eq_true rfl, Nat.le_of_ble_eq_true rfl⟩ dX11_undo_1 ⟨Nat.le_of_ble_eq_true rfl, Nat.le_of_ble_eq_true rfl⟩ (fun r_1 H locs hr_1 hP hS => ?_)
  have hz_3 := hr_1
  refine lv_if_ne (tgt := 10) hx hb dX11_undo_4 (by decide) (fun c_4 => ?_) (fun c_4 => ?_)
  · skip
    refine lv_aload_n hx hb dX11_undo_10 rfl (lv_at hl 0 rfl) ?_
    refine x_get S hK hP 0 rfl cfX11 1 lkX11_9 (by decide) rfl dX11_undo_11 ?_
    refine lv_bipush (v := 7) hx hb dX11_undo_14 (by decide) ?_
    refine x_iald S hK hP 1 rfl (vp_lit (by decide)) dX11_undo_16 ?_
    refine x_is (nI (wn fworld 7)) ((cl_at (f := fworld) (a := 7) (by decide) (by omega)).trans (okW_at hkworld (i := 7) (by omega))) ?_
    refine lv_if_ne (tgt := 23) hx hb dX11_undo_17 (by decide) (fun c_5 => ?_) (fun c_5 => ?_)
    · skip
      have c_5 : ¬ wn fworld 7 = 0 := fun q => c_5 ((ni_eq rfl (by decide) (by omega) (by omega)).mpr q)
      refine lv_aload_n hx hb dX11_undo_23 rfl (lv_at hl 0 rfl) ?_
      refine x_get S hK hP 0 rfl cfX11 1 lkX11_9 (by decide) rfl dX11_undo_24 ?_
      refine lv_bipush (v := 7) hx hb dX11_undo_27 (by decide) ?_
      refine lv_dup2_11 hx hb dX11_undo_29 rfl rfl ?_
      refine x_iald S hK hP 1 rfl (vp_lit (by decide)) dX11_undo_30 ?_
      refine x_is (nI (wn fworld 7)) ((cl_at (f := fworld) (a := 7) (by decide) (by omega)).trans (okW_at hkworld (i := 7) (by omega))) ?_
      refine lv_iconst (v := 1) hx hb dX11_undo_31 (by decide) ?_
      refine lv_isub hx hb dX11_undo_32 ?_
      refine x_is (nI (wn fworld 7 - 1)) (ni_sub rfl (by decide) (by omega)) ?_
      refine x_iast (ws' := fun f_6 => [((n 0), .inr (11, [.int mthrown, .ref (n 1), .ref (n 2), .ref (n 3), .ref (n 4), .int (nI mtaped), .ref (n 5), .int (nI msize), .int (nI mat), .int (nI mfrom), .int mtoken, .int mvalue, .int mfaultKind, .int mfaultPlace, .ref (n 6), .ref (n 7), .ref (n 8), .ref (n 9), .ref (n 10), .ref (n 11), .ref (n 12), .int (nI mmoreMany), .int mlawNow, .int mwetSet, .int moverAll, .ref (n 13), .ref (n 14), .ref (n 15), .int mones, .int mtwos, .int mgone, .ref (n 16), .ref (n 17), .int mroundNow, .ref (n 18), .long msampleFor, .long msampleAll, .ref (n 19), .int maskWorst, .long moftenAll, .long moftenView, .long moftenOnes, .ref (n 20), .ref (n 21), .ref (n 22), .ref (n 23)])), ((n 1), .inl (k 0, 99, .inl f_6))]) S hK hP hD hS 1 rfl (vp_lit (by decide)) (fun _ => rfl) dX11_undo_33 (fun f_6 H locs ef_6 hP hD hS => ?_)
      obtain ⟨hif_6, hbf_6⟩ := okW_s7 ef_6 hkworld (by decide) (q := wn fworld 7 - 1) rfl (by omega)
      refine lv_aload_n hx hb dX11_undo_34 rfl (lv_at hl 0 rfl) ?_
      refine x_get S hK hP 0 rfl cfX11 1 lkX11_9 (by decide) rfl dX11_undo_35 ?_
      refine lv_bipush (v := 7) hx hb dX11_undo_38 (by decide) ?_
      refine x_iald S hK hP 1 rfl (vp_lit (by decide)) dX11_undo_40 ?_
      refine x_is (nI (wn f_6 7)) ((cl_at (f := f_6) (a := 7) (by decide) (by omega)).trans (okW_at hif_6 (i := 7) (by omega))) ?_
      exact x_reti S hr hlk hQ hS ((fun i => ([] : List (Int32)).getD i 0), (fun i => ([] : List (Nat)).getD i 0), (fun i => ([f_6] : List (Nat → Int32)).getD i (fun _ => 0)), (fun i => ([] : List (Nat → Int64)).getD i (fun _ => 0)), (fun i => ([] : List (Int64)).getD i 0)) hif_6 (x_B hP hD) dX11_undo_41
    · skip
      have c_5 : wn fworld 7 = 0 := (ni_eq rfl (by decide) (by omega) (by omega)).mp c_5
      refine lv_bipush (v := (-5)) hx hb dX11_undo_20 (by decide) ?_
      exact x_reti S hr hlk hQ hS ((fun i => ([] : List (Int32)).getD i 0), (fun i => ([] : List (Nat)).getD i 0), (fun i => ([fworld] : List (Nat → Int32)).getD i (fun _ => 0)), (fun i => ([] : List (Nat → Int64)).getD i (fun _ => 0)), (fun i => ([] : List (Int64)).getD i 0)) hkworld (x_B hP hD) dX11_undo_22
  · skip
    refine lv_bipush (v := (-2)) hx hb dX11_undo_7 (by decide) ?_
    exact x_reti S hr hlk hQ hS ((fun i => ([] : List (Int32)).getD i 0), (fun i => ([] : List (Nat)).getD i 0), (fun i => ([fworld] : List (Nat → Int32)).getD i (fun _ => 0)), (fun i => ([] : List (Nat → Int64)).getD i (fun _ => 0)), (fun i => ([] : List (Int64)).getD i 0)) hkworld (x_B hP hD) dX11_undo_9

set_option maxHeartbeats 4000000 in
set_option maxRecDepth 100000 in
theorem ctX11_anew (l : Launch) (D : va_G) (k : Nat → ClassId) (z : Nat → Nat) (n : Nat → Nat) (mthrown : Int32) (mtaped : Nat) (msize : Nat) (mat : Nat) (mfrom : Nat) (mtoken : Int32) (mvalue : Int32) (mfaultKind : Int32) (mfaultPlace : Int32) (mmoreMany : Nat) (mlawNow : Int32) (mwetSet : Int32) (moverAll : Int32) (mones : Int32) (mtwos : Int32) (mgone : Int32) (mroundNow : Int32) (msampleFor : Int64) (msampleAll : Int64) (maskWorst : Int32) (moftenAll : Int64) (moftenView : Int64) (moftenOnes : Int64) (fworld : Nat → Int32) (hmtaped : mtaped ≤ 600) (hmsize : msize ≤ 600) (hmat : mat ≤ 600) (hmfrom : mfrom ≤ 600) (hmmoreMany : mmoreMany ≤ 14) (hkworld : okW fworld) : MU l yX11_anew cX11_anew 2 (some .int) 1 D k z [.ref (n 0)] [((n 0), .inr (11, [.int mthrown, .ref (n 1), .ref (n 2), .ref (n 3), .ref (n 4), .int (nI mtaped), .ref (n 5), .int (nI msize), .int (nI mat), .int (nI mfrom), .int mtoken, .int mvalue, .int mfaultKind, .int mfaultPlace, .ref (n 6), .ref (n 7), .ref (n 8), .ref (n 9), .ref (n 10), .ref (n 11), .ref (n 12), .int (nI mmoreMany), .int mlawNow, .int mwetSet, .int moverAll, .ref (n 13), .ref (n 14), .ref (n 15), .int mones, .int mtwos, .int mgone, .ref (n 16), .ref (n 17), .int mroundNow, .ref (n 18), .long msampleFor, .long msampleAll, .ref (n 19), .int maskWorst, .long moftenAll, .long moftenView, .long moftenOnes, .ref (n 20), .ref (n 21), .ref (n 22), .ref (n 23)])), ((n 1), .inl (k 0, 99, .inl fworld))] 0 0 (Ui D (fun (r : Int32) (u : (Nat → Int32) × (Nat → Nat) × (Nat → Nat → Int32) × (Nat → Nat → Int64) × (Nat → Int64)) => (okW (u.2.2.1 0))) (fun u : (Nat → Int32) × (Nat → Nat) × (Nat → Nat → Int32) × (Nat → Nat → Int64) × (Nat → Int64) => [((n 0), .inr (11, [.int mthrown, .ref (n 1), .ref (n 2), .ref (n 3), .ref (n 4), .int (nI mtaped), .ref (n 5), .int (nI msize), .int (nI mat), .int (nI mfrom), .int mtoken, .int mvalue, .int mfaultKind, .int mfaultPlace, .ref (n 6), .ref (n 7), .ref (n 8), .ref (n 9), .ref (n 10), .ref (n 11), .ref (n 12), .int (nI mmoreMany), .int mlawNow, .int mwetSet, .int moverAll, .ref (n 13), .ref (n 14), .ref (n 15), .int mones, .int mtwos, .int mgone, .ref (n 16), .ref (n 17), .int mroundNow, .ref (n 18), .long msampleFor, .long msampleAll, .ref (n 19), .int maskWorst, .long moftenAll, .long moftenView, .long moftenOnes, .ref (n 20), .ref (n 21), .ref (n 22), .ref (n 23)])), ((n 1), .inl (k 0, 99, .inl (u.2.2.1 0)))])) := by
  refine MU.of (by decide) (Nat.le_of_ble_eq_true rfl) ?_
  intro p e s m below meth c ls A args Q S hr hlk hnm hQ hK hP hD hZ hA hS hl
  have hx := S.1
  have hb := S.2.1
  have hl : lv_has ls 2 [(0, .ref (n 0))] := hl
  have hbfworld := okW_bd hkworld
  refine lv_aload_n hx hb dX11_anew_0 rfl (lv_at hl 0 rfl) ?_
  refine x_roVi (As := []) S hK hP hD hZ (fun _ h => h) hA hS hA hl mwX11_isGarden lkX11_99 (ctX11_isGarden l D k z n mthrown mtaped msize mat mfrom mtoken mvalue mfaultKind mfaultPlace mmoreMany mlawNow mwetSet moverAll mones mtwos mgone mroundNow msampleFor msampleAll maskWorst moftenAll moftenView moftenOnes fworld (by omega) (by omega) (by omega) (by omega) (by omega) (hkworld)) [0, 1] rfl (by decide) rfl rfl rfl rfl rfl ⟨Nat.le_of_ble_eq_true rfl, Nat.le_of_ble_eq_true rfl, Nat.le_of_ble_eq_true rfl⟩ dX11_anew_1 ⟨Nat.le_of_ble_eq_true rfl, Nat.le_of_ble_eq_true rfl⟩ (fun r_1 H locs hr_1 hP hS => ?_)
  have hz_3 := hr_1
  refine lv_if_ne (tgt := 10) hx hb dX11_anew_4 (by decide) (fun c_4 => ?_) (fun c_4 => ?_)
  · skip
    refine lv_aload_n hx hb dX11_anew_10 rfl (lv_at hl 0 rfl) ?_
    refine x_get S hK hP 0 rfl cfX11 1 lkX11_9 (by decide) rfl dX11_anew_11 ?_
    refine lv_bipush (v := 7) hx hb dX11_anew_14 (by decide) ?_
    refine x_iald S hK hP 1 rfl (vp_lit (by decide)) dX11_anew_16 ?_
    refine x_is (nI (wn fworld 7)) ((cl_at (f := fworld) (a := 7) (by decide) (by omega)).trans (okW_at hkworld (i := 7) (by omega))) ?_
    refine lv_istore_n (lv' := [(1, .int (nI (wn fworld 7))), (0, .ref (n 0))]) hx hb dX11_anew_17 rfl hl (by decide) rfl (fun ls hl => ?_)
    refine lv_aload_n hx hb dX11_anew_18 rfl (lv_at hl 1 rfl) ?_
    refine x_get S hK hP 0 rfl cfX11 1 lkX11_9 (by decide) rfl dX11_anew_19 ?_
    refine lv_bipush (v := 7) hx hb dX11_anew_22 (by decide) ?_
    refine lv_iconst (v := 0) hx hb dX11_anew_24 (by decide) ?_
    refine x_iast (ws' := fun f_5 => [((n 0), .inr (11, [.int mthrown, .ref (n 1), .ref (n 2), .ref (n 3), .ref (n 4), .int (nI mtaped), .ref (n 5), .int (nI msize), .int (nI mat), .int (nI mfrom), .int mtoken, .int mvalue, .int mfaultKind, .int mfaultPlace, .ref (n 6), .ref (n 7), .ref (n 8), .ref (n 9), .ref (n 10), .ref (n 11), .ref (n 12), .int (nI mmoreMany), .int mlawNow, .int mwetSet, .int moverAll, .ref (n 13), .ref (n 14), .ref (n 15), .int mones, .int mtwos, .int mgone, .ref (n 16), .ref (n 17), .int mroundNow, .ref (n 18), .long msampleFor, .long msampleAll, .ref (n 19), .int maskWorst, .long moftenAll, .long moftenView, .long moftenOnes, .ref (n 20), .ref (n 21), .ref (n 22), .ref (n 23)])), ((n 1), .inl (k 0, 99, .inl f_5))]) S hK hP hD hS 1 rfl (vp_lit (by decide)) (fun _ => rfl) dX11_anew_25 (fun f_5 H locs ef_5 hP hD hS => ?_)
    obtain ⟨hif_5, hbf_5⟩ := okW_s7 ef_5 hkworld (by decide) (q := 0) (by decide) (by omega)
    refine lv_iload_n hx hb dX11_anew_26 rfl (lv_at hl 0 rfl) ?_
    exact x_reti S hr hlk hQ hS ((fun i => ([] : List (Int32)).getD i 0), (fun i => ([] : List (Nat)).getD i 0), (fun i => ([f_5] : List (Nat → Int32)).getD i (fun _ => 0)), (fun i => ([] : List (Nat → Int64)).getD i (fun _ => 0)), (fun i => ([] : List (Int64)).getD i 0)) hif_5 (x_B hP hD) dX11_anew_27
  · skip
    refine lv_bipush (v := (-2)) hx hb dX11_anew_7 (by decide) ?_
    exact x_reti S hr hlk hQ hS ((fun i => ([] : List (Int32)).getD i 0), (fun i => ([] : List (Nat)).getD i 0), (fun i => ([fworld] : List (Nat → Int32)).getD i (fun _ => 0)), (fun i => ([] : List (Nat → Int64)).getD i (fun _ => 0)), (fun i => ([] : List (Int64)).getD i 0)) hkworld (x_B hP hD) dX11_anew_9

set_option maxHeartbeats 4000000 in
set_option maxRecDepth 100000 in
theorem ctX11_goDrawn (l : Launch) (D : va_G) (k : Nat → ClassId) (z : Nat → Nat) (n : Nat → Nat) (mthrown : Int32) (mtaped : Nat) (msize : Nat) (mat : Nat) (mfrom : Nat) (mtoken : Int32) (mvalue : Int32) (mfaultKind : Int32) (mfaultPlace : Int32) (mmoreMany : Nat) (mlawNow : Int32) (mwetSet : Int32) (moverAll : Int32) (mones : Int32) (mtwos : Int32) (mgone : Int32) (mroundNow : Int32) (msampleFor : Int64) (msampleAll : Int64) (maskWorst : Int32) (moftenAll : Int64) (moftenView : Int64) (moftenOnes : Int64) (fworld : Nat → Int32) (frowOf : Nat → Int32) (fplaceOf : Nat → Int32) (ffirstOf : Nat → Int32) (fhardNow : Nat → Int32) (fmoreHead : Nat → Int32) (fmoreView : Nat → Int32) (fonesAt : Nat → Int32) (ftwosAt : Nat → Int32) (fgoneAt : Nat → Int32) (p0 : Int64) (hmtaped : mtaped ≤ 600) (hmsize : msize ≤ 600) (hmat : mat ≤ 600) (hmfrom : mfrom ≤ 600) (hmmoreMany : mmoreMany ≤ 14) (hkworld : okW fworld) : MU l yX11_goDrawn cX11_goDrawn 6 none 7 D k z [.ref (n 0), .long p0] [((n 0), .inr (11, [.int mthrown, .ref (n 1), .ref (n 2), .ref (n 3), .ref (n 4), .int (nI mtaped), .ref (n 5), .int (nI msize), .int (nI mat), .int (nI mfrom), .int mtoken, .int mvalue, .int mfaultKind, .int mfaultPlace, .ref (n 6), .ref (n 7), .ref (n 8), .ref (n 9), .ref (n 10), .ref (n 11), .ref (n 12), .int (nI mmoreMany), .int mlawNow, .int mwetSet, .int moverAll, .ref (n 13), .ref (n 14), .ref (n 15), .int mones, .int mtwos, .int mgone, .ref (n 16), .ref (n 17), .int mroundNow, .ref (n 18), .long msampleFor, .long msampleAll, .ref (n 19), .int maskWorst, .long moftenAll, .long moftenView, .long moftenOnes, .ref (n 20), .ref (n 21), .ref (n 22), .ref (n 23)])), ((n 1), .inl (k 0, 99, .inl fworld)), ((n 7), .inl (k 0, 12, .inl frowOf)), ((n 8), .inl (k 0, 12, .inl fplaceOf)), ((n 9), .inl (k 0, 4, .inl ffirstOf)), ((n 10), .inl (k 0, 12, .inl fhardNow)), ((n 11), .inl (k 0, 14, .inl fmoreHead)), ((n 12), .inl (k 0, 14, .inl fmoreView)), ((n 13), .inl (k 0, 17, .inl fonesAt)), ((n 14), .inl (k 0, 17, .inl ftwosAt)), ((n 15), .inl (k 0, 17, .inl fgoneAt))] 0 0 (Uv D (fun u : (Nat → Int32) × (Nat → Nat) × (Nat → Nat → Int32) × (Nat → Nat → Int64) × (Nat → Int64) => (u.2.1 0 ≤ 14)) (fun u : (Nat → Int32) × (Nat → Nat) × (Nat → Nat → Int32) × (Nat → Nat → Int64) × (Nat → Int64) => [((n 0), .inr (11, [.int mthrown, .ref (n 1), .ref (n 2), .ref (n 3), .ref (n 4), .int (nI mtaped), .ref (n 5), .int (nI msize), .int (nI mat), .int (nI mfrom), .int mtoken, .int mvalue, .int mfaultKind, .int mfaultPlace, .ref (n 6), .ref (n 7), .ref (n 8), .ref (n 9), .ref (n 10), .ref (n 11), .ref (n 12), .int (nI (u.2.1 0)), .int (u.1 0), .int (u.1 1), .int (u.1 2), .ref (n 13), .ref (n 14), .ref (n 15), .int (u.1 3), .int (u.1 4), .int (u.1 5), .ref (n 16), .ref (n 17), .int mroundNow, .ref (n 18), .long msampleFor, .long msampleAll, .ref (n 19), .int maskWorst, .long moftenAll, .long moftenView, .long moftenOnes, .ref (n 20), .ref (n 21), .ref (n 22), .ref (n 23)])), ((n 1), .inl (k 0, 99, .inl fworld)), ((n 7), .inl (k 0, 12, .inl (u.2.2.1 4))), ((n 8), .inl (k 0, 12, .inl (u.2.2.1 5))), ((n 9), .inl (k 0, 4, .inl (u.2.2.1 6))), ((n 10), .inl (k 0, 12, .inl (u.2.2.1 0))), ((n 11), .inl (k 0, 14, .inl fmoreHead)), ((n 12), .inl (k 0, 14, .inl fmoreView)), ((n 13), .inl (k 0, 17, .inl (u.2.2.1 1))), ((n 14), .inl (k 0, 17, .inl (u.2.2.1 2))), ((n 15), .inl (k 0, 17, .inl (u.2.2.1 3)))])) := by
  refine MU.of (by decide) (Nat.le_of_ble_eq_true rfl) ?_
  intro p e s m below meth c ls A args Q S hr hlk hnm hQ hK hP hD hZ hA hS hl
  have hx := S.1
  have hb := S.2.1
  have hl : lv_has ls 6 [(0, .ref (n 0)), (1, .long p0)] := hl
  have hbfworld := okW_bd hkworld
  refine lv_aload_n hx hb dX11_goDrawn_0 rfl (lv_at hl 0 rfl) ?_
  refine x_muVv (wr := [((n 11), .inl (k 0, 14, .inl fmoreHead)), ((n 12), .inl (k 0, 14, .inl fmoreView)), ((n 13), .inl (k 0, 17, .inl fonesAt)), ((n 14), .inl (k 0, 17, .inl ftwosAt)), ((n 15), .inl (k 0, 17, .inl fgoneAt))]) (As := []) S hK hP hD hZ hS hA hl mwX11_asItIs lkX11_309 (ctX11_asItIs l D k z n mthrown mtaped msize mat mfrom mtoken mvalue mfaultKind mfaultPlace mmoreMany mlawNow mwetSet moverAll mones mtwos mgone mroundNow msampleFor msampleAll maskWorst moftenAll moftenView moftenOnes fworld frowOf fplaceOf ffirstOf fhardNow (by omega) (by omega) (by omega) (by omega) (by omega) (hkworld)) [0, 1, 2, 3, 4, 5] [6, 7, 8, 9, 10] rfl rfl (by decide) (by decide) (by decide) rfl rfl rfl rfl rfl ⟨Nat.le_of_ble_eq_true rfl, Nat.le_of_ble_eq_true rfl, Nat.le_of_ble_eq_true rfl⟩ dX11_goDrawn_1 ⟨Nat.le_of_ble_eq_true rfl, Nat.le_of_ble_eq_true rfl⟩ (fun u_2 H locs hr_1 hP hD hS => ?_)
  have hP : va_P D vwCl [((n 0), .inr (11, [.int mthrown, .ref (n 1), .ref (n 2), .ref (n 3), .ref (n 4), .int (nI mtaped), .ref (n 5), .int (nI msize), .int (nI mat), .int (nI mfrom), .int mtoken, .int mvalue, .int mfaultKind, .int mfaultPlace, .ref (n 6), .ref (n 7), .ref (n 8), .ref (n 9), .ref (n 10), .ref (n 11), .ref (n 12), .int (nI (u_2.2.1 0)), .int (u_2.1 0), .int (u_2.1 1), .int (u_2.1 2), .ref (n 13), .ref (n 14), .ref (n 15), .int mones, .int mtwos, .int mgone, .ref (n 16), .ref (n 17), .int mroundNow, .ref (n 18), .long msampleFor, .long msampleAll, .ref (n 19), .int maskWorst, .long moftenAll, .long moftenView, .long moftenOnes, .ref (n 20), .ref (n 21), .ref (n 22), .ref (n 23)])), ((n 1), .inl (k 0, 99, .inl fworld)), ((n 7), .inl (k 0, 12, .inl (u_2.2.2.1 1))), ((n 8), .inl (k 0, 12, .inl (u_2.2.2.1 2))), ((n 9), .inl (k 0, 4, .inl (u_2.2.2.1 3))), ((n 10), .inl (k 0, 12, .inl (u_2.2.2.1 0))), ((n 11), .inl (k 0, 14, .inl fmoreHead)), ((n 12), .inl (k 0, 14, .inl fmoreView)), ((n 13), .inl (k 0, 17, .inl fonesAt)), ((n 14), .inl (k 0, 17, .inl ftwosAt)), ((n 15), .inl (k 0, 17, .inl fgoneAt))] H := hP.sub [5, 6, 7, 8, 9, 10, 0, 1, 2, 3, 4] rfl
  have hD : va_D A [((n 0), .inr (11, [.int mthrown, .ref (n 1), .ref (n 2), .ref (n 3), .ref (n 4), .int (nI mtaped), .ref (n 5), .int (nI msize), .int (nI mat), .int (nI mfrom), .int mtoken, .int mvalue, .int mfaultKind, .int mfaultPlace, .ref (n 6), .ref (n 7), .ref (n 8), .ref (n 9), .ref (n 10), .ref (n 11), .ref (n 12), .int (nI (u_2.2.1 0)), .int (u_2.1 0), .int (u_2.1 1), .int (u_2.1 2), .ref (n 13), .ref (n 14), .ref (n 15), .int mones, .int mtwos, .int mgone, .ref (n 16), .ref (n 17), .int mroundNow, .ref (n 18), .long msampleFor, .long msampleAll, .ref (n 19), .int maskWorst, .long moftenAll, .long moftenView, .long moftenOnes, .ref (n 20), .ref (n 21), .ref (n 22), .ref (n 23)])), ((n 1), .inl (k 0, 99, .inl fworld)), ((n 7), .inl (k 0, 12, .inl (u_2.2.2.1 1))), ((n 8), .inl (k 0, 12, .inl (u_2.2.2.1 2))), ((n 9), .inl (k 0, 4, .inl (u_2.2.2.1 3))), ((n 10), .inl (k 0, 12, .inl (u_2.2.2.1 0))), ((n 11), .inl (k 0, 14, .inl fmoreHead)), ((n 12), .inl (k 0, 14, .inl fmoreView)), ((n 13), .inl (k 0, 17, .inl fonesAt)), ((n 14), .inl (k 0, 17, .inl ftwosAt)), ((n 15), .inl (k 0, 17, .inl fgoneAt))] := hD.sub [5, 6, 7, 8, 9, 10, 0, 1, 2, 3, 4] (by decide) rfl
  have hg_3 := hr_1
  refine lv_lload_n hx hb dX11_goDrawn_4 rfl (lv_at hl 1 rfl) ?_
  refine lv_lstore_n (lv' := [(3, .long p0), (0, .ref (n 0)), (1, .long p0)]) hx hb dX11_goDrawn_5 rfl hl (by decide) rfl (fun ls hl => ?_)
  refine lv_iconst (v := 0) hx hb dX11_goDrawn_6 (by decide) ?_
  refine lv_istore (lv' := [(5, .int 0), (3, .long p0), (0, .ref (n 0)), (1, .long p0)]) hx hb dX11_goDrawn_7 hl (by decide) rfl (fun ls hl => ?_)
  have lp_38 : ∀ (nn j_35 : Nat) (x_36 : Int64) (x_37 : Int32) (H : Heap) (locs : List Loc) (ls : Array Slot), j_35 ≤ wn fworld 0 → wn fworld 0 - j_35 < nn → va_P D vwCl [((n 0), .inr (11, [.int mthrown, .ref (n 1), .ref (n 2), .ref (n 3), .ref (n 4), .int (nI mtaped), .ref (n 5), .int (nI msize), .int (nI mat), .int (nI mfrom), .int mtoken, .int mvalue, .int mfaultKind, .int mfaultPlace, .ref (n 6), .ref (n 7), .ref (n 8), .ref (n 9), .ref (n 10), .ref (n 11), .ref (n 12), .int (nI (u_2.2.1 0)), .int (u_2.1 0), .int x_37, .int (u_2.1 2), .ref (n 13), .ref (n 14), .ref (n 15), .int mones, .int mtwos, .int mgone, .ref (n 16), .ref (n 17), .int mroundNow, .ref (n 18), .long msampleFor, .long msampleAll, .ref (n 19), .int maskWorst, .long moftenAll, .long moftenView, .long moftenOnes, .ref (n 20), .ref (n 21), .ref (n 22), .ref (n 23)])), ((n 1), .inl (k 0, 99, .inl fworld)), ((n 7), .inl (k 0, 12, .inl (u_2.2.2.1 1))), ((n 8), .inl (k 0, 12, .inl (u_2.2.2.1 2))), ((n 9), .inl (k 0, 4, .inl (u_2.2.2.1 3))), ((n 10), .inl (k 0, 12, .inl (u_2.2.2.1 0))), ((n 11), .inl (k 0, 14, .inl fmoreHead)), ((n 12), .inl (k 0, 14, .inl fmoreView)), ((n 13), .inl (k 0, 17, .inl fonesAt)), ((n 14), .inl (k 0, 17, .inl ftwosAt)), ((n 15), .inl (k 0, 17, .inl fgoneAt))] H → va_D A [((n 0), .inr (11, [.int mthrown, .ref (n 1), .ref (n 2), .ref (n 3), .ref (n 4), .int (nI mtaped), .ref (n 5), .int (nI msize), .int (nI mat), .int (nI mfrom), .int mtoken, .int mvalue, .int mfaultKind, .int mfaultPlace, .ref (n 6), .ref (n 7), .ref (n 8), .ref (n 9), .ref (n 10), .ref (n 11), .ref (n 12), .int (nI (u_2.2.1 0)), .int (u_2.1 0), .int x_37, .int (u_2.1 2), .ref (n 13), .ref (n 14), .ref (n 15), .int mones, .int mtwos, .int mgone, .ref (n 16), .ref (n 17), .int mroundNow, .ref (n 18), .long msampleFor, .long msampleAll, .ref (n 19), .int maskWorst, .long moftenAll, .long moftenView, .long moftenOnes, .ref (n 20), .ref (n 21), .ref (n 22), .ref (n 23)])), ((n 1), .inl (k 0, 99, .inl fworld)), ((n 7), .inl (k 0, 12, .inl (u_2.2.2.1 1))), ((n 8), .inl (k 0, 12, .inl (u_2.2.2.1 2))), ((n 9), .inl (k 0, 4, .inl (u_2.2.2.1 3))), ((n 10), .inl (k 0, 12, .inl (u_2.2.2.1 0))), ((n 11), .inl (k 0, 14, .inl fmoreHead)), ((n 12), .inl (k 0, 14, .inl fmoreView)), ((n 13), .inl (k 0, 17, .inl fonesAt)), ((n 14), .inl (k 0, 17, .inl ftwosAt)), ((n 15), .inl (k 0, 17, .inl fgoneAt))] → va_S A s.heap H locs → lv_has ls 6 [(5, .int (nI j_35)), (3, .long x_36), (0, .ref (n 0)), (1, .long p0)] → W p l e (Rm 7 0 0) s m args below meth c H locs 0 0 Q (F0 m 9 ls []) := by
    intro nn
    induction nn with
    | zero => intro j_35 x_36 x_37 H locs ls hjj_35 hnj_35; exact absurd hnj_35 (by omega)
    | succ nn ihj_35 =>
      intro j_35 x_36 x_37 H locs ls hjj_35 hnj_35 hP hD hS hl
      refine lv_iload hx hb dX11_goDrawn_9 (lv_at hl 0 rfl) ?_
      refine lv_aload_n hx hb dX11_goDrawn_11 rfl (lv_at hl 2 rfl) ?_
      refine x_roVi (As := []) S hK hP hD hZ (fun _ h => h) hA hS hA hl mwX11_hours lkX11_103 (ctX11_hours l D k z n mthrown mtaped msize mat mfrom mtoken mvalue mfaultKind mfaultPlace (u_2.2.1 0) (u_2.1 0) x_37 (u_2.1 2) mones mtwos mgone mroundNow msampleFor msampleAll maskWorst moftenAll moftenView moftenOnes fworld (by omega) (by omega) (by omega) (by omega) (by omega) (hkworld)) [0, 1] rfl (by decide) rfl rfl rfl rfl rfl ⟨Nat.le_of_ble_eq_true rfl, Nat.le_of_ble_eq_true rfl, Nat.le_of_ble_eq_true rfl⟩ dX11_goDrawn_12 ⟨Nat.le_of_ble_eq_true rfl, Nat.le_of_ble_eq_true rfl⟩ (fun r_39 H locs hr_39 hP hS => ?_)
      obtain rfl := hr_39
      refine lv_icmp_ge (tgt := 75) hx hb dX11_goDrawn_15 (by decide) (fun c_41 => ?_) (fun c_41 => ?_)
      · skip
        have c_41 : wn fworld 0 ≤ j_35 := (ni_le rfl rfl (by omega) (by omega)).mp c_41
        refine lv_aload_n hx hb dX11_goDrawn_75 rfl (lv_at hl 2 rfl) ?_
        refine x_muVv (wr := []) (As := []) S hK hP hD hZ hS hA hl mwX11_goAll lkX11_312 (ctX11_goAll l D k z n mthrown mtaped msize mat mfrom mtoken mvalue mfaultKind mfaultPlace (u_2.2.1 0) (u_2.1 0) x_37 (u_2.1 2) mones mtwos mgone mroundNow msampleFor msampleAll maskWorst moftenAll moftenView moftenOnes fworld (u_2.2.2.1 1) (u_2.2.2.1 2) (u_2.2.2.1 3) (u_2.2.2.1 0) fmoreHead fmoreView fonesAt ftwosAt fgoneAt (by omega) (by omega) (by omega) (by omega) (by omega) (hkworld)) [0, 1, 2, 3, 4, 5, 6, 7, 8, 9, 10] [] rfl rfl (by decide) (by decide) (by decide) rfl rfl rfl rfl rfl ⟨Nat.le_of_ble_eq_true rfl, Nat.le_of_ble_eq_true rfl, Nat.le_of_ble_eq_true rfl⟩ dX11_goDrawn_76 ⟨Nat.le_of_ble_eq_true rfl, Nat.le_of_ble_eq_true rfl⟩ (fun u_43 H locs hr_42 hP hD hS => ?_)
        have hP : va_P D vwCl [((n 0), .inr (11, [.int mthrown, .ref (n 1), .ref (n 2), .ref (n 3), .ref (n 4), .int (nI mtaped), .ref (n 5), .int (nI msize), .int (nI mat), .int (nI mfrom), .int mtoken, .int mvalue, .int mfaultKind, .int mfaultPlace, .ref (n 6), .ref (n 7), .ref (n 8), .ref (n 9), .ref (n 10), .ref (n 11), .ref (n 12), .int (nI (u_2.2.1 0)), .int (u_2.1 0), .int x_37, .int (u_2.1 2), .ref (n 13), .ref (n 14), .ref (n 15), .int (u_43.1 0), .int (u_43.1 1), .int (u_43.1 2), .ref (n 16), .ref (n 17), .int mroundNow, .ref (n 18), .long msampleFor, .long msampleAll, .ref (n 19), .int maskWorst, .long moftenAll, .long moftenView, .long moftenOnes, .ref (n 20), .ref (n 21), .ref (n 22), .ref (n 23)])), ((n 1), .inl (k 0, 99, .inl fworld)), ((n 7), .inl (k 0, 12, .inl (u_2.2.2.1 1))), ((n 8), .inl (k 0, 12, .inl (u_2.2.2.1 2))), ((n 9), .inl (k 0, 4, .inl (u_2.2.2.1 3))), ((n 10), .inl (k 0, 12, .inl (u_2.2.2.1 0))), ((n 11), .inl (k 0, 14, .inl fmoreHead)), ((n 12), .inl (k 0, 14, .inl fmoreView)), ((n 13), .inl (k 0, 17, .inl (u_43.2.2.1 0))), ((n 14), .inl (k 0, 17, .inl (u_43.2.2.1 1))), ((n 15), .inl (k 0, 17, .inl (u_43.2.2.1 2)))] H := hP.sub [0, 1, 2, 3, 4, 5, 6, 7, 8, 9, 10] rfl
        have hD : va_D A [((n 0), .inr (11, [.int mthrown, .ref (n 1), .ref (n 2), .ref (n 3), .ref (n 4), .int (nI mtaped), .ref (n 5), .int (nI msize), .int (nI mat), .int (nI mfrom), .int mtoken, .int mvalue, .int mfaultKind, .int mfaultPlace, .ref (n 6), .ref (n 7), .ref (n 8), .ref (n 9), .ref (n 10), .ref (n 11), .ref (n 12), .int (nI (u_2.2.1 0)), .int (u_2.1 0), .int x_37, .int (u_2.1 2), .ref (n 13), .ref (n 14), .ref (n 15), .int (u_43.1 0), .int (u_43.1 1), .int (u_43.1 2), .ref (n 16), .ref (n 17), .int mroundNow, .ref (n 18), .long msampleFor, .long msampleAll, .ref (n 19), .int maskWorst, .long moftenAll, .long moftenView, .long moftenOnes, .ref (n 20), .ref (n 21), .ref (n 22), .ref (n 23)])), ((n 1), .inl (k 0, 99, .inl fworld)), ((n 7), .inl (k 0, 12, .inl (u_2.2.2.1 1))), ((n 8), .inl (k 0, 12, .inl (u_2.2.2.1 2))), ((n 9), .inl (k 0, 4, .inl (u_2.2.2.1 3))), ((n 10), .inl (k 0, 12, .inl (u_2.2.2.1 0))), ((n 11), .inl (k 0, 14, .inl fmoreHead)), ((n 12), .inl (k 0, 14, .inl fmoreView)), ((n 13), .inl (k 0, 17, .inl (u_43.2.2.1 0))), ((n 14), .inl (k 0, 17, .inl (u_43.2.2.1 1))), ((n 15), .inl (k 0, 17, .inl (u_43.2.2.1 2)))] := hD.sub [0, 1, 2, 3, 4, 5, 6, 7, 8, 9, 10] (by decide) rfl
        exact x_retv S hr hlk hQ hS ((fun i => ([(u_2.1 0), x_37, (u_2.1 2), (u_43.1 0), (u_43.1 1), (u_43.1 2)] : List (Int32)).getD i 0), (fun i => ([u_2.2.1 0] : List (Nat)).getD i 0), (fun i => ([(u_2.2.2.1 0), (u_43.2.2.1 0), (u_43.2.2.1 1), (u_43.2.2.1 2), (u_2.2.2.1 1), (u_2.2.2.1 2), (u_2.2.2.1 3)] : List (Nat → Int32)).getD i (fun _ => 0)), (fun i => ([] : List (Nat → Int64)).getD i (fun _ => 0)), (fun i => ([] : List (Int64)).getD i 0)) (show u_2.2.1 0 ≤ 14 by omega) (x_B hP hD) dX11_goDrawn_79
      · skip
        have c_41 : ¬ wn fworld 0 ≤ j_35 := fun q => c_41 ((ni_le rfl rfl (by omega) (by omega)).mpr q)
        refine lv_ldc2 hx hb S.2.2.2.1 (S.2.2.2.2 _ lkX11_486) dX11_goDrawn_18 ?_
        refine lv_lload_n hx hb dX11_goDrawn_21 rfl (lv_at hl 1 rfl) ?_
        refine lv_lmul hx hb dX11_goDrawn_22 ?_
        refine lv_topl (fun v_44 ev_44 => ?_)
        refine lv_ldc2 hx hb S.2.2.2.1 (S.2.2.2.2 _ lkX11_488) dX11_goDrawn_23 ?_
        refine lv_ladd hx hb dX11_goDrawn_26 ?_
        refine lv_topl (fun v_45 ev_45 => ?_)
        refine lv_ldc2 hx hb S.2.2.2.1 (S.2.2.2.2 _ lkX11_490) dX11_goDrawn_27 ?_
        refine lv_lrem hx hb dX11_goDrawn_30 (by decide) ?_
        refine lv_topl (fun v_46 ev_46 => ?_)
        refine lv_lstore_n (lv' := [(3, .long v_46), (5, .int (nI j_35)), (0, .ref (n 0)), (1, .long p0)]) hx hb dX11_goDrawn_31 rfl hl (by decide) rfl (fun ls hl => ?_)
        refine lv_aload_n hx hb dX11_goDrawn_32 rfl (lv_at hl 2 rfl) ?_
        refine lv_dup hx hb dX11_goDrawn_33 rfl ?_
        refine x_get S hK hP 0 rfl cfX11 23 lkX11_264 (by decide) rfl dX11_goDrawn_34 ?_
        refine lv_lload_n hx hb dX11_goDrawn_37 rfl (lv_at hl 0 rfl) ?_
        refine lv_ldc2 hx hb S.2.2.2.1 (S.2.2.2.2 _ lkX11_492) dX11_goDrawn_38 ?_
        refine lv_ldiv hx hb dX11_goDrawn_41 (by decide) ?_
        refine lv_topl (fun v_47 ev_47 => ?_)
        refine lv_ldc2 hx hb S.2.2.2.1 (S.2.2.2.2 _ lkX11_494) dX11_goDrawn_42 ?_
        refine lv_lrem hx hb dX11_goDrawn_45 (by decide) ?_
        refine lv_topl (fun v_48 ev_48 => ?_)
        refine lv_aload_n hx hb dX11_goDrawn_46 rfl (lv_at hl 2 rfl) ?_
        refine x_get S hK hP 0 rfl cfX11 1 lkX11_9 (by decide) rfl dX11_goDrawn_47 ?_
        refine lv_iconst (v := 2) hx hb dX11_goDrawn_50 (by decide) ?_
        refine x_iald S hK hP 1 rfl (vp_lit (by decide)) dX11_goDrawn_51 ?_
        refine x_is (nI (wn fworld 2)) ((cl_at (f := fworld) (a := 2) (by decide) (by omega)).trans (okW_at hkworld (i := 2) (by omega))) ?_
        refine lv_i2l (v := (nI (wn fworld 2)).toInt64) hx hb dX11_goDrawn_52 rfl ?_
        refine W.lcmp hx hb dX11_goDrawn_53 ?_
        refine lv_if_ge (tgt := 64) hx hb dX11_goDrawn_54 (by decide) (fun c_49 => ?_) (fun c_49 => ?_)
        · skip
          have c_49 : (nI (wn fworld 2)).toInt64 ≤ v_48 := (lg_cmp_ge _ _).mp c_49
          refine lv_iconst (v := 0) hx hb dX11_goDrawn_64 (by decide) ?_
          refine lv_ior hx hb dX11_goDrawn_65 ?_
          refine lv_topi (fun v_50 ev_50 => ?_)
          refine x_put (ws' := [((n 0), .inr (11, [.int mthrown, .ref (n 1), .ref (n 2), .ref (n 3), .ref (n 4), .int (nI mtaped), .ref (n 5), .int (nI msize), .int (nI mat), .int (nI mfrom), .int mtoken, .int mvalue, .int mfaultKind, .int mfaultPlace, .ref (n 6), .ref (n 7), .ref (n 8), .ref (n 9), .ref (n 10), .ref (n 11), .ref (n 12), .int (nI (u_2.2.1 0)), .int (u_2.1 0), .int v_50, .int (u_2.1 2), .ref (n 13), .ref (n 14), .ref (n 15), .int mones, .int mtwos, .int mgone, .ref (n 16), .ref (n 17), .int mroundNow, .ref (n 18), .long msampleFor, .long msampleAll, .ref (n 19), .int maskWorst, .long moftenAll, .long moftenView, .long moftenOnes, .ref (n 20), .ref (n 21), .ref (n 22), .ref (n 23)])), ((n 1), .inl (k 0, 99, .inl fworld)), ((n 7), .inl (k 0, 12, .inl (u_2.2.2.1 1))), ((n 8), .inl (k 0, 12, .inl (u_2.2.2.1 2))), ((n 9), .inl (k 0, 4, .inl (u_2.2.2.1 3))), ((n 10), .inl (k 0, 12, .inl (u_2.2.2.1 0))), ((n 11), .inl (k 0, 14, .inl fmoreHead)), ((n 12), .inl (k 0, 14, .inl fmoreView)), ((n 13), .inl (k 0, 17, .inl fonesAt)), ((n 14), .inl (k 0, 17, .inl ftwosAt)), ((n 15), .inl (k 0, 17, .inl fgoneAt))]) S hK hP hD hS 0 rfl cfX11 23 lkX11_264 (by decide) rfl rfl rfl (Nat.le_of_ble_eq_true rfl) rfl dX11_goDrawn_66 (fun H locs hP hD hS => ?_)
          refine lv_iinc (v := (nI (j_35 + 1))) (lv' := [(5, .int (nI (j_35 + 1))), (3, .long v_46), (0, .ref (n 0)), (1, .long p0)]) hx hb dX11_goDrawn_69 hl (k := 1) rfl (ni_inc _) (by decide) rfl (fun ls hl => ?_)
          refine lv_goto (tgt := 9) hx hb dX11_goDrawn_72 (by decide) ?_
          exact ihj_35 (j_35 + 1) v_46 v_50 _ _ _ (by omega) (by omega) hP hD hS (lv_sub hl [0, 1, 2, 3] rfl)
        · skip
          have c_49 : ¬ (nI (wn fworld 2)).toInt64 ≤ v_48 := fun q => c_49 ((lg_cmp_ge _ _).mpr q)
          refine lv_iconst (v := 1) hx hb dX11_goDrawn_57 (by decide) ?_
          refine lv_iload hx hb dX11_goDrawn_58 (lv_at hl 1 rfl) ?_
          refine lv_ishl hx hb dX11_goDrawn_60 ?_
          refine lv_topi (fun v_51 ev_51 => ?_)
          refine lv_goto (tgt := 65) hx hb dX11_goDrawn_61 (by decide) ?_
          refine lv_ior hx hb dX11_goDrawn_65 ?_
          refine lv_topi (fun v_52 ev_52 => ?_)
          refine x_put (ws' := [((n 0), .inr (11, [.int mthrown, .ref (n 1), .ref (n 2), .ref (n 3), .ref (n 4), .int (nI mtaped), .ref (n 5), .int (nI msize), .int (nI mat), .int (nI mfrom), .int mtoken, .int mvalue, .int mfaultKind, .int mfaultPlace, .ref (n 6), .ref (n 7), .ref (n 8), .ref (n 9), .ref (n 10), .ref (n 11), .ref (n 12), .int (nI (u_2.2.1 0)), .int (u_2.1 0), .int v_52, .int (u_2.1 2), .ref (n 13), .ref (n 14), .ref (n 15), .int mones, .int mtwos, .int mgone, .ref (n 16), .ref (n 17), .int mroundNow, .ref (n 18), .long msampleFor, .long msampleAll, .ref (n 19), .int maskWorst, .long moftenAll, .long moftenView, .long moftenOnes, .ref (n 20), .ref (n 21), .ref (n 22), .ref (n 23)])), ((n 1), .inl (k 0, 99, .inl fworld)), ((n 7), .inl (k 0, 12, .inl (u_2.2.2.1 1))), ((n 8), .inl (k 0, 12, .inl (u_2.2.2.1 2))), ((n 9), .inl (k 0, 4, .inl (u_2.2.2.1 3))), ((n 10), .inl (k 0, 12, .inl (u_2.2.2.1 0))), ((n 11), .inl (k 0, 14, .inl fmoreHead)), ((n 12), .inl (k 0, 14, .inl fmoreView)), ((n 13), .inl (k 0, 17, .inl fonesAt)), ((n 14), .inl (k 0, 17, .inl ftwosAt)), ((n 15), .inl (k 0, 17, .inl fgoneAt))]) S hK hP hD hS 0 rfl cfX11 23 lkX11_264 (by decide) rfl rfl rfl (Nat.le_of_ble_eq_true rfl) rfl dX11_goDrawn_66 (fun H locs hP hD hS => ?_)
          refine lv_iinc (v := (nI (j_35 + 1))) (lv' := [(5, .int (nI (j_35 + 1))), (3, .long v_46), (0, .ref (n 0)), (1, .long p0)]) hx hb dX11_goDrawn_69 hl (k := 1) rfl (ni_inc _) (by decide) rfl (fun ls hl => ?_)
          refine lv_goto (tgt := 9) hx hb dX11_goDrawn_72 (by decide) ?_
          exact ihj_35 (j_35 + 1) v_46 v_52 _ _ _ (by omega) (by omega) hP hD hS (lv_sub hl [0, 1, 2, 3] rfl)
  exact lp_38 (wn fworld 0 + 1) 0 p0 (u_2.1 1) _ _ _ (by omega) (by omega) hP hD hS (lv_sub hl [0, 1, 2, 3] rfl)

set_option maxHeartbeats 4000000 in
set_option maxRecDepth 100000 in
theorem ctX11_drawn (l : Launch) (D : va_G) (k : Nat → ClassId) (z : Nat → Nat) (n : Nat → Nat) (mthrown : Int32) (mtaped : Nat) (msize : Nat) (mat : Nat) (mfrom : Nat) (mtoken : Int32) (mvalue : Int32) (mfaultKind : Int32) (mfaultPlace : Int32) (mmoreMany : Nat) (mlawNow : Int32) (mwetSet : Int32) (moverAll : Int32) (mones : Int32) (mtwos : Int32) (mgone : Int32) (mroundNow : Int32) (msampleFor : Int64) (msampleAll : Int64) (maskWorst : Int32) (moftenAll : Int64) (moftenView : Int64) (moftenOnes : Int64) (fworld : Nat → Int32) (frowOf : Nat → Int32) (fplaceOf : Nat → Int32) (ffirstOf : Nat → Int32) (fhardNow : Nat → Int32) (fmoreHead : Nat → Int32) (fmoreView : Nat → Int32) (fonesAt : Nat → Int32) (ftwosAt : Nat → Int32) (fgoneAt : Nat → Int32) (p0 : Int32) (p1 : Int32) (hmtaped : mtaped ≤ 600) (hmsize : msize ≤ 600) (hmat : mat ≤ 600) (hmfrom : mfrom ≤ 600) (hmmoreMany : mmoreMany ≤ 14) (hkworld : okW fworld) : MU l yX11_drawn cX11_drawn 3 (some .int) 8 D k z [.ref (n 0), .int p0, .int p1] [((n 0), .inr (11, [.int mthrown, .ref (n 1), .ref (n 2), .ref (n 3), .ref (n 4), .int (nI mtaped), .ref (n 5), .int (nI msize), .int (nI mat), .int (nI mfrom), .int mtoken, .int mvalue, .int mfaultKind, .int mfaultPlace, .ref (n 6), .ref (n 7), .ref (n 8), .ref (n 9), .ref (n 10), .ref (n 11), .ref (n 12), .int (nI mmoreMany), .int mlawNow, .int mwetSet, .int moverAll, .ref (n 13), .ref (n 14), .ref (n 15), .int mones, .int mtwos, .int mgone, .ref (n 16), .ref (n 17), .int mroundNow, .ref (n 18), .long msampleFor, .long msampleAll, .ref (n 19), .int maskWorst, .long moftenAll, .long moftenView, .long moftenOnes, .ref (n 20), .ref (n 21), .ref (n 22), .ref (n 23)])), ((n 1), .inl (k 0, 99, .inl fworld)), ((n 7), .inl (k 0, 12, .inl frowOf)), ((n 8), .inl (k 0, 12, .inl fplaceOf)), ((n 9), .inl (k 0, 4, .inl ffirstOf)), ((n 10), .inl (k 0, 12, .inl fhardNow)), ((n 11), .inl (k 0, 14, .inl fmoreHead)), ((n 12), .inl (k 0, 14, .inl fmoreView)), ((n 13), .inl (k 0, 17, .inl fonesAt)), ((n 14), .inl (k 0, 17, .inl ftwosAt)), ((n 15), .inl (k 0, 17, .inl fgoneAt))] 0 0 (Ui D (fun (r : Int32) (u : (Nat → Int32) × (Nat → Nat) × (Nat → Nat → Int32) × (Nat → Nat → Int64) × (Nat → Int64)) => (u.2.1 0 ≤ 14)) (fun u : (Nat → Int32) × (Nat → Nat) × (Nat → Nat → Int32) × (Nat → Nat → Int64) × (Nat → Int64) => [((n 0), .inr (11, [.int mthrown, .ref (n 1), .ref (n 2), .ref (n 3), .ref (n 4), .int (nI mtaped), .ref (n 5), .int (nI msize), .int (nI mat), .int (nI mfrom), .int mtoken, .int mvalue, .int mfaultKind, .int mfaultPlace, .ref (n 6), .ref (n 7), .ref (n 8), .ref (n 9), .ref (n 10), .ref (n 11), .ref (n 12), .int (nI (u.2.1 0)), .int (u.1 0), .int (u.1 1), .int (u.1 2), .ref (n 13), .ref (n 14), .ref (n 15), .int (u.1 3), .int (u.1 4), .int (u.1 5), .ref (n 16), .ref (n 17), .int mroundNow, .ref (n 18), .long msampleFor, .long msampleAll, .ref (n 19), .int maskWorst, .long moftenAll, .long moftenView, .long moftenOnes, .ref (n 20), .ref (n 21), .ref (n 22), .ref (n 23)])), ((n 1), .inl (k 0, 99, .inl fworld)), ((n 7), .inl (k 0, 12, .inl (u.2.2.1 4))), ((n 8), .inl (k 0, 12, .inl (u.2.2.1 5))), ((n 9), .inl (k 0, 4, .inl (u.2.2.1 6))), ((n 10), .inl (k 0, 12, .inl (u.2.2.1 0))), ((n 11), .inl (k 0, 14, .inl fmoreHead)), ((n 12), .inl (k 0, 14, .inl fmoreView)), ((n 13), .inl (k 0, 17, .inl (u.2.2.1 1))), ((n 14), .inl (k 0, 17, .inl (u.2.2.1 2))), ((n 15), .inl (k 0, 17, .inl (u.2.2.1 3)))])) := by
  refine MU.of (by decide) (Nat.le_of_ble_eq_true rfl) ?_
  intro p e s m below meth c ls A args Q S hr hlk hnm hQ hK hP hD hZ hA hS hl
  have hx := S.1
  have hb := S.2.1
  have hl : lv_has ls 3 [(0, .ref (n 0)), (1, .int p0), (2, .int p1)] := hl
  have hbfworld := okW_bd hkworld
  refine lv_aload_n hx hb dX11_drawn_0 rfl (lv_at hl 0 rfl) ?_
  refine x_roVi (As := []) S hK hP hD hZ (fun _ h => h) hA hS hA hl mwX11_isGarden lkX11_99 (ctX11_isGarden l D k z n mthrown mtaped msize mat mfrom mtoken mvalue mfaultKind mfaultPlace mmoreMany mlawNow mwetSet moverAll mones mtwos mgone mroundNow msampleFor msampleAll maskWorst moftenAll moftenView moftenOnes fworld (by omega) (by omega) (by omega) (by omega) (by omega) (hkworld)) [0, 1] rfl (by decide) rfl rfl rfl rfl rfl ⟨Nat.le_of_ble_eq_true rfl, Nat.le_of_ble_eq_true rfl, Nat.le_of_ble_eq_true rfl⟩ dX11_drawn_1 ⟨Nat.le_of_ble_eq_true rfl, Nat.le_of_ble_eq_true rfl⟩ (fun r_1 H locs hr_1 hP hS => ?_)
  have hz_3 := hr_1
  refine lv_if_eq (tgt := 26) hx hb dX11_drawn_4 (by decide) (fun c_4 => ?_) (fun c_4 => ?_)
  · skip
    refine lv_bipush (v := (-2)) hx hb dX11_drawn_26 (by decide) ?_
    exact x_reti S hr hlk hQ hS ((fun i => ([mlawNow, mwetSet, moverAll, mones, mtwos, mgone] : List (Int32)).getD i 0), (fun i => ([mmoreMany] : List (Nat)).getD i 0), (fun i => ([fhardNow, fonesAt, ftwosAt, fgoneAt, frowOf, fplaceOf, ffirstOf] : List (Nat → Int32)).getD i (fun _ => 0)), (fun i => ([] : List (Nat → Int64)).getD i (fun _ => 0)), (fun i => ([] : List (Int64)).getD i 0)) (show mmoreMany ≤ 14 by omega) (x_B hP hD) dX11_drawn_28
  · skip
    refine lv_iload_n hx hb dX11_drawn_7 rfl (lv_at hl 1 rfl) ?_
    refine x_roSi (As := [.int p0]) S hK hP hD hZ (fun _ h => h) hA hS hA hl mwX11_isSeed lkX11_498 (ctX11_isSeed l D k z p0 ) [] rfl (by decide) rfl rfl ⟨Nat.le_of_ble_eq_true rfl, Nat.le_of_ble_eq_true rfl, Nat.le_of_ble_eq_true rfl⟩ dX11_drawn_8 ⟨Nat.le_of_ble_eq_true rfl, Nat.le_of_ble_eq_true rfl⟩ (fun r_5 H locs hr_5 hP hS => ?_)
    obtain rfl := hr_5
    refine lv_if_eq (tgt := 26) hx hb dX11_drawn_11 (by decide) (fun c_7 => ?_) (fun c_7 => ?_)
    · skip
      have c_7 : ¬ (0 ≤ p0.toInt64 ∧ p0.toInt64 ≤ 2000000000) := bo_0.mp c_7
      refine lv_bipush (v := (-2)) hx hb dX11_drawn_26 (by decide) ?_
      exact x_reti S hr hlk hQ hS ((fun i => ([mlawNow, mwetSet, moverAll, mones, mtwos, mgone] : List (Int32)).getD i 0), (fun i => ([mmoreMany] : List (Nat)).getD i 0), (fun i => ([fhardNow, fonesAt, ftwosAt, fgoneAt, frowOf, fplaceOf, ffirstOf] : List (Nat → Int32)).getD i (fun _ => 0)), (fun i => ([] : List (Nat → Int64)).getD i (fun _ => 0)), (fun i => ([] : List (Int64)).getD i 0)) (show mmoreMany ≤ 14 by omega) (x_B hP hD) dX11_drawn_28
    · skip
      have c_7 : 0 ≤ p0.toInt64 ∧ p0.toInt64 ≤ 2000000000 := bo_1.mp c_7
      refine lv_iload_n hx hb dX11_drawn_14 rfl (lv_at hl 2 rfl) ?_
      refine lv_i2l (v := p1.toInt64) hx hb dX11_drawn_15 rfl ?_
      refine lv_lconst (v := 0) hx hb dX11_drawn_16 (by decide) ?_
      refine lv_ldc2 hx hb S.2.2.2.1 (S.2.2.2.2 _ lkX11_89) dX11_drawn_17 ?_
      refine x_roSi (As := [.long p1.toInt64, .long 0, .long 2]) S hK hP hD hZ (fun _ h => h) hA hS hA hl mwX11_in lkX11_91 (ctX11_in l D k z p1.toInt64 0 2 ) [] rfl (by decide) rfl rfl ⟨Nat.le_of_ble_eq_true rfl, Nat.le_of_ble_eq_true rfl, Nat.le_of_ble_eq_true rfl⟩ dX11_drawn_20 ⟨Nat.le_of_ble_eq_true rfl, Nat.le_of_ble_eq_true rfl⟩ (fun r_8 H locs hr_8 hP hS => ?_)
      obtain rfl := hr_8
      refine lv_if_ne (tgt := 29) hx hb dX11_drawn_23 (by decide) (fun c_10 => ?_) (fun c_10 => ?_)
      · skip
        have c_10 : 0 ≤ p1.toInt64 ∧ p1.toInt64 ≤ 2 := bo_1.mp c_10
        refine lv_aload_n hx hb dX11_drawn_29 rfl (lv_at hl 0 rfl) ?_
        refine lv_iload_n hx hb dX11_drawn_30 rfl (lv_at hl 1 rfl) ?_
        refine lv_i2l (v := p0.toInt64) hx hb dX11_drawn_31 rfl ?_
        refine x_muVv (wr := []) (As := [.long p0.toInt64]) S hK hP hD hZ hS hA hl mwX11_goDrawn lkX11_501 (ctX11_goDrawn l D k z n mthrown mtaped msize mat mfrom mtoken mvalue mfaultKind mfaultPlace mmoreMany mlawNow mwetSet moverAll mones mtwos mgone mroundNow msampleFor msampleAll maskWorst moftenAll moftenView moftenOnes fworld frowOf fplaceOf ffirstOf fhardNow fmoreHead fmoreView fonesAt ftwosAt fgoneAt p0.toInt64 (by omega) (by omega) (by omega) (by omega) (by omega) (hkworld)) [0, 1, 2, 3, 4, 5, 6, 7, 8, 9, 10] [] rfl rfl (by decide) (by decide) (by decide) rfl rfl rfl rfl rfl ⟨Nat.le_of_ble_eq_true rfl, Nat.le_of_ble_eq_true rfl, Nat.le_of_ble_eq_true rfl⟩ dX11_drawn_32 ⟨Nat.le_of_ble_eq_true rfl, Nat.le_of_ble_eq_true rfl⟩ (fun u_12 H locs hr_11 hP hD hS => ?_)
        have hP : va_P D vwCl [((n 0), .inr (11, [.int mthrown, .ref (n 1), .ref (n 2), .ref (n 3), .ref (n 4), .int (nI mtaped), .ref (n 5), .int (nI msize), .int (nI mat), .int (nI mfrom), .int mtoken, .int mvalue, .int mfaultKind, .int mfaultPlace, .ref (n 6), .ref (n 7), .ref (n 8), .ref (n 9), .ref (n 10), .ref (n 11), .ref (n 12), .int (nI (u_12.2.1 0)), .int (u_12.1 0), .int (u_12.1 1), .int (u_12.1 2), .ref (n 13), .ref (n 14), .ref (n 15), .int (u_12.1 3), .int (u_12.1 4), .int (u_12.1 5), .ref (n 16), .ref (n 17), .int mroundNow, .ref (n 18), .long msampleFor, .long msampleAll, .ref (n 19), .int maskWorst, .long moftenAll, .long moftenView, .long moftenOnes, .ref (n 20), .ref (n 21), .ref (n 22), .ref (n 23)])), ((n 1), .inl (k 0, 99, .inl fworld)), ((n 7), .inl (k 0, 12, .inl (u_12.2.2.1 4))), ((n 8), .inl (k 0, 12, .inl (u_12.2.2.1 5))), ((n 9), .inl (k 0, 4, .inl (u_12.2.2.1 6))), ((n 10), .inl (k 0, 12, .inl (u_12.2.2.1 0))), ((n 11), .inl (k 0, 14, .inl fmoreHead)), ((n 12), .inl (k 0, 14, .inl fmoreView)), ((n 13), .inl (k 0, 17, .inl (u_12.2.2.1 1))), ((n 14), .inl (k 0, 17, .inl (u_12.2.2.1 2))), ((n 15), .inl (k 0, 17, .inl (u_12.2.2.1 3)))] H := hP.sub [0, 1, 2, 3, 4, 5, 6, 7, 8, 9, 10] rfl
        have hD : va_D A [((n 0), .inr (11, [.int mthrown, .ref (n 1), .ref (n 2), .ref (n 3), .ref (n 4), .int (nI mtaped), .ref (n 5), .int (nI msize), .int (nI mat), .int (nI mfrom), .int mtoken, .int mvalue, .int mfaultKind, .int mfaultPlace, .ref (n 6), .ref (n 7), .ref (n 8), .ref (n 9), .ref (n 10), .ref (n 11), .ref (n 12), .int (nI (u_12.2.1 0)), .int (u_12.1 0), .int (u_12.1 1), .int (u_12.1 2), .ref (n 13), .ref (n 14), .ref (n 15), .int (u_12.1 3), .int (u_12.1 4), .int (u_12.1 5), .ref (n 16), .ref (n 17), .int mroundNow, .ref (n 18), .long msampleFor, .long msampleAll, .ref (n 19), .int maskWorst, .long moftenAll, .long moftenView, .long moftenOnes, .ref (n 20), .ref (n 21), .ref (n 22), .ref (n 23)])), ((n 1), .inl (k 0, 99, .inl fworld)), ((n 7), .inl (k 0, 12, .inl (u_12.2.2.1 4))), ((n 8), .inl (k 0, 12, .inl (u_12.2.2.1 5))), ((n 9), .inl (k 0, 4, .inl (u_12.2.2.1 6))), ((n 10), .inl (k 0, 12, .inl (u_12.2.2.1 0))), ((n 11), .inl (k 0, 14, .inl fmoreHead)), ((n 12), .inl (k 0, 14, .inl fmoreView)), ((n 13), .inl (k 0, 17, .inl (u_12.2.2.1 1))), ((n 14), .inl (k 0, 17, .inl (u_12.2.2.1 2))), ((n 15), .inl (k 0, 17, .inl (u_12.2.2.1 3)))] := hD.sub [0, 1, 2, 3, 4, 5, 6, 7, 8, 9, 10] (by decide) rfl
        have hg_13 := hr_11
        refine lv_iload_n hx hb dX11_drawn_35 rfl (lv_at hl 2 rfl) ?_
        refine lv_if_ne (tgt := 46) hx hb dX11_drawn_36 (by decide) (fun c_14 => ?_) (fun c_14 => ?_)
        · skip
          refine lv_aload_n hx hb dX11_drawn_46 rfl (lv_at hl 0 rfl) ?_
          refine lv_iload_n hx hb dX11_drawn_47 rfl (lv_at hl 2 rfl) ?_
          refine x_roVi (As := [.int p1]) S hK hP hD hZ (fun _ h => h) hA hS hA hl mwX11_lastOf lkX11_373 (ctX11_lastOf l D k z n mthrown mtaped msize mat mfrom mtoken mvalue mfaultKind mfaultPlace (u_12.2.1 0) (u_12.1 0) (u_12.1 1) (u_12.1 2) (u_12.1 3) (u_12.1 4) (u_12.1 5) mroundNow msampleFor msampleAll maskWorst moftenAll moftenView moftenOnes fworld (u_12.2.2.1 1) (u_12.2.2.1 2) (u_12.2.2.1 3) p1 (by omega) (by omega) (by omega) (by omega) (by omega) (hkworld)) [0, 1, 8, 9, 10] rfl (by decide) rfl rfl rfl rfl rfl ⟨Nat.le_of_ble_eq_true rfl, Nat.le_of_ble_eq_true rfl, Nat.le_of_ble_eq_true rfl⟩ dX11_drawn_48 ⟨Nat.le_of_ble_eq_true rfl, Nat.le_of_ble_eq_true rfl⟩ (fun r_15 H locs hr_15 hP hS => ?_)
          exact x_reti S hr hlk hQ hS ((fun i => ([(u_12.1 0), (u_12.1 1), (u_12.1 2), (u_12.1 3), (u_12.1 4), (u_12.1 5)] : List (Int32)).getD i 0), (fun i => ([u_12.2.1 0] : List (Nat)).getD i 0), (fun i => ([(u_12.2.2.1 0), (u_12.2.2.1 1), (u_12.2.2.1 2), (u_12.2.2.1 3), (u_12.2.2.1 4), (u_12.2.2.1 5), (u_12.2.2.1 6)] : List (Nat → Int32)).getD i (fun _ => 0)), (fun i => ([] : List (Nat → Int64)).getD i (fun _ => 0)), (fun i => ([] : List (Int64)).getD i 0)) (show u_12.2.1 0 ≤ 14 by omega) (x_B hP hD) dX11_drawn_51
        · skip
          refine lv_aload_n hx hb dX11_drawn_39 rfl (lv_at hl 0 rfl) ?_
          refine x_get S hK hP 0 rfl cfX11 23 lkX11_264 (by decide) rfl dX11_drawn_40 ?_
          refine lv_goto (tgt := 51) hx hb dX11_drawn_43 (by decide) ?_
          exact x_reti S hr hlk hQ hS ((fun i => ([(u_12.1 0), (u_12.1 1), (u_12.1 2), (u_12.1 3), (u_12.1 4), (u_12.1 5)] : List (Int32)).getD i 0), (fun i => ([u_12.2.1 0] : List (Nat)).getD i 0), (fun i => ([(u_12.2.2.1 0), (u_12.2.2.1 1), (u_12.2.2.1 2), (u_12.2.2.1 3), (u_12.2.2.1 4), (u_12.2.2.1 5), (u_12.2.2.1 6)] : List (Nat → Int32)).getD i (fun _ => 0)), (fun i => ([] : List (Nat → Int64)).getD i (fun _ => 0)), (fun i => ([] : List (Int64)).getD i 0)) (show u_12.2.1 0 ≤ 14 by omega) (x_B hP hD) dX11_drawn_51
      · skip
        have c_10 : ¬ (0 ≤ p1.toInt64 ∧ p1.toInt64 ≤ 2) := bo_0.mp c_10
        refine lv_bipush (v := (-2)) hx hb dX11_drawn_26 (by decide) ?_
        exact x_reti S hr hlk hQ hS ((fun i => ([mlawNow, mwetSet, moverAll, mones, mtwos, mgone] : List (Int32)).getD i 0), (fun i => ([mmoreMany] : List (Nat)).getD i 0), (fun i => ([fhardNow, fonesAt, ftwosAt, fgoneAt, frowOf, fplaceOf, ffirstOf] : List (Nat → Int32)).getD i (fun _ => 0)), (fun i => ([] : List (Nat → Int64)).getD i (fun _ => 0)), (fun i => ([] : List (Int64)).getD i 0)) (show mmoreMany ≤ 14 by omega) (x_B hP hD) dX11_drawn_28

set_option maxHeartbeats 4000000 in
set_option maxRecDepth 100000 in
theorem ctX11_luck (l : Launch) (D : va_G) (k : Nat → ClassId) (z : Nat → Nat) (n : Nat → Nat) (mthrown : Int32) (mtaped : Nat) (msize : Nat) (mat : Nat) (mfrom : Nat) (mtoken : Int32) (mvalue : Int32) (mfaultKind : Int32) (mfaultPlace : Int32) (mmoreMany : Nat) (mlawNow : Int32) (mwetSet : Int32) (moverAll : Int32) (mones : Int32) (mtwos : Int32) (mgone : Int32) (mroundNow : Int32) (msampleFor : Int64) (msampleAll : Int64) (maskWorst : Int32) (moftenAll : Int64) (moftenView : Int64) (moftenOnes : Int64) (fworld : Nat → Int32) (frowOf : Nat → Int32) (fplaceOf : Nat → Int32) (ffirstOf : Nat → Int32) (fhardNow : Nat → Int32) (fmoreHead : Nat → Int32) (fmoreView : Nat → Int32) (fonesAt : Nat → Int32) (ftwosAt : Nat → Int32) (fgoneAt : Nat → Int32) (p0 : Int32) (p1 : Int32) (p2 : Int32) (p3 : Int32) (hmtaped : mtaped ≤ 600) (hmsize : msize ≤ 600) (hmat : mat ≤ 600) (hmfrom : mfrom ≤ 600) (hmmoreMany : mmoreMany ≤ 14) (hkworld : okW fworld) : MU l yX11_luck cX11_luck 7 (some .int) 8 D k z [.ref (n 0), .int p0, .int p1, .int p2, .int p3] [((n 0), .inr (11, [.int mthrown, .ref (n 1), .ref (n 2), .ref (n 3), .ref (n 4), .int (nI mtaped), .ref (n 5), .int (nI msize), .int (nI mat), .int (nI mfrom), .int mtoken, .int mvalue, .int mfaultKind, .int mfaultPlace, .ref (n 6), .ref (n 7), .ref (n 8), .ref (n 9), .ref (n 10), .ref (n 11), .ref (n 12), .int (nI mmoreMany), .int mlawNow, .int mwetSet, .int moverAll, .ref (n 13), .ref (n 14), .ref (n 15), .int mones, .int mtwos, .int mgone, .ref (n 16), .ref (n 17), .int mroundNow, .ref (n 18), .long msampleFor, .long msampleAll, .ref (n 19), .int maskWorst, .long moftenAll, .long moftenView, .long moftenOnes, .ref (n 20), .ref (n 21), .ref (n 22), .ref (n 23)])), ((n 1), .inl (k 0, 99, .inl fworld)), ((n 7), .inl (k 0, 12, .inl frowOf)), ((n 8), .inl (k 0, 12, .inl fplaceOf)), ((n 9), .inl (k 0, 4, .inl ffirstOf)), ((n 10), .inl (k 0, 12, .inl fhardNow)), ((n 11), .inl (k 0, 14, .inl fmoreHead)), ((n 12), .inl (k 0, 14, .inl fmoreView)), ((n 13), .inl (k 0, 17, .inl fonesAt)), ((n 14), .inl (k 0, 17, .inl ftwosAt)), ((n 15), .inl (k 0, 17, .inl fgoneAt))] 0 0 (Ui D (fun (r : Int32) (u : (Nat → Int32) × (Nat → Nat) × (Nat → Nat → Int32) × (Nat → Nat → Int64) × (Nat → Int64)) => (u.2.1 0 ≤ 14)) (fun u : (Nat → Int32) × (Nat → Nat) × (Nat → Nat → Int32) × (Nat → Nat → Int64) × (Nat → Int64) => [((n 0), .inr (11, [.int mthrown, .ref (n 1), .ref (n 2), .ref (n 3), .ref (n 4), .int (nI mtaped), .ref (n 5), .int (nI msize), .int (nI mat), .int (nI mfrom), .int mtoken, .int mvalue, .int mfaultKind, .int mfaultPlace, .ref (n 6), .ref (n 7), .ref (n 8), .ref (n 9), .ref (n 10), .ref (n 11), .ref (n 12), .int (nI (u.2.1 0)), .int (u.1 0), .int (u.1 1), .int (u.1 2), .ref (n 13), .ref (n 14), .ref (n 15), .int (u.1 3), .int (u.1 4), .int (u.1 5), .ref (n 16), .ref (n 17), .int mroundNow, .ref (n 18), .long msampleFor, .long msampleAll, .ref (n 19), .int maskWorst, .long moftenAll, .long moftenView, .long moftenOnes, .ref (n 20), .ref (n 21), .ref (n 22), .ref (n 23)])), ((n 1), .inl (k 0, 99, .inl fworld)), ((n 7), .inl (k 0, 12, .inl (u.2.2.1 4))), ((n 8), .inl (k 0, 12, .inl (u.2.2.1 5))), ((n 9), .inl (k 0, 4, .inl (u.2.2.1 6))), ((n 10), .inl (k 0, 12, .inl (u.2.2.1 0))), ((n 11), .inl (k 0, 14, .inl fmoreHead)), ((n 12), .inl (k 0, 14, .inl fmoreView)), ((n 13), .inl (k 0, 17, .inl (u.2.2.1 1))), ((n 14), .inl (k 0, 17, .inl (u.2.2.1 2))), ((n 15), .inl (k 0, 17, .inl (u.2.2.1 3)))])) := by
  refine MU.of (by decide) (Nat.le_of_ble_eq_true rfl) ?_
  intro p e s m below meth c ls A args Q S hr hlk hnm hQ hK hP hD hZ hA hS hl
  have hx := S.1
  have hb := S.2.1
  have hl : lv_has ls 7 [(0, .ref (n 0)), (1, .int p0), (2, .int p1), (3, .int p2), (4, .int p3)] := hl
  have hbfworld := okW_bd hkworld
  refine lv_iload_n hx hb dX11_luck_0 rfl (lv_at hl 1 rfl) ?_
  refine x_roSi (As := [.int p0]) S hK hP hD hZ (fun _ h => h) hA hS hA hl mwX11_isSeed lkX11_498 (ctX11_isSeed l D k z p0 ) [] rfl (by decide) rfl rfl ⟨Nat.le_of_ble_eq_true rfl, Nat.le_of_ble_eq_true rfl, Nat.le_of_ble_eq_true rfl⟩ dX11_luck_1 ⟨Nat.le_of_ble_eq_true rfl, Nat.le_of_ble_eq_true rfl⟩ (fun r_1 H locs hr_1 hP hS => ?_)
  obtain rfl := hr_1
  refine lv_if_eq (tgt := 37) hx hb dX11_luck_4 (by decide) (fun c_3 => ?_) (fun c_3 => ?_)
  · skip
    have c_3 : ¬ (0 ≤ p0.toInt64 ∧ p0.toInt64 ≤ 2000000000) := bo_0.mp c_3
    refine lv_bipush (v := (-2)) hx hb dX11_luck_37 (by decide) ?_
    exact x_reti S hr hlk hQ hS ((fun i => ([mlawNow, mwetSet, moverAll, mones, mtwos, mgone] : List (Int32)).getD i 0), (fun i => ([mmoreMany] : List (Nat)).getD i 0), (fun i => ([fhardNow, fonesAt, ftwosAt, fgoneAt, frowOf, fplaceOf, ffirstOf] : List (Nat → Int32)).getD i (fun _ => 0)), (fun i => ([] : List (Nat → Int64)).getD i (fun _ => 0)), (fun i => ([] : List (Int64)).getD i 0)) (show mmoreMany ≤ 14 by omega) (x_B hP hD) dX11_luck_39
  · skip
    have c_3 : 0 ≤ p0.toInt64 ∧ p0.toInt64 ≤ 2000000000 := bo_1.mp c_3
    refine lv_iload_n hx hb dX11_luck_7 rfl (lv_at hl 2 rfl) ?_
    refine lv_i2l (v := p1.toInt64) hx hb dX11_luck_8 rfl ?_
    refine lv_lconst (v := 1) hx hb dX11_luck_9 (by decide) ?_
    refine lv_ldc2 hx hb S.2.2.2.1 (S.2.2.2.2 _ lkX11_505) dX11_luck_10 ?_
    refine x_roSi (As := [.long p1.toInt64, .long 1, .long 20]) S hK hP hD hZ (fun _ h => h) hA hS hA hl mwX11_in lkX11_91 (ctX11_in l D k z p1.toInt64 1 20 ) [] rfl (by decide) rfl rfl ⟨Nat.le_of_ble_eq_true rfl, Nat.le_of_ble_eq_true rfl, Nat.le_of_ble_eq_true rfl⟩ dX11_luck_13 ⟨Nat.le_of_ble_eq_true rfl, Nat.le_of_ble_eq_true rfl⟩ (fun r_4 H locs hr_4 hP hS => ?_)
    obtain rfl := hr_4
    refine lv_if_eq (tgt := 37) hx hb dX11_luck_16 (by decide) (fun c_6 => ?_) (fun c_6 => ?_)
    · skip
      have c_6 : ¬ (1 ≤ p1.toInt64 ∧ p1.toInt64 ≤ 20) := bo_0.mp c_6
      refine lv_bipush (v := (-2)) hx hb dX11_luck_37 (by decide) ?_
      exact x_reti S hr hlk hQ hS ((fun i => ([mlawNow, mwetSet, moverAll, mones, mtwos, mgone] : List (Int32)).getD i 0), (fun i => ([mmoreMany] : List (Nat)).getD i 0), (fun i => ([fhardNow, fonesAt, ftwosAt, fgoneAt, frowOf, fplaceOf, ffirstOf] : List (Nat → Int32)).getD i (fun _ => 0)), (fun i => ([] : List (Nat → Int64)).getD i (fun _ => 0)), (fun i => ([] : List (Int64)).getD i 0)) (show mmoreMany ≤ 14 by omega) (x_B hP hD) dX11_luck_39
    · skip
      have c_6 : 1 ≤ p1.toInt64 ∧ p1.toInt64 ≤ 20 := bo_1.mp c_6
      refine lv_aload_n hx hb dX11_luck_19 rfl (lv_at hl 0 rfl) ?_
      refine lv_iload_n hx hb dX11_luck_20 rfl (lv_at hl 3 rfl) ?_
      refine lv_i2l (v := p2.toInt64) hx hb dX11_luck_21 rfl ?_
      refine x_roVi (As := [.long p2.toInt64]) S hK hP hD hZ (fun _ h => h) hA hS hA hl mwX11_isHead lkX11_237 (ctX11_isHead_i l D k z n mthrown mtaped msize mat mfrom mtoken mvalue mfaultKind mfaultPlace mmoreMany mlawNow mwetSet moverAll mones mtwos mgone mroundNow msampleFor msampleAll maskWorst moftenAll moftenView moftenOnes fworld p2 (by omega) (by omega) (by omega) (by omega) (by omega) (hkworld)) [0, 1] rfl (by decide) rfl rfl rfl rfl rfl ⟨Nat.le_of_ble_eq_true rfl, Nat.le_of_ble_eq_true rfl, Nat.le_of_ble_eq_true rfl⟩ dX11_luck_22 ⟨Nat.le_of_ble_eq_true rfl, Nat.le_of_ble_eq_true rfl⟩ (fun r_7 H locs hr_7 hP hS => ?_)
      obtain ⟨hp_9, hz_10⟩ := hr_7
      refine lv_if_eq (tgt := 37) hx hb dX11_luck_25 (by decide) (fun c_11 => ?_) (fun c_11 => ?_)
      · skip
        refine lv_bipush (v := (-2)) hx hb dX11_luck_37 (by decide) ?_
        exact x_reti S hr hlk hQ hS ((fun i => ([mlawNow, mwetSet, moverAll, mones, mtwos, mgone] : List (Int32)).getD i 0), (fun i => ([mmoreMany] : List (Nat)).getD i 0), (fun i => ([fhardNow, fonesAt, ftwosAt, fgoneAt, frowOf, fplaceOf, ffirstOf] : List (Nat → Int32)).getD i (fun _ => 0)), (fun i => ([] : List (Nat → Int64)).getD i (fun _ => 0)), (fun i => ([] : List (Int64)).getD i 0)) (show mmoreMany ≤ 14 by omega) (x_B hP hD) dX11_luck_39
      · skip
        obtain ⟨n_12, rfl, hn_12⟩ := hp_9.resolve_left c_11
        refine lv_iload hx hb dX11_luck_28 (lv_at hl 4 rfl) ?_
        refine lv_i2l (v := p3.toInt64) hx hb dX11_luck_30 rfl ?_
        refine x_roSi (As := [.long p3.toInt64]) S hK hP hD hZ (fun _ h => h) hA hS hA hl mwX11_isAny lkX11_336 (ctX11_isAny l D k z p3.toInt64 ) [] rfl (by decide) rfl rfl ⟨Nat.le_of_ble_eq_true rfl, Nat.le_of_ble_eq_true rfl, Nat.le_of_ble_eq_true rfl⟩ dX11_luck_31 ⟨Nat.le_of_ble_eq_true rfl, Nat.le_of_ble_eq_true rfl⟩ (fun r_13 H locs hr_13 hP hS => ?_)
        obtain rfl := hr_13
        refine lv_if_ne (tgt := 40) hx hb dX11_luck_34 (by decide) (fun c_15 => ?_) (fun c_15 => ?_)
        · skip
          have c_15 : 0 ≤ p3.toInt64 ∧ p3.toInt64 ≤ 2 := bo_1.mp c_15
          obtain ⟨kn, hkn, ekn⟩ : ∃ kn : Nat, kn < 20 + 1 ∧ p1 = nI kn := nat64g c_6 (by decide) (b := 20) (by decide)
          have hl : lv_has ls 7 [(0, .ref (n 0)), (1, .int p0), (2, .int (nI kn)), (3, .int (nI n_12)), (4, .int p3)] := by rw [ekn] at hl; exact hl
          refine lv_iconst (v := 0) hx hb dX11_luck_40 (by decide) ?_
          refine lv_istore (lv' := [(5, .int 0), (0, .ref (n 0)), (1, .int p0), (2, .int (nI kn)), (3, .int (nI n_12)), (4, .int p3)]) hx hb dX11_luck_41 hl (by decide) rfl (fun ls hl => ?_)
          refine lv_iconst (v := 0) hx hb dX11_luck_43 (by decide) ?_
          refine lv_istore (lv' := [(6, .int 0), (5, .int 0), (0, .ref (n 0)), (1, .int p0), (2, .int (nI kn)), (3, .int (nI n_12)), (4, .int p3)]) hx hb dX11_luck_44 hl (by decide) rfl (fun ls hl => ?_)
          have lp_72 : ∀ (nn j_56 : Nat) (m_57 : Nat) (x_58 : Int32) (x_59 : Int32) (x_60 : Int32) (x_61 : Int32) (x_62 : Int32) (x_63 : Int32) (g_64 : Nat → Int32) (g_65 : Nat → Int32) (g_66 : Nat → Int32) (g_67 : Nat → Int32) (g_68 : Nat → Int32) (g_69 : Nat → Int32) (g_70 : Nat → Int32) (x_71 : Int32) (H : Heap) (locs : List Loc) (ls : Array Slot), j_56 ≤ kn → kn - j_56 < nn → m_57 ≤ 14 → va_P D vwCl [((n 0), .inr (11, [.int mthrown, .ref (n 1), .ref (n 2), .ref (n 3), .ref (n 4), .int (nI mtaped), .ref (n 5), .int (nI msize), .int (nI mat), .int (nI mfrom), .int mtoken, .int mvalue, .int mfaultKind, .int mfaultPlace, .ref (n 6), .ref (n 7), .ref (n 8), .ref (n 9), .ref (n 10), .ref (n 11), .ref (n 12), .int (nI m_57), .int x_58, .int x_59, .int x_60, .ref (n 13), .ref (n 14), .ref (n 15), .int x_61, .int x_62, .int x_63, .ref (n 16), .ref (n 17), .int mroundNow, .ref (n 18), .long msampleFor, .long msampleAll, .ref (n 19), .int maskWorst, .long moftenAll, .long moftenView, .long moftenOnes, .ref (n 20), .ref (n 21), .ref (n 22), .ref (n 23)])), ((n 1), .inl (k 0, 99, .inl fworld)), ((n 7), .inl (k 0, 12, .inl g_64)), ((n 8), .inl (k 0, 12, .inl g_65)), ((n 9), .inl (k 0, 4, .inl g_66)), ((n 10), .inl (k 0, 12, .inl g_67)), ((n 11), .inl (k 0, 14, .inl fmoreHead)), ((n 12), .inl (k 0, 14, .inl fmoreView)), ((n 13), .inl (k 0, 17, .inl g_68)), ((n 14), .inl (k 0, 17, .inl g_69)), ((n 15), .inl (k 0, 17, .inl g_70))] H → va_D A [((n 0), .inr (11, [.int mthrown, .ref (n 1), .ref (n 2), .ref (n 3), .ref (n 4), .int (nI mtaped), .ref (n 5), .int (nI msize), .int (nI mat), .int (nI mfrom), .int mtoken, .int mvalue, .int mfaultKind, .int mfaultPlace, .ref (n 6), .ref (n 7), .ref (n 8), .ref (n 9), .ref (n 10), .ref (n 11), .ref (n 12), .int (nI m_57), .int x_58, .int x_59, .int x_60, .ref (n 13), .ref (n 14), .ref (n 15), .int x_61, .int x_62, .int x_63, .ref (n 16), .ref (n 17), .int mroundNow, .ref (n 18), .long msampleFor, .long msampleAll, .ref (n 19), .int maskWorst, .long moftenAll, .long moftenView, .long moftenOnes, .ref (n 20), .ref (n 21), .ref (n 22), .ref (n 23)])), ((n 1), .inl (k 0, 99, .inl fworld)), ((n 7), .inl (k 0, 12, .inl g_64)), ((n 8), .inl (k 0, 12, .inl g_65)), ((n 9), .inl (k 0, 4, .inl g_66)), ((n 10), .inl (k 0, 12, .inl g_67)), ((n 11), .inl (k 0, 14, .inl fmoreHead)), ((n 12), .inl (k 0, 14, .inl fmoreView)), ((n 13), .inl (k 0, 17, .inl g_68)), ((n 14), .inl (k 0, 17, .inl g_69)), ((n 15), .inl (k 0, 17, .inl g_70))] → va_S A s.heap H locs → lv_has ls 7 [(6, .int (nI j_56)), (5, .int x_71), (0, .ref (n 0)), (1, .int p0), (2, .int (nI kn)), (3, .int (nI n_12)), (4, .int p3)] → W p l e (Rm 8 0 0) s m args below meth c H locs 0 0 Q (F0 m 46 ls []) := by
            intro nn
            induction nn with
            | zero => intro j_56 m_57 x_58 x_59 x_60 x_61 x_62 x_63 g_64 g_65 g_66 g_67 g_68 g_69 g_70 x_71 H locs ls hjj_56 hnj_56 hbm_57; exact absurd hnj_56 (by omega)
            | succ nn ihj_56 =>
              intro j_56 m_57 x_58 x_59 x_60 x_61 x_62 x_63 g_64 g_65 g_66 g_67 g_68 g_69 g_70 x_71 H locs ls hjj_56 hnj_56 hbm_57 hP hD hS hl
              refine lv_iload hx hb dX11_luck_46 (lv_at hl 0 rfl) ?_
              refine lv_iload_n hx hb dX11_luck_48 rfl (lv_at hl 4 rfl) ?_
              refine lv_icmp_ge (tgt := 92) hx hb dX11_luck_49 (by decide) (fun c_73 => ?_) (fun c_73 => ?_)
              · skip
                have c_73 : kn ≤ j_56 := (ni_le rfl rfl (by omega) (by omega)).mp c_73
                refine lv_iload hx hb dX11_luck_92 (lv_at hl 1 rfl) ?_
                exact x_reti S hr hlk hQ hS ((fun i => ([x_58, x_59, x_60, x_61, x_62, x_63] : List (Int32)).getD i 0), (fun i => ([m_57] : List (Nat)).getD i 0), (fun i => ([g_67, g_68, g_69, g_70, g_64, g_65, g_66] : List (Nat → Int32)).getD i (fun _ => 0)), (fun i => ([] : List (Nat → Int64)).getD i (fun _ => 0)), (fun i => ([] : List (Int64)).getD i 0)) (show m_57 ≤ 14 by omega) (x_B hP hD) dX11_luck_94
              · skip
                have c_73 : ¬ kn ≤ j_56 := fun q => c_73 ((ni_le rfl rfl (by omega) (by omega)).mpr q)
                refine lv_aload_n hx hb dX11_luck_52 rfl (lv_at hl 2 rfl) ?_
                refine lv_iload_n hx hb dX11_luck_53 rfl (lv_at hl 3 rfl) ?_
                refine lv_i2l (v := p0.toInt64) hx hb dX11_luck_54 rfl ?_
                refine lv_iload hx hb dX11_luck_55 (lv_at hl 0 rfl) ?_
                refine lv_i2l (v := (nI j_56).toInt64) hx hb dX11_luck_57 rfl ?_
                refine lv_ladd hx hb dX11_luck_58 ?_
                refine lv_topl (fun v_74 ev_74 => ?_)
                refine x_muVv (wr := []) (As := [.long v_74]) S hK hP hD hZ hS hA hl mwX11_goDrawn lkX11_501 (ctX11_goDrawn l D k z n mthrown mtaped msize mat mfrom mtoken mvalue mfaultKind mfaultPlace m_57 x_58 x_59 x_60 x_61 x_62 x_63 mroundNow msampleFor msampleAll maskWorst moftenAll moftenView moftenOnes fworld g_64 g_65 g_66 g_67 fmoreHead fmoreView g_68 g_69 g_70 v_74 (by omega) (by omega) (by omega) (by omega) (by omega) (hkworld)) [0, 1, 2, 3, 4, 5, 6, 7, 8, 9, 10] [] rfl rfl (by decide) (by decide) (by decide) rfl rfl rfl rfl rfl ⟨Nat.le_of_ble_eq_true rfl, Nat.le_of_ble_eq_true rfl, Nat.le_of_ble_eq_true rfl⟩ dX11_luck_59 ⟨Nat.le_of_ble_eq_true rfl, Nat.le_of_ble_eq_true rfl⟩ (fun u_76 H locs hr_75 hP hD hS => ?_)
                have hP : va_P D vwCl [((n 0), .inr (11, [.int mthrown, .ref (n 1), .ref (n 2), .ref (n 3), .ref (n 4), .int (nI mtaped), .ref (n 5), .int (nI msize), .int (nI mat), .int (nI mfrom), .int mtoken, .int mvalue, .int mfaultKind, .int mfaultPlace, .ref (n 6), .ref (n 7), .ref (n 8), .ref (n 9), .ref (n 10), .ref (n 11), .ref (n 12), .int (nI (u_76.2.1 0)), .int (u_76.1 0), .int (u_76.1 1), .int (u_76.1 2), .ref (n 13), .ref (n 14), .ref (n 15), .int (u_76.1 3), .int (u_76.1 4), .int (u_76.1 5), .ref (n 16), .ref (n 17), .int mroundNow, .ref (n 18), .long msampleFor, .long msampleAll, .ref (n 19), .int maskWorst, .long moftenAll, .long moftenView, .long moftenOnes, .ref (n 20), .ref (n 21), .ref (n 22), .ref (n 23)])), ((n 1), .inl (k 0, 99, .inl fworld)), ((n 7), .inl (k 0, 12, .inl (u_76.2.2.1 4))), ((n 8), .inl (k 0, 12, .inl (u_76.2.2.1 5))), ((n 9), .inl (k 0, 4, .inl (u_76.2.2.1 6))), ((n 10), .inl (k 0, 12, .inl (u_76.2.2.1 0))), ((n 11), .inl (k 0, 14, .inl fmoreHead)), ((n 12), .inl (k 0, 14, .inl fmoreView)), ((n 13), .inl (k 0, 17, .inl (u_76.2.2.1 1))), ((n 14), .inl (k 0, 17, .inl (u_76.2.2.1 2))), ((n 15), .inl (k 0, 17, .inl (u_76.2.2.1 3)))] H := hP.sub [0, 1, 2, 3, 4, 5, 6, 7, 8, 9, 10] rfl
                have hD : va_D A [((n 0), .inr (11, [.int mthrown, .ref (n 1), .ref (n 2), .ref (n 3), .ref (n 4), .int (nI mtaped), .ref (n 5), .int (nI msize), .int (nI mat), .int (nI mfrom), .int mtoken, .int mvalue, .int mfaultKind, .int mfaultPlace, .ref (n 6), .ref (n 7), .ref (n 8), .ref (n 9), .ref (n 10), .ref (n 11), .ref (n 12), .int (nI (u_76.2.1 0)), .int (u_76.1 0), .int (u_76.1 1), .int (u_76.1 2), .ref (n 13), .ref (n 14), .ref (n 15), .int (u_76.1 3), .int (u_76.1 4), .int (u_76.1 5), .ref (n 16), .ref (n 17), .int mroundNow, .ref (n 18), .long msampleFor, .long msampleAll, .ref (n 19), .int maskWorst, .long moftenAll, .long moftenView, .long moftenOnes, .ref (n 20), .ref (n 21), .ref (n 22), .ref (n 23)])), ((n 1), .inl (k 0, 99, .inl fworld)), ((n 7), .inl (k 0, 12, .inl (u_76.2.2.1 4))), ((n 8), .inl (k 0, 12, .inl (u_76.2.2.1 5))), ((n 9), .inl (k 0, 4, .inl (u_76.2.2.1 6))), ((n 10), .inl (k 0, 12, .inl (u_76.2.2.1 0))), ((n 11), .inl (k 0, 14, .inl fmoreHead)), ((n 12), .inl (k 0, 14, .inl fmoreView)), ((n 13), .inl (k 0, 17, .inl (u_76.2.2.1 1))), ((n 14), .inl (k 0, 17, .inl (u_76.2.2.1 2))), ((n 15), .inl (k 0, 17, .inl (u_76.2.2.1 3)))] := hD.sub [0, 1, 2, 3, 4, 5, 6, 7, 8, 9, 10] (by decide) rfl
                have hg_77 := hr_75
                refine lv_iload hx hb dX11_luck_62 (lv_at hl 1 rfl) ?_
                refine lv_aload_n hx hb dX11_luck_64 rfl (lv_at hl 2 rfl) ?_
                refine lv_iload_n hx hb dX11_luck_65 rfl (lv_at hl 5 rfl) ?_
                refine lv_aload_n hx hb dX11_luck_66 rfl (lv_at hl 2 rfl) ?_
                refine x_roVi (As := []) S hK hP hD hZ (fun _ h => h) hA hS hA hl mwX11_hours lkX11_103 (ctX11_hours l D k z n mthrown mtaped msize mat mfrom mtoken mvalue mfaultKind mfaultPlace (u_76.2.1 0) (u_76.1 0) (u_76.1 1) (u_76.1 2) (u_76.1 3) (u_76.1 4) (u_76.1 5) mroundNow msampleFor msampleAll maskWorst moftenAll moftenView moftenOnes fworld (by omega) (by omega) (by omega) (by omega) (by omega) (hkworld)) [0, 1] rfl (by decide) rfl rfl rfl rfl rfl ⟨Nat.le_of_ble_eq_true rfl, Nat.le_of_ble_eq_true rfl, Nat.le_of_ble_eq_true rfl⟩ dX11_luck_67 ⟨Nat.le_of_ble_eq_true rfl, Nat.le_of_ble_eq_true rfl⟩ (fun r_78 H locs hr_78 hP hS => ?_)
                obtain rfl := hr_78
                refine x_roVi (As := [.int (nI n_12), .int (nI (wn fworld 0))]) S hK hP hD hZ (fun _ h => h) hA hS hA hl mwX11_viewOf lkX11_333 (ctX11_viewOf l D k z n mthrown mtaped msize mat mfrom mtoken mvalue mfaultKind mfaultPlace (u_76.2.1 0) (u_76.1 0) (u_76.1 1) (u_76.1 2) (u_76.1 3) (u_76.1 4) (u_76.1 5) mroundNow msampleFor msampleAll maskWorst moftenAll moftenView moftenOnes (u_76.2.2.1 1) (u_76.2.2.1 2) (nI n_12) (wn fworld 0) (by omega) (by omega) (by omega) (by omega) (by omega) (by omega)) [0, 8, 9] rfl (by decide) rfl rfl rfl rfl rfl ⟨Nat.le_of_ble_eq_true rfl, Nat.le_of_ble_eq_true rfl, Nat.le_of_ble_eq_true rfl⟩ dX11_luck_70 ⟨Nat.le_of_ble_eq_true rfl, Nat.le_of_ble_eq_true rfl⟩ (fun r_80 H locs hr_80 hP hS => ?_)
                refine lv_iload hx hb dX11_luck_73 (lv_at hl 6 rfl) ?_
                refine lv_icmp_ne (tgt := 82) hx hb dX11_luck_75 (by decide) (fun c_82 => ?_) (fun c_82 => ?_)
                · skip
                  refine lv_iconst (v := 0) hx hb dX11_luck_82 (by decide) ?_
                  refine lv_iadd hx hb dX11_luck_83 ?_
                  refine lv_topi (fun v_83 ev_83 => ?_)
                  refine lv_istore (lv' := [(5, .int v_83), (6, .int (nI j_56)), (0, .ref (n 0)), (1, .int p0), (2, .int (nI kn)), (3, .int (nI n_12)), (4, .int p3)]) hx hb dX11_luck_84 hl (by decide) rfl (fun ls hl => ?_)
                  refine lv_iinc (v := (nI (j_56 + 1))) (lv' := [(6, .int (nI (j_56 + 1))), (5, .int v_83), (0, .ref (n 0)), (1, .int p0), (2, .int (nI kn)), (3, .int (nI n_12)), (4, .int p3)]) hx hb dX11_luck_86 hl (k := 1) rfl (ni_inc _) (by decide) rfl (fun ls hl => ?_)
                  refine lv_goto (tgt := 46) hx hb dX11_luck_89 (by decide) ?_
                  exact ihj_56 (j_56 + 1) (u_76.2.1 0) (u_76.1 0) (u_76.1 1) (u_76.1 2) (u_76.1 3) (u_76.1 4) (u_76.1 5) (u_76.2.2.1 4) (u_76.2.2.1 5) (u_76.2.2.1 6) (u_76.2.2.1 0) (u_76.2.2.1 1) (u_76.2.2.1 2) (u_76.2.2.1 3) v_83 _ _ _ (by omega) (by omega) (by omega) hP hD hS (lv_sub hl [0, 1, 2, 3, 4, 5, 6] rfl)
                · skip
                  refine lv_iconst (v := 1) hx hb dX11_luck_78 (by decide) ?_
                  refine lv_goto (tgt := 83) hx hb dX11_luck_79 (by decide) ?_
                  refine lv_iadd hx hb dX11_luck_83 ?_
                  refine lv_topi (fun v_84 ev_84 => ?_)
                  refine lv_istore (lv' := [(5, .int v_84), (6, .int (nI j_56)), (0, .ref (n 0)), (1, .int p0), (2, .int (nI kn)), (3, .int (nI n_12)), (4, .int p3)]) hx hb dX11_luck_84 hl (by decide) rfl (fun ls hl => ?_)
                  refine lv_iinc (v := (nI (j_56 + 1))) (lv' := [(6, .int (nI (j_56 + 1))), (5, .int v_84), (0, .ref (n 0)), (1, .int p0), (2, .int (nI kn)), (3, .int (nI n_12)), (4, .int p3)]) hx hb dX11_luck_86 hl (k := 1) rfl (ni_inc _) (by decide) rfl (fun ls hl => ?_)
                  refine lv_goto (tgt := 46) hx hb dX11_luck_89 (by decide) ?_
                  exact ihj_56 (j_56 + 1) (u_76.2.1 0) (u_76.1 0) (u_76.1 1) (u_76.1 2) (u_76.1 3) (u_76.1 4) (u_76.1 5) (u_76.2.2.1 4) (u_76.2.2.1 5) (u_76.2.2.1 6) (u_76.2.2.1 0) (u_76.2.2.1 1) (u_76.2.2.1 2) (u_76.2.2.1 3) v_84 _ _ _ (by omega) (by omega) (by omega) hP hD hS (lv_sub hl [0, 1, 2, 3, 4, 5, 6] rfl)
          exact lp_72 (kn + 1) 0 mmoreMany mlawNow mwetSet moverAll mones mtwos mgone frowOf fplaceOf ffirstOf fhardNow fonesAt ftwosAt fgoneAt 0 _ _ _ (by omega) (by omega) (by omega) hP hD hS (lv_sub hl [0, 1, 2, 3, 4, 5, 6] rfl)
        · skip
          have c_15 : ¬ (0 ≤ p3.toInt64 ∧ p3.toInt64 ≤ 2) := bo_0.mp c_15
          refine lv_bipush (v := (-2)) hx hb dX11_luck_37 (by decide) ?_
          exact x_reti S hr hlk hQ hS ((fun i => ([mlawNow, mwetSet, moverAll, mones, mtwos, mgone] : List (Int32)).getD i 0), (fun i => ([mmoreMany] : List (Nat)).getD i 0), (fun i => ([fhardNow, fonesAt, ftwosAt, fgoneAt, frowOf, fplaceOf, ffirstOf] : List (Nat → Int32)).getD i (fun _ => 0)), (fun i => ([] : List (Nat → Int64)).getD i (fun _ => 0)), (fun i => ([] : List (Int64)).getD i 0)) (show mmoreMany ≤ 14 by omega) (x_B hP hD) dX11_luck_39

set_option maxHeartbeats 4000000 in
set_option maxRecDepth 100000 in
theorem ctX11_rate (l : Launch) (D : va_G) (k : Nat → ClassId) (z : Nat → Nat) (n : Nat → Nat) (mthrown : Int32) (mtaped : Nat) (msize : Nat) (mat : Nat) (mfrom : Nat) (mtoken : Int32) (mvalue : Int32) (mfaultKind : Int32) (mfaultPlace : Int32) (mmoreMany : Nat) (mlawNow : Int32) (mwetSet : Int32) (moverAll : Int32) (mones : Int32) (mtwos : Int32) (mgone : Int32) (mroundNow : Int32) (msampleFor : Int64) (msampleAll : Int64) (maskWorst : Int32) (moftenAll : Int64) (moftenView : Int64) (moftenOnes : Int64) (fworld : Nat → Int32) (p0 : Int32) (p1 : Int32) (hmtaped : mtaped ≤ 600) (hmsize : msize ≤ 600) (hmat : mat ≤ 600) (hmfrom : mfrom ≤ 600) (hmmoreMany : mmoreMany ≤ 14) (hkworld : okW fworld) : MU l yX11_rate cX11_rate 4 (some .int) 2 D k z [.ref (n 0), .int p0, .int p1] [((n 0), .inr (11, [.int mthrown, .ref (n 1), .ref (n 2), .ref (n 3), .ref (n 4), .int (nI mtaped), .ref (n 5), .int (nI msize), .int (nI mat), .int (nI mfrom), .int mtoken, .int mvalue, .int mfaultKind, .int mfaultPlace, .ref (n 6), .ref (n 7), .ref (n 8), .ref (n 9), .ref (n 10), .ref (n 11), .ref (n 12), .int (nI mmoreMany), .int mlawNow, .int mwetSet, .int moverAll, .ref (n 13), .ref (n 14), .ref (n 15), .int mones, .int mtwos, .int mgone, .ref (n 16), .ref (n 17), .int mroundNow, .ref (n 18), .long msampleFor, .long msampleAll, .ref (n 19), .int maskWorst, .long moftenAll, .long moftenView, .long moftenOnes, .ref (n 20), .ref (n 21), .ref (n 22), .ref (n 23)])), ((n 1), .inl (k 0, 99, .inl fworld))] 0 0 (Ui D (fun (r : Int32) (u : (Nat → Int32) × (Nat → Nat) × (Nat → Nat → Int32) × (Nat → Nat → Int64) × (Nat → Int64)) => (okW (u.2.2.1 0))) (fun u : (Nat → Int32) × (Nat → Nat) × (Nat → Nat → Int32) × (Nat → Nat → Int64) × (Nat → Int64) => [((n 0), .inr (11, [.int mthrown, .ref (n 1), .ref (n 2), .ref (n 3), .ref (n 4), .int (nI mtaped), .ref (n 5), .int (nI msize), .int (nI mat), .int (nI mfrom), .int mtoken, .int mvalue, .int mfaultKind, .int mfaultPlace, .ref (n 6), .ref (n 7), .ref (n 8), .ref (n 9), .ref (n 10), .ref (n 11), .ref (n 12), .int (nI mmoreMany), .int mlawNow, .int mwetSet, .int moverAll, .ref (n 13), .ref (n 14), .ref (n 15), .int mones, .int mtwos, .int mgone, .ref (n 16), .ref (n 17), .int mroundNow, .ref (n 18), .long msampleFor, .long msampleAll, .ref (n 19), .int maskWorst, .long moftenAll, .long moftenView, .long moftenOnes, .ref (n 20), .ref (n 21), .ref (n 22), .ref (n 23)])), ((n 1), .inl (k 0, 99, .inl (u.2.2.1 0)))])) := by
  refine MU.of (by decide) (Nat.le_of_ble_eq_true rfl) ?_
  intro p e s m below meth c ls A args Q S hr hlk hnm hQ hK hP hD hZ hA hS hl
  have hx := S.1
  have hb := S.2.1
  have hl : lv_has ls 4 [(0, .ref (n 0)), (1, .int p0), (2, .int p1)] := hl
  have hbfworld := okW_bd hkworld
  refine lv_aload_n hx hb dX11_rate_0 rfl (lv_at hl 0 rfl) ?_
  refine lv_iload_n hx hb dX11_rate_1 rfl (lv_at hl 1 rfl) ?_
  refine lv_i2l (v := p0.toInt64) hx hb dX11_rate_2 rfl ?_
  refine x_roVi (As := [.long p0.toInt64]) S hK hP hD hZ (fun _ h => h) hA hS hA hl mwX11_isHead lkX11_237 (ctX11_isHead_i l D k z n mthrown mtaped msize mat mfrom mtoken mvalue mfaultKind mfaultPlace mmoreMany mlawNow mwetSet moverAll mones mtwos mgone mroundNow msampleFor msampleAll maskWorst moftenAll moftenView moftenOnes fworld p0 (by omega) (by omega) (by omega) (by omega) (by omega) (hkworld)) [0, 1] rfl (by decide) rfl rfl rfl rfl rfl ⟨Nat.le_of_ble_eq_true rfl, Nat.le_of_ble_eq_true rfl, Nat.le_of_ble_eq_true rfl⟩ dX11_rate_3 ⟨Nat.le_of_ble_eq_true rfl, Nat.le_of_ble_eq_true rfl⟩ (fun r_1 H locs hr_1 hP hS => ?_)
  obtain ⟨hp_3, hz_4⟩ := hr_1
  refine lv_if_eq (tgt := 21) hx hb dX11_rate_6 (by decide) (fun c_5 => ?_) (fun c_5 => ?_)
  · skip
    refine lv_bipush (v := (-2)) hx hb dX11_rate_21 (by decide) ?_
    exact x_reti S hr hlk hQ hS ((fun i => ([] : List (Int32)).getD i 0), (fun i => ([] : List (Nat)).getD i 0), (fun i => ([fworld] : List (Nat → Int32)).getD i (fun _ => 0)), (fun i => ([] : List (Nat → Int64)).getD i (fun _ => 0)), (fun i => ([] : List (Int64)).getD i 0)) hkworld (x_B hP hD) dX11_rate_23
  · skip
    obtain ⟨n_6, rfl, hn_6⟩ := hp_3.resolve_left c_5
    refine lv_iload_n hx hb dX11_rate_9 rfl (lv_at hl 2 rfl) ?_
    refine lv_i2l (v := p1.toInt64) hx hb dX11_rate_10 rfl ?_
    refine lv_lconst (v := 1) hx hb dX11_rate_11 (by decide) ?_
    refine lv_ldc2 hx hb S.2.2.2.1 (S.2.2.2.2 _ lkX11_507) dX11_rate_12 ?_
    refine x_roSi (As := [.long p1.toInt64, .long 1, .long 4]) S hK hP hD hZ (fun _ h => h) hA hS hA hl mwX11_in lkX11_91 (ctX11_in l D k z p1.toInt64 1 4 ) [] rfl (by decide) rfl rfl ⟨Nat.le_of_ble_eq_true rfl, Nat.le_of_ble_eq_true rfl, Nat.le_of_ble_eq_true rfl⟩ dX11_rate_15 ⟨Nat.le_of_ble_eq_true rfl, Nat.le_of_ble_eq_true rfl⟩ (fun r_7 H locs hr_7 hP hS => ?_)
    obtain rfl := hr_7
    refine lv_if_ne (tgt := 24) hx hb dX11_rate_18 (by decide) (fun c_9 => ?_) (fun c_9 => ?_)
    · skip
      have c_9 : 1 ≤ p1.toInt64 ∧ p1.toInt64 ≤ 4 := bo_1.mp c_9
      refine lv_aload_n hx hb dX11_rate_24 rfl (lv_at hl 0 rfl) ?_
      refine x_get S hK hP 0 rfl cfX11 1 lkX11_9 (by decide) rfl dX11_rate_25 ?_
      refine lv_bipush (v := 7) hx hb dX11_rate_28 (by decide) ?_
      refine x_iald S hK hP 1 rfl (vp_lit (by decide)) dX11_rate_30 ?_
      refine x_is (nI (wn fworld 7)) ((cl_at (f := fworld) (a := 7) (by decide) (by omega)).trans (okW_at hkworld (i := 7) (by omega))) ?_
      refine lv_if_le (tgt := 37) hx hb dX11_rate_31 (by decide) (fun c_10 => ?_) (fun c_10 => ?_)
      · skip
        have c_10 : wn fworld 7 ≤ 0 := (ni_le rfl (by decide) (by omega) (by omega)).mp c_10
        refine lv_aload_n hx hb dX11_rate_37 rfl (lv_at hl 0 rfl) ?_
        refine lv_iload_n hx hb dX11_rate_38 rfl (lv_at hl 1 rfl) ?_
        refine x_roVi (As := [.int (nI n_6)]) S hK hP hD hZ (fun _ h => h) hA hS hA hl mwX11_hardOf lkX11_246 (ctX11_hardOf l D k z n mthrown mtaped msize mat mfrom mtoken mvalue mfaultKind mfaultPlace mmoreMany mlawNow mwetSet moverAll mones mtwos mgone mroundNow msampleFor msampleAll maskWorst moftenAll moftenView moftenOnes fworld n_6 (by omega) (by omega) (by omega) (by omega) (by omega) (hkworld) (by omega)) [0, 1] rfl (by decide) rfl rfl rfl rfl rfl ⟨Nat.le_of_ble_eq_true rfl, Nat.le_of_ble_eq_true rfl, Nat.le_of_ble_eq_true rfl⟩ dX11_rate_39 ⟨Nat.le_of_ble_eq_true rfl, Nat.le_of_ble_eq_true rfl⟩ (fun r_11 H locs hr_11 hP hS => ?_)
        refine lv_istore_n (lv' := [(3, .int r_11), (0, .ref (n 0)), (1, .int (nI n_6)), (2, .int p1)]) hx hb dX11_rate_42 rfl hl (by decide) rfl (fun ls hl => ?_)
        refine lv_aload_n hx hb dX11_rate_43 rfl (lv_at hl 1 rfl) ?_
        refine x_get S hK hP 0 rfl cfX11 1 lkX11_9 (by decide) rfl dX11_rate_44 ?_
        refine lv_bipush (v := 13) hx hb dX11_rate_47 (by decide) ?_
        refine lv_iconst (v := 2) hx hb dX11_rate_49 (by decide) ?_
        refine lv_iload_n hx hb dX11_rate_50 rfl (lv_at hl 2 rfl) ?_
        refine lv_imul hx hb dX11_rate_51 ?_
        refine x_is (nI (2 * n_6)) (ni_mul (by decide) rfl) ?_
        refine lv_iadd hx hb dX11_rate_52 ?_
        refine x_is (nI (13 + 2 * n_6)) (ni_add (by decide) rfl) ?_
        refine lv_iload_n hx hb dX11_rate_53 rfl (lv_at hl 3 rfl) ?_
        refine x_iast (ws' := fun f_13 => [((n 0), .inr (11, [.int mthrown, .ref (n 1), .ref (n 2), .ref (n 3), .ref (n 4), .int (nI mtaped), .ref (n 5), .int (nI msize), .int (nI mat), .int (nI mfrom), .int mtoken, .int mvalue, .int mfaultKind, .int mfaultPlace, .ref (n 6), .ref (n 7), .ref (n 8), .ref (n 9), .ref (n 10), .ref (n 11), .ref (n 12), .int (nI mmoreMany), .int mlawNow, .int mwetSet, .int moverAll, .ref (n 13), .ref (n 14), .ref (n 15), .int mones, .int mtwos, .int mgone, .ref (n 16), .ref (n 17), .int mroundNow, .ref (n 18), .long msampleFor, .long msampleAll, .ref (n 19), .int maskWorst, .long moftenAll, .long moftenView, .long moftenOnes, .ref (n 20), .ref (n 21), .ref (n 22), .ref (n 23)])), ((n 1), .inl (k 0, 99, .inl f_13))]) S hK hP hD hS 1 rfl (vp_in_nI (by omega) (by decide)) (fun _ => rfl) dX11_rate_54 (fun f_13 H locs ef_13 hP hD hS => ?_)
        obtain ⟨hif_13, hbf_13⟩ := okW_hi ef_13 hkworld (a := 13 + 2 * n_6) rfl (by omega) (by omega)
        refine lv_iload_n hx hb dX11_rate_55 rfl (lv_at hl 0 rfl) ?_
        exact x_reti S hr hlk hQ hS ((fun i => ([] : List (Int32)).getD i 0), (fun i => ([] : List (Nat)).getD i 0), (fun i => ([f_13] : List (Nat → Int32)).getD i (fun _ => 0)), (fun i => ([] : List (Nat → Int64)).getD i (fun _ => 0)), (fun i => ([] : List (Int64)).getD i 0)) hif_13 (x_B hP hD) dX11_rate_56
      · skip
        have c_10 : ¬ wn fworld 7 ≤ 0 := fun q => c_10 ((ni_le rfl (by decide) (by omega) (by omega)).mpr q)
        refine lv_bipush (v := (-5)) hx hb dX11_rate_34 (by decide) ?_
        exact x_reti S hr hlk hQ hS ((fun i => ([] : List (Int32)).getD i 0), (fun i => ([] : List (Nat)).getD i 0), (fun i => ([fworld] : List (Nat → Int32)).getD i (fun _ => 0)), (fun i => ([] : List (Nat → Int64)).getD i (fun _ => 0)), (fun i => ([] : List (Int64)).getD i 0)) hkworld (x_B hP hD) dX11_rate_36
    · skip
      have c_9 : ¬ (1 ≤ p1.toInt64 ∧ p1.toInt64 ≤ 4) := bo_0.mp c_9
      refine lv_bipush (v := (-2)) hx hb dX11_rate_21 (by decide) ?_
      exact x_reti S hr hlk hQ hS ((fun i => ([] : List (Int32)).getD i 0), (fun i => ([] : List (Nat)).getD i 0), (fun i => ([fworld] : List (Nat → Int32)).getD i (fun _ => 0)), (fun i => ([] : List (Nat → Int64)).getD i (fun _ => 0)), (fun i => ([] : List (Int64)).getD i 0)) hkworld (x_B hP hD) dX11_rate_23

set_option maxHeartbeats 4000000 in
set_option maxRecDepth 100000 in
theorem ctX11_count (l : Launch) (D : va_G) (k : Nat → ClassId) (z : Nat → Nat) (n : Nat → Nat) (mthrown : Int32) (mtaped : Nat) (msize : Nat) (mat : Nat) (mfrom : Nat) (mtoken : Int32) (mvalue : Int32) (mfaultKind : Int32) (mfaultPlace : Int32) (mmoreMany : Nat) (mlawNow : Int32) (mwetSet : Int32) (moverAll : Int32) (mones : Int32) (mtwos : Int32) (mgone : Int32) (mroundNow : Int32) (msampleFor : Int64) (msampleAll : Int64) (maskWorst : Int32) (moftenAll : Int64) (moftenView : Int64) (moftenOnes : Int64) (fworld : Nat → Int32) (fmany : Nat → Int32) (p0 : Int32) (hmtaped : mtaped ≤ 600) (hmsize : msize ≤ 600) (hmat : mat ≤ 600) (hmfrom : mfrom ≤ 600) (hmmoreMany : mmoreMany ≤ 14) (hkworld : okW fworld) (hkmany : okL fmany) : RO l yX11_count cX11_count 4 (some .int) 1 D k z [.ref (n 0), .int p0] [((n 0), .inr (11, [.int mthrown, .ref (n 1), .ref (n 2), .ref (n 3), .ref (n 4), .int (nI mtaped), .ref (n 5), .int (nI msize), .int (nI mat), .int (nI mfrom), .int mtoken, .int mvalue, .int mfaultKind, .int mfaultPlace, .ref (n 6), .ref (n 7), .ref (n 8), .ref (n 9), .ref (n 10), .ref (n 11), .ref (n 12), .int (nI mmoreMany), .int mlawNow, .int mwetSet, .int moverAll, .ref (n 13), .ref (n 14), .ref (n 15), .int mones, .int mtwos, .int mgone, .ref (n 16), .ref (n 17), .int mroundNow, .ref (n 18), .long msampleFor, .long msampleAll, .ref (n 19), .int maskWorst, .long moftenAll, .long moftenView, .long moftenOnes, .ref (n 20), .ref (n 21), .ref (n 22), .ref (n 23)])), ((n 1), .inl (k 0, 99, .inl fworld)), ((n 20), .inl (k 0, 4, .inl fmany))] (Qi (fun r : Int32 => True)) := by
  refine RO.of (by decide) (Nat.le_of_ble_eq_true rfl) ?_
  intro p e s m below meth c ls A B args Q S hr hlk hQ hK hP hDW hZ hAB hBA hA hS hl
  have hx := S.1
  have hb := S.2.1
  have hl : lv_has ls 4 [(0, .ref (n 0)), (1, .int p0)] := hl
  have hbfworld := okW_bd hkworld
  refine lv_iload_n hx hb dX11_count_0 rfl (lv_at hl 1 rfl) ?_
  refine lv_i2l (v := p0.toInt64) hx hb dX11_count_1 rfl ?_
  refine lv_lconst (v := 0) hx hb dX11_count_2 (by decide) ?_
  refine lv_ldc2 hx hb S.2.2.2.1 (S.2.2.2.2 _ lkX11_509) dX11_count_3 ?_
  refine x_roSi (As := [.long p0.toInt64, .long 0, .long 8]) S hK hP hDW hZ hAB hBA hS hA hl mwX11_in lkX11_91 (ctX11_in l D k z p0.toInt64 0 8 ) [] rfl (by decide) rfl rfl ⟨Nat.le_of_ble_eq_true rfl, Nat.le_of_ble_eq_true rfl, Nat.le_of_ble_eq_true rfl⟩ dX11_count_6 ⟨Nat.le_of_ble_eq_true rfl, Nat.le_of_ble_eq_true rfl⟩ (fun r_1 H locs hr_1 hP hS => ?_)
  obtain rfl := hr_1
  refine lv_if_eq (tgt := 19) hx hb dX11_count_9 (by decide) (fun c_3 => ?_) (fun c_3 => ?_)
  · skip
    have c_3 : ¬ (0 ≤ p0.toInt64 ∧ p0.toInt64 ≤ 8) := bo_0.mp c_3
    refine lv_iload_n hx hb dX11_count_19 rfl (lv_at hl 1 rfl) ?_
    refine lv_bipush (v := 9) hx hb dX11_count_20 (by decide) ?_
    refine lv_icmp_ne (tgt := 30) hx hb dX11_count_22 (by decide) (fun c_4 => ?_) (fun c_4 => ?_)
    · skip
      refine lv_iload_n hx hb dX11_count_30 rfl (lv_at hl 1 rfl) ?_
      refine lv_bipush (v := 10) hx hb dX11_count_31 (by decide) ?_
      refine lv_icmp_eq (tgt := 38) hx hb dX11_count_33 (by decide) (fun c_5 => ?_) (fun c_5 => ?_)
      · skip
        refine lv_iconst (v := 0) hx hb dX11_count_38 (by decide) ?_
        refine lv_istore_n (lv' := [(2, .int 0), (0, .ref (n 0)), (1, .int p0)]) hx hb dX11_count_39 rfl hl (by decide) rfl (fun ls hl => ?_)
        refine lv_iconst (v := 0) hx hb dX11_count_40 (by decide) ?_
        refine lv_istore_n (lv' := [(3, .int 0), (2, .int 0), (0, .ref (n 0)), (1, .int p0)]) hx hb dX11_count_41 rfl hl (by decide) rfl (fun ls hl => ?_)
        have lp_24 : ∀ (nn j_22 : Nat) (x_23 : Int32) (H : Heap) (locs : List Loc) (ls : Array Slot), j_22 ≤ 4 → 4 - j_22 < nn → va_P D vwCl [((n 0), .inr (11, [.int mthrown, .ref (n 1), .ref (n 2), .ref (n 3), .ref (n 4), .int (nI mtaped), .ref (n 5), .int (nI msize), .int (nI mat), .int (nI mfrom), .int mtoken, .int mvalue, .int mfaultKind, .int mfaultPlace, .ref (n 6), .ref (n 7), .ref (n 8), .ref (n 9), .ref (n 10), .ref (n 11), .ref (n 12), .int (nI mmoreMany), .int mlawNow, .int mwetSet, .int moverAll, .ref (n 13), .ref (n 14), .ref (n 15), .int mones, .int mtwos, .int mgone, .ref (n 16), .ref (n 17), .int mroundNow, .ref (n 18), .long msampleFor, .long msampleAll, .ref (n 19), .int maskWorst, .long moftenAll, .long moftenView, .long moftenOnes, .ref (n 20), .ref (n 21), .ref (n 22), .ref (n 23)])), ((n 1), .inl (k 0, 99, .inl fworld)), ((n 20), .inl (k 0, 4, .inl fmany))] H → va_S A s.heap H locs → lv_has ls 4 [(3, .int (nI j_22)), (2, .int x_23), (0, .ref (n 0)), (1, .int p0)] → W p l e (Rm 1 0 0) s m args below meth c H locs 0 0 Q (F0 m 42 ls []) := by
          intro nn
          induction nn with
          | zero => intro j_22 x_23 H locs ls hjj_22 hnj_22; exact absurd hnj_22 (by omega)
          | succ nn ihj_22 =>
            intro j_22 x_23 H locs ls hjj_22 hnj_22 hP hS hl
            refine lv_iload_n hx hb dX11_count_42 rfl (lv_at hl 0 rfl) ?_
            refine lv_iconst (v := 4) hx hb dX11_count_43 (by decide) ?_
            refine lv_icmp_ge (tgt := 71) hx hb dX11_count_44 (by decide) (fun c_25 => ?_) (fun c_25 => ?_)
            · skip
              have c_25 : 4 ≤ j_22 := (ni_le (by decide) rfl (by omega) (by omega)).mp c_25
              refine lv_iload_n hx hb dX11_count_71 rfl (lv_at hl 1 rfl) ?_
              exact x_reti S hr hlk hQ hS () trivial x_T dX11_count_72
            · skip
              have c_25 : ¬ 4 ≤ j_22 := fun q => c_25 ((ni_le (by decide) rfl (by omega) (by omega)).mpr q)
              refine lv_iload_n hx hb dX11_count_47 rfl (lv_at hl 1 rfl) ?_
              refine lv_aload_n hx hb dX11_count_48 rfl (lv_at hl 2 rfl) ?_
              refine x_get S hK hP 0 rfl cfX11 42 lkX11_73 (by decide) rfl dX11_count_49 ?_
              refine lv_iload_n hx hb dX11_count_52 rfl (lv_at hl 0 rfl) ?_
              refine x_iald S hK hP 2 rfl (vp_in_nI (by omega) (by decide)) dX11_count_53 ?_
              rcases hkmany j_22 (by omega) with e_26 | ⟨n_27, e_26, hn_27⟩
              · skip
                refine x_is (-1) ((cl_at (f := fmany) (a := j_22) rfl (by omega)).trans e_26) ?_
                refine lv_iconst (v := (-1)) hx hb dX11_count_54 (by decide) ?_
                refine lv_icmp_ne (tgt := 62) hx hb dX11_count_55 (by decide) (fun c_28 => absurd (by decide) c_28) (fun c_28 => ?_)
                refine lv_iconst (v := 0) hx hb dX11_count_58 (by decide) ?_
                refine lv_goto (tgt := 63) hx hb dX11_count_59 (by decide) ?_
                refine lv_iadd hx hb dX11_count_63 ?_
                refine lv_topi (fun v_29 ev_29 => ?_)
                refine lv_istore_n (lv' := [(2, .int v_29), (3, .int (nI j_22)), (0, .ref (n 0)), (1, .int p0)]) hx hb dX11_count_64 rfl hl (by decide) rfl (fun ls hl => ?_)
                refine lv_iinc (v := (nI (j_22 + 1))) (lv' := [(3, .int (nI (j_22 + 1))), (2, .int v_29), (0, .ref (n 0)), (1, .int p0)]) hx hb dX11_count_65 hl (k := 1) rfl (ni_inc _) (by decide) rfl (fun ls hl => ?_)
                refine lv_goto (tgt := 42) hx hb dX11_count_68 (by decide) ?_
                exact ihj_22 (j_22 + 1) v_29 _ _ _ (by omega) (by omega) hP hS (lv_sub hl [0, 1, 2, 3] rfl)
              · skip
                refine x_is (nI n_27) ((cl_at (f := fmany) (a := j_22) rfl (by omega)).trans e_26) ?_
                refine lv_iconst (v := (-1)) hx hb dX11_count_54 (by decide) ?_
                refine lv_icmp_ne (tgt := 62) hx hb dX11_count_55 (by decide) (fun c_30 => ?_) (fun c_30 => absurd c_30 (i32_ne (ni_gtn (a := n_27) rfl (by omega) (y := (-1)) (by decide))))
                refine lv_iconst (v := 1) hx hb dX11_count_62 (by decide) ?_
                refine lv_iadd hx hb dX11_count_63 ?_
                refine lv_topi (fun v_31 ev_31 => ?_)
                refine lv_istore_n (lv' := [(2, .int v_31), (3, .int (nI j_22)), (0, .ref (n 0)), (1, .int p0)]) hx hb dX11_count_64 rfl hl (by decide) rfl (fun ls hl => ?_)
                refine lv_iinc (v := (nI (j_22 + 1))) (lv' := [(3, .int (nI (j_22 + 1))), (2, .int v_31), (0, .ref (n 0)), (1, .int p0)]) hx hb dX11_count_65 hl (k := 1) rfl (ni_inc _) (by decide) rfl (fun ls hl => ?_)
                refine lv_goto (tgt := 42) hx hb dX11_count_68 (by decide) ?_
                exact ihj_22 (j_22 + 1) v_31 _ _ _ (by omega) (by omega) hP hS (lv_sub hl [0, 1, 2, 3] rfl)
        exact lp_24 (4 + 1) 0 0 _ _ _ (by omega) (by omega) hP hS (lv_sub hl [0, 1, 2, 3] rfl)
      · skip
        refine lv_iconst (v := (-1)) hx hb dX11_count_36 (by decide) ?_
        exact x_reti S hr hlk hQ hS () trivial x_T dX11_count_37
    · skip
      refine lv_aload_n hx hb dX11_count_25 rfl (lv_at hl 0 rfl) ?_
      refine x_get S hK hP 0 rfl cfX11 5 lkX11_106 (by decide) rfl dX11_count_26 ?_
      exact x_reti S hr hlk hQ hS () trivial x_T dX11_count_29
  · skip
    have c_3 : 0 ≤ p0.toInt64 ∧ p0.toInt64 ≤ 8 := bo_1.mp c_3
    obtain ⟨kw, hkw, ekw⟩ : ∃ kw : Nat, kw < 8 + 1 ∧ p0 = nI kw := nat64g c_3 (by decide) (b := 8) (by decide)
    have hl : lv_has ls 4 [(0, .ref (n 0)), (1, .int (nI kw))] := by rw [ekw] at hl; exact hl
    refine lv_aload_n hx hb dX11_count_12 rfl (lv_at hl 0 rfl) ?_
    refine x_get S hK hP 0 rfl cfX11 1 lkX11_9 (by decide) rfl dX11_count_13 ?_
    refine lv_iload_n hx hb dX11_count_16 rfl (lv_at hl 1 rfl) ?_
    refine x_iald S hK hP 1 rfl (vp_in_nI (by omega) (by decide)) dX11_count_17 ?_
    refine lv_topi (fun v_32 ev_32 => ?_)
    exact x_reti S hr hlk hQ hS () trivial x_T dX11_count_18

