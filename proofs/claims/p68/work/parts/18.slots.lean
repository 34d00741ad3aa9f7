theorem dX6_isEmpty_0 : decode cX6_isEmpty 0 = .ok (.aload_n 0, 1) := by decide +kernel
theorem dX6_isEmpty_1 : decode cX6_isEmpty 1 = .ok (.getfield 20, 3) := by decide +kernel
theorem dX6_isEmpty_4 : decode cX6_isEmpty 4 = .ok (.iload_n 1, 1) := by decide +kernel
theorem dX6_isEmpty_5 : decode cX6_isEmpty 5 = .ok (.iaload, 1) := by decide +kernel
theorem dX6_isEmpty_6 : decode cX6_isEmpty 6 = .ok (.iconst (-1), 1) := by decide +kernel
theorem dX6_isEmpty_7 : decode cX6_isEmpty 7 = .ok (.if_icmp .ne 7, 3) := by decide +kernel
theorem dX6_isEmpty_10 : decode cX6_isEmpty 10 = .ok (.iconst 1, 1) := by decide +kernel
theorem dX6_isEmpty_11 : decode cX6_isEmpty 11 = .ok (.goto 4, 3) := by decide +kernel
theorem dX6_isEmpty_14 : decode cX6_isEmpty 14 = .ok (.iconst 0, 1) := by decide +kernel
theorem dX6_isEmpty_15 : decode cX6_isEmpty 15 = .ok (.ireturn, 1) := by decide +kernel
theorem dX6_filled_0 : decode cX6_filled 0 = .ok (.iconst 0, 1) := by decide +kernel
theorem dX6_filled_1 : decode cX6_filled 1 = .ok (.istore_n 1, 1) := by decide +kernel
theorem dX6_filled_2 : decode cX6_filled 2 = .ok (.iconst 0, 1) := by decide +kernel
theorem dX6_filled_3 : decode cX6_filled 3 = .ok (.istore_n 2, 1) := by decide +kernel
theorem dX6_filled_4 : decode cX6_filled 4 = .ok (.iload_n 2, 1) := by decide +kernel
theorem dX6_filled_5 : decode cX6_filled 5 = .ok (.iconst 4, 1) := by decide +kernel
theorem dX6_filled_6 : decode cX6_filled 6 = .ok (.if_icmp .ge 25, 3) := by decide +kernel
theorem dX6_filled_9 : decode cX6_filled 9 = .ok (.iload_n 1, 1) := by decide +kernel
theorem dX6_filled_10 : decode cX6_filled 10 = .ok (.aload_n 0, 1) := by decide +kernel
theorem dX6_filled_11 : decode cX6_filled 11 = .ok (.iload_n 2, 1) := by decide +kernel
theorem dX6_filled_12 : decode cX6_filled 12 = .ok (.invokevirtual 23, 3) := by decide +kernel
theorem dX6_filled_15 : decode cX6_filled 15 = .ok (.ifCond .eq 7, 3) := by decide +kernel
theorem dX6_filled_18 : decode cX6_filled 18 = .ok (.iconst 0, 1) := by decide +kernel
theorem dX6_filled_19 : decode cX6_filled 19 = .ok (.goto 4, 3) := by decide +kernel
theorem dX6_filled_22 : decode cX6_filled 22 = .ok (.iconst 1, 1) := by decide +kernel
theorem dX6_filled_23 : decode cX6_filled 23 = .ok (.iadd, 1) := by decide +kernel
theorem dX6_filled_24 : decode cX6_filled 24 = .ok (.istore_n 1, 1) := by decide +kernel
theorem dX6_filled_25 : decode cX6_filled 25 = .ok (.iinc 2 1, 3) := by decide +kernel
theorem dX6_filled_28 : decode cX6_filled 28 = .ok (.goto (-24), 3) := by decide +kernel
theorem dX6_filled_31 : decode cX6_filled 31 = .ok (.iload_n 1, 1) := by decide +kernel
theorem dX6_filled_32 : decode cX6_filled 32 = .ok (.ireturn, 1) := by decide +kernel
theorem dX6_lay_0 : decode cX6_lay 0 = .ok (.aload_n 0, 1) := by decide +kernel
theorem dX6_lay_1 : decode cX6_lay 1 = .ok (.getfield 16, 3) := by decide +kernel
theorem dX6_lay_4 : decode cX6_lay 4 = .ok (.iload_n 1, 1) := by decide +kernel
theorem dX6_lay_5 : decode cX6_lay 5 = .ok (.iload_n 2, 1) := by decide +kernel
theorem dX6_lay_6 : decode cX6_lay 6 = .ok (.iastore, 1) := by decide +kernel
theorem dX6_lay_7 : decode cX6_lay 7 = .ok (.aload_n 0, 1) := by decide +kernel
theorem dX6_lay_8 : decode cX6_lay 8 = .ok (.getfield 20, 3) := by decide +kernel
theorem dX6_lay_11 : decode cX6_lay 11 = .ok (.iload_n 1, 1) := by decide +kernel
theorem dX6_lay_12 : decode cX6_lay 12 = .ok (.iload_n 3, 1) := by decide +kernel
theorem dX6_lay_13 : decode cX6_lay 13 = .ok (.iastore, 1) := by decide +kernel
theorem dX6_lay_14 : decode cX6_lay 14 = .ok (.iconst 0, 1) := by decide +kernel
theorem dX6_lay_15 : decode cX6_lay 15 = .ok (.istore 4, 2) := by decide +kernel
theorem dX6_lay_17 : decode cX6_lay 17 = .ok (.iload 4, 2) := by decide +kernel
theorem dX6_lay_19 : decode cX6_lay 19 = .ok (.bipush 60, 2) := by decide +kernel
theorem dX6_lay_21 : decode cX6_lay 21 = .ok (.if_icmp .ge 19, 3) := by decide +kernel
theorem dX6_lay_24 : decode cX6_lay 24 = .ok (.aload_n 0, 1) := by decide +kernel
theorem dX6_lay_25 : decode cX6_lay 25 = .ok (.getfield 11, 3) := by decide +kernel
theorem dX6_lay_28 : decode cX6_lay 28 = .ok (.iload_n 1, 1) := by decide +kernel
theorem dX6_lay_29 : decode cX6_lay 29 = .ok (.aaload, 1) := by decide +kernel
theorem dX6_lay_30 : decode cX6_lay 30 = .ok (.iload 4, 2) := by decide +kernel
theorem dX6_lay_32 : decode cX6_lay 32 = .ok (.lconst 0, 1) := by decide +kernel
theorem dX6_lay_33 : decode cX6_lay 33 = .ok (.lastore, 1) := by decide +kernel
theorem dX6_lay_34 : decode cX6_lay 34 = .ok (.iinc 4 1, 3) := by decide +kernel
theorem dX6_lay_37 : decode cX6_lay 37 = .ok (.goto (-20), 3) := by decide +kernel
theorem dX6_lay_40 : decode cX6_lay 40 = .ok (.return_, 1) := by decide +kernel
theorem dX6_cut_0 : decode cX6_cut 0 = .ok (.iload_n 2, 1) := by decide +kernel
theorem dX6_cut_1 : decode cX6_cut 1 = .ok (.tableswitch 41 0 2 #[27, 32, 37], 27) := by decide +kernel
theorem dX6_cut_28 : decode cX6_cut 28 = .ok (.lload_n 0, 1) := by decide +kernel
theorem dX6_cut_29 : decode cX6_cut 29 = .ok (.l2i, 1) := by decide +kernel
theorem dX6_cut_30 : decode cX6_cut 30 = .ok (.i2b, 1) := by decide +kernel
theorem dX6_cut_31 : decode cX6_cut 31 = .ok (.i2l, 1) := by decide +kernel
theorem dX6_cut_32 : decode cX6_cut 32 = .ok (.lreturn, 1) := by decide +kernel
theorem dX6_cut_33 : decode cX6_cut 33 = .ok (.lload_n 0, 1) := by decide +kernel
theorem dX6_cut_34 : decode cX6_cut 34 = .ok (.l2i, 1) := by decide +kernel
theorem dX6_cut_35 : decode cX6_cut 35 = .ok (.i2s, 1) := by decide +kernel
theorem dX6_cut_36 : decode cX6_cut 36 = .ok (.i2l, 1) := by decide +kernel
theorem dX6_cut_37 : decode cX6_cut 37 = .ok (.lreturn, 1) := by decide +kernel
theorem dX6_cut_38 : decode cX6_cut 38 = .ok (.lload_n 0, 1) := by decide +kernel
theorem dX6_cut_39 : decode cX6_cut 39 = .ok (.l2i, 1) := by decide +kernel
theorem dX6_cut_40 : decode cX6_cut 40 = .ok (.i2l, 1) := by decide +kernel
theorem dX6_cut_41 : decode cX6_cut 41 = .ok (.lreturn, 1) := by decide +kernel
theorem dX6_cut_42 : decode cX6_cut 42 = .ok (.lload_n 0, 1) := by decide +kernel
theorem dX6_cut_43 : decode cX6_cut 43 = .ok (.lreturn, 1) := by decide +kernel
theorem dX6_put_0 : decode cX6_put 0 = .ok (.aload_n 0, 1) := by decide +kernel
theorem dX6_put_1 : decode cX6_put 1 = .ok (.getfield 11, 3) := by decide +kernel
theorem dX6_put_4 : decode cX6_put 4 = .ok (.iload_n 1, 1) := by decide +kernel
theorem dX6_put_5 : decode cX6_put 5 = .ok (.aaload, 1) := by decide +kernel
theorem dX6_put_6 : decode cX6_put 6 = .ok (.iload_n 2, 1) := by decide +kernel
theorem dX6_put_7 : decode cX6_put 7 = .ok (.lload_n 3, 1) := by decide +kernel
theorem dX6_put_8 : decode cX6_put 8 = .ok (.aload_n 0, 1) := by decide +kernel
theorem dX6_put_9 : decode cX6_put 9 = .ok (.getfield 16, 3) := by decide +kernel
theorem dX6_put_12 : decode cX6_put 12 = .ok (.iload_n 1, 1) := by decide +kernel
theorem dX6_put_13 : decode cX6_put 13 = .ok (.iaload, 1) := by decide +kernel
theorem dX6_put_14 : decode cX6_put 14 = .ok (.invokestatic 27, 3) := by decide +kernel
theorem dX6_put_17 : decode cX6_put 17 = .ok (.lastore, 1) := by decide +kernel
theorem dX6_put_18 : decode cX6_put 18 = .ok (.return_, 1) := by decide +kernel
theorem dX6_reaches_0 : decode cX6_reaches 0 = .ok (.iload_n 2, 1) := by decide +kernel
theorem dX6_reaches_1 : decode cX6_reaches 1 = .ok (.ifCond .lt 33, 3) := by decide +kernel
theorem dX6_reaches_4 : decode cX6_reaches 4 = .ok (.iload_n 3, 1) := by decide +kernel
theorem dX6_reaches_5 : decode cX6_reaches 5 = .ok (.ifCond .lt 29, 3) := by decide +kernel
theorem dX6_reaches_8 : decode cX6_reaches 8 = .ok (.iload_n 2, 1) := by decide +kernel
theorem dX6_reaches_9 : decode cX6_reaches 9 = .ok (.aload_n 0, 1) := by decide +kernel
theorem dX6_reaches_10 : decode cX6_reaches 10 = .ok (.getfield 20, 3) := by decide +kernel
theorem dX6_reaches_13 : decode cX6_reaches 13 = .ok (.iload_n 1, 1) := by decide +kernel
theorem dX6_reaches_14 : decode cX6_reaches 14 = .ok (.iaload, 1) := by decide +kernel
theorem dX6_reaches_15 : decode cX6_reaches 15 = .ok (.if_icmp .gt 19, 3) := by decide +kernel
theorem dX6_reaches_18 : decode cX6_reaches 18 = .ok (.iload_n 3, 1) := by decide +kernel
theorem dX6_reaches_19 : decode cX6_reaches 19 = .ok (.aload_n 0, 1) := by decide +kernel
theorem dX6_reaches_20 : decode cX6_reaches 20 = .ok (.getfield 20, 3) := by decide +kernel
theorem dX6_reaches_23 : decode cX6_reaches 23 = .ok (.iload_n 1, 1) := by decide +kernel
theorem dX6_reaches_24 : decode cX6_reaches 24 = .ok (.iaload, 1) := by decide +kernel
theorem dX6_reaches_25 : decode cX6_reaches 25 = .ok (.iload_n 2, 1) := by decide +kernel
theorem dX6_reaches_26 : decode cX6_reaches 26 = .ok (.isub, 1) := by decide +kernel
theorem dX6_reaches_27 : decode cX6_reaches 27 = .ok (.if_icmp .gt 7, 3) := by decide +kernel
theorem dX6_reaches_30 : decode cX6_reaches 30 = .ok (.iconst 1, 1) := by decide +kernel
theorem dX6_reaches_31 : decode cX6_reaches 31 = .ok (.goto 4, 3) := by decide +kernel
theorem dX6_reaches_34 : decode cX6_reaches 34 = .ok (.iconst 0, 1) := by decide +kernel
theorem dX6_reaches_35 : decode cX6_reaches 35 = .ok (.ireturn, 1) := by decide +kernel
theorem dX5_isSound_0 : decode cX5_isSound 0 = .ok (.aload_n 0, 1) := by decide +kernel
theorem dX5_isSound_1 : decode cX5_isSound 1 = .ok (.getfield 20, 3) := by decide +kernel
theorem dX5_isSound_4 : decode cX5_isSound 4 = .ok (.getfield 28, 3) := by decide +kernel
theorem dX5_isSound_7 : decode cX5_isSound 7 = .ok (.iload_n 1, 1) := by decide +kernel
theorem dX5_isSound_8 : decode cX5_isSound 8 = .ok (.iaload, 1) := by decide +kernel
theorem dX5_isSound_9 : decode cX5_isSound 9 = .ok (.istore_n 2, 1) := by decide +kernel
theorem dX5_isSound_10 : decode cX5_isSound 10 = .ok (.iload_n 2, 1) := by decide +kernel
theorem dX5_isSound_11 : decode cX5_isSound 11 = .ok (.iconst 3, 1) := by decide +kernel
theorem dX5_isSound_12 : decode cX5_isSound 12 = .ok (.irem, 1) := by decide +kernel
theorem dX5_isSound_13 : decode cX5_isSound 13 = .ok (.ifCond .eq 5, 3) := by decide +kernel
theorem dX5_isSound_16 : decode cX5_isSound 16 = .ok (.iconst 0, 1) := by decide +kernel
theorem dX5_isSound_17 : decode cX5_isSound 17 = .ok (.ireturn, 1) := by decide +kernel
theorem dX5_isSound_18 : decode cX5_isSound 18 = .ok (.aload_n 0, 1) := by decide +kernel
theorem dX5_isSound_19 : decode cX5_isSound 19 = .ok (.getfield 20, 3) := by decide +kernel
theorem dX5_isSound_22 : decode cX5_isSound 22 = .ok (.getfield 34, 3) := by decide +kernel
theorem dX5_isSound_25 : decode cX5_isSound 25 = .ok (.iload_n 1, 1) := by decide +kernel
theorem dX5_isSound_26 : decode cX5_isSound 26 = .ok (.aaload, 1) := by decide +kernel
theorem dX5_isSound_27 : decode cX5_isSound 27 = .ok (.astore_n 3, 1) := by decide +kernel
theorem dX5_isSound_28 : decode cX5_isSound 28 = .ok (.iconst 0, 1) := by decide +kernel
theorem dX5_isSound_29 : decode cX5_isSound 29 = .ok (.istore 4, 2) := by decide +kernel
theorem dX5_isSound_31 : decode cX5_isSound 31 = .ok (.iload 4, 2) := by decide +kernel
theorem dX5_isSound_33 : decode cX5_isSound 33 = .ok (.iconst 2, 1) := by decide +kernel
theorem dX5_isSound_34 : decode cX5_isSound 34 = .ok (.iadd, 1) := by decide +kernel
theorem dX5_isSound_35 : decode cX5_isSound 35 = .ok (.iload_n 2, 1) := by decide +kernel
theorem dX5_isSound_36 : decode cX5_isSound 36 = .ok (.if_icmp .ge 125, 3) := by decide +kernel
theorem dX5_isSound_39 : decode cX5_isSound 39 = .ok (.aload_n 3, 1) := by decide +kernel
theorem dX5_isSound_40 : decode cX5_isSound 40 = .ok (.iload 4, 2) := by decide +kernel
theorem dX5_isSound_42 : decode cX5_isSound 42 = .ok (.laload, 1) := by decide +kernel
theorem dX5_isSound_43 : decode cX5_isSound 43 = .ok (.lconst 0, 1) := by decide +kernel
theorem dX5_isSound_44 : decode cX5_isSound 44 = .ok (.lcmp, 1) := by decide +kernel
theorem dX5_isSound_45 : decode cX5_isSound 45 = .ok (.ifCond .lt 23, 3) := by decide +kernel
theorem dX5_isSound_48 : decode cX5_isSound 48 = .ok (.aload_n 3, 1) := by decide +kernel
theorem dX5_isSound_49 : decode cX5_isSound 49 = .ok (.iload 4, 2) := by decide +kernel
theorem dX5_isSound_51 : decode cX5_isSound 51 = .ok (.laload, 1) := by decide +kernel
theorem dX5_isSound_52 : decode cX5_isSound 52 = .ok (.aload_n 0, 1) := by decide +kernel
theorem dX5_isSound_53 : decode cX5_isSound 53 = .ok (.getfield 16, 3) := by decide +kernel
theorem dX5_isSound_56 : decode cX5_isSound 56 = .ok (.getfield 38, 3) := by decide +kernel
theorem dX5_isSound_59 : decode cX5_isSound 59 = .ok (.i2l, 1) := by decide +kernel
theorem dX5_isSound_60 : decode cX5_isSound 60 = .ok (.lcmp, 1) := by decide +kernel
theorem dX5_isSound_61 : decode cX5_isSound 61 = .ok (.ifCond .ge 7, 3) := by decide +kernel
theorem dX5_isSound_64 : decode cX5_isSound 64 = .ok (.iconst 1, 1) := by decide +kernel
theorem dX5_isSound_65 : decode cX5_isSound 65 = .ok (.goto 4, 3) := by decide +kernel
theorem dX5_isSound_68 : decode cX5_isSound 68 = .ok (.iconst 0, 1) := by decide +kernel
theorem dX5_isSound_69 : decode cX5_isSound 69 = .ok (.istore 5, 2) := by decide +kernel
theorem dX5_isSound_71 : decode cX5_isSound 71 = .ok (.aload_n 3, 1) := by decide +kernel
theorem dX5_isSound_72 : decode cX5_isSound 72 = .ok (.iload 4, 2) := by decide +kernel
theorem dX5_isSound_74 : decode cX5_isSound 74 = .ok (.iconst 1, 1) := by decide +kernel
theorem dX5_isSound_75 : decode cX5_isSound 75 = .ok (.iadd, 1) := by decide +kernel
theorem dX5_isSound_76 : decode cX5_isSound 76 = .ok (.laload, 1) := by decide +kernel
theorem dX5_isSound_77 : decode cX5_isSound 77 = .ok (.lconst 0, 1) := by decide +kernel
theorem dX5_isSound_78 : decode cX5_isSound 78 = .ok (.lcmp, 1) := by decide +kernel
theorem dX5_isSound_79 : decode cX5_isSound 79 = .ok (.ifCond .lt 25, 3) := by decide +kernel
theorem dX5_isSound_82 : decode cX5_isSound 82 = .ok (.aload_n 3, 1) := by decide +kernel
theorem dX5_isSound_83 : decode cX5_isSound 83 = .ok (.iload 4, 2) := by decide +kernel
theorem dX5_isSound_85 : decode cX5_isSound 85 = .ok (.iconst 1, 1) := by decide +kernel
theorem dX5_isSound_86 : decode cX5_isSound 86 = .ok (.iadd, 1) := by decide +kernel
theorem dX5_isSound_87 : decode cX5_isSound 87 = .ok (.laload, 1) := by decide +kernel
theorem dX5_isSound_88 : decode cX5_isSound 88 = .ok (.aload_n 0, 1) := by decide +kernel
theorem dX5_isSound_89 : decode cX5_isSound 89 = .ok (.getfield 16, 3) := by decide +kernel
theorem dX5_isSound_92 : decode cX5_isSound 92 = .ok (.getfield 44, 3) := by decide +kernel
theorem dX5_isSound_95 : decode cX5_isSound 95 = .ok (.i2l, 1) := by decide +kernel
theorem dX5_isSound_96 : decode cX5_isSound 96 = .ok (.lcmp, 1) := by decide +kernel
theorem dX5_isSound_97 : decode cX5_isSound 97 = .ok (.ifCond .gt 7, 3) := by decide +kernel
theorem dX5_isSound_100 : decode cX5_isSound 100 = .ok (.iconst 1, 1) := by decide +kernel
theorem dX5_isSound_101 : decode cX5_isSound 101 = .ok (.goto 4, 3) := by decide +kernel
theorem dX5_isSound_104 : decode cX5_isSound 104 = .ok (.iconst 0, 1) := by decide +kernel
theorem dX5_isSound_105 : decode cX5_isSound 105 = .ok (.istore 6, 2) := by decide +kernel
theorem dX5_isSound_107 : decode cX5_isSound 107 = .ok (.aload_n 3, 1) := by decide +kernel
theorem dX5_isSound_108 : decode cX5_isSound 108 = .ok (.iload 4, 2) := by decide +kernel
theorem dX5_isSound_110 : decode cX5_isSound 110 = .ok (.iconst 2, 1) := by decide +kernel
theorem dX5_isSound_111 : decode cX5_isSound 111 = .ok (.iadd, 1) := by decide +kernel
theorem dX5_isSound_112 : decode cX5_isSound 112 = .ok (.laload, 1) := by decide +kernel
theorem dX5_isSound_113 : decode cX5_isSound 113 = .ok (.lconst 0, 1) := by decide +kernel
theorem dX5_isSound_114 : decode cX5_isSound 114 = .ok (.lcmp, 1) := by decide +kernel
theorem dX5_isSound_115 : decode cX5_isSound 115 = .ok (.ifCond .lt 20, 3) := by decide +kernel
theorem dX5_isSound_118 : decode cX5_isSound 118 = .ok (.aload_n 3, 1) := by decide +kernel
theorem dX5_isSound_119 : decode cX5_isSound 119 = .ok (.iload 4, 2) := by decide +kernel
theorem dX5_isSound_121 : decode cX5_isSound 121 = .ok (.iconst 2, 1) := by decide +kernel
theorem dX5_isSound_122 : decode cX5_isSound 122 = .ok (.iadd, 1) := by decide +kernel
theorem dX5_isSound_123 : decode cX5_isSound 123 = .ok (.laload, 1) := by decide +kernel
theorem dX5_isSound_124 : decode cX5_isSound 124 = .ok (.ldc2_w 47, 3) := by decide +kernel
theorem dX5_isSound_127 : decode cX5_isSound 127 = .ok (.lcmp, 1) := by decide +kernel
theorem dX5_isSound_128 : decode cX5_isSound 128 = .ok (.ifCond .gt 7, 3) := by decide +kernel
theorem dX5_isSound_131 : decode cX5_isSound 131 = .ok (.iconst 1, 1) := by decide +kernel
theorem dX5_isSound_132 : decode cX5_isSound 132 = .ok (.goto 4, 3) := by decide +kernel
theorem dX5_isSound_135 : decode cX5_isSound 135 = .ok (.iconst 0, 1) := by decide +kernel
theorem dX5_isSound_136 : decode cX5_isSound 136 = .ok (.istore 7, 2) := by decide +kernel
theorem dX5_isSound_138 : decode cX5_isSound 138 = .ok (.iload 5, 2) := by decide +kernel
theorem dX5_isSound_140 : decode cX5_isSound 140 = .ok (.ifCond .eq 13, 3) := by decide +kernel
theorem dX5_isSound_143 : decode cX5_isSound 143 = .ok (.iload 6, 2) := by decide +kernel
theorem dX5_isSound_145 : decode cX5_isSound 145 = .ok (.ifCond .eq 8, 3) := by decide +kernel
theorem dX5_isSound_148 : decode cX5_isSound 148 = .ok (.iload 7, 2) := by decide +kernel
theorem dX5_isSound_150 : decode cX5_isSound 150 = .ok (.ifCond .ne 5, 3) := by decide +kernel
theorem dX5_isSound_153 : decode cX5_isSound 153 = .ok (.iconst 0, 1) := by decide +kernel
theorem dX5_isSound_154 : decode cX5_isSound 154 = .ok (.ireturn, 1) := by decide +kernel
theorem dX5_isSound_155 : decode cX5_isSound 155 = .ok (.iinc 4 3, 3) := by decide +kernel
theorem dX5_isSound_158 : decode cX5_isSound 158 = .ok (.goto (-127), 3) := by decide +kernel
theorem dX5_isSound_161 : decode cX5_isSound 161 = .ok (.iconst 1, 1) := by decide +kernel
theorem dX5_isSound_162 : decode cX5_isSound 162 = .ok (.ireturn, 1) := by decide +kernel
theorem dX5_fits_0 : decode cX5_fits 0 = .ok (.aload_n 0, 1) := by decide +kernel
theorem dX5_fits_1 : decode cX5_fits 1 = .ok (.getfield 20, 3) := by decide +kernel
theorem dX5_fits_4 : decode cX5_fits 4 = .ok (.getfield 34, 3) := by decide +kernel
theorem dX5_fits_7 : decode cX5_fits 7 = .ok (.iload_n 1, 1) := by decide +kernel
theorem dX5_fits_8 : decode cX5_fits 8 = .ok (.aaload, 1) := by decide +kernel
theorem dX5_fits_9 : decode cX5_fits 9 = .ok (.astore_n 2, 1) := by decide +kernel
theorem dX5_fits_10 : decode cX5_fits 10 = .ok (.iconst 0, 1) := by decide +kernel
theorem dX5_fits_11 : decode cX5_fits 11 = .ok (.istore_n 3, 1) := by decide +kernel
theorem dX5_fits_12 : decode cX5_fits 12 = .ok (.iload_n 3, 1) := by decide +kernel
theorem dX5_fits_13 : decode cX5_fits 13 = .ok (.iconst 2, 1) := by decide +kernel
theorem dX5_fits_14 : decode cX5_fits 14 = .ok (.iadd, 1) := by decide +kernel
theorem dX5_fits_15 : decode cX5_fits 15 = .ok (.aload_n 0, 1) := by decide +kernel
theorem dX5_fits_16 : decode cX5_fits 16 = .ok (.getfield 20, 3) := by decide +kernel
theorem dX5_fits_19 : decode cX5_fits 19 = .ok (.getfield 28, 3) := by decide +kernel
theorem dX5_fits_22 : decode cX5_fits 22 = .ok (.iload_n 1, 1) := by decide +kernel
theorem dX5_fits_23 : decode cX5_fits 23 = .ok (.iaload, 1) := by decide +kernel
theorem dX5_fits_24 : decode cX5_fits 24 = .ok (.if_icmp .ge 38, 3) := by decide +kernel
theorem dX5_fits_27 : decode cX5_fits 27 = .ok (.aload_n 0, 1) := by decide +kernel
theorem dX5_fits_28 : decode cX5_fits 28 = .ok (.getfield 24, 3) := by decide +kernel
theorem dX5_fits_31 : decode cX5_fits 31 = .ok (.aload_n 2, 1) := by decide +kernel
theorem dX5_fits_32 : decode cX5_fits 32 = .ok (.iload_n 3, 1) := by decide +kernel
theorem dX5_fits_33 : decode cX5_fits 33 = .ok (.laload, 1) := by decide +kernel
theorem dX5_fits_34 : decode cX5_fits 34 = .ok (.l2i, 1) := by decide +kernel
theorem dX5_fits_35 : decode cX5_fits 35 = .ok (.aload_n 2, 1) := by decide +kernel
theorem dX5_fits_36 : decode cX5_fits 36 = .ok (.iload_n 3, 1) := by decide +kernel
theorem dX5_fits_37 : decode cX5_fits 37 = .ok (.iconst 1, 1) := by decide +kernel
theorem dX5_fits_38 : decode cX5_fits 38 = .ok (.iadd, 1) := by decide +kernel
theorem dX5_fits_39 : decode cX5_fits 39 = .ok (.laload, 1) := by decide +kernel
theorem dX5_fits_40 : decode cX5_fits 40 = .ok (.l2i, 1) := by decide +kernel
theorem dX5_fits_41 : decode cX5_fits 41 = .ok (.invokevirtual 49, 3) := by decide +kernel
theorem dX5_fits_44 : decode cX5_fits 44 = .ok (.i2l, 1) := by decide +kernel
theorem dX5_fits_45 : decode cX5_fits 45 = .ok (.aload_n 2, 1) := by decide +kernel
theorem dX5_fits_46 : decode cX5_fits 46 = .ok (.iload_n 3, 1) := by decide +kernel
theorem dX5_fits_47 : decode cX5_fits 47 = .ok (.iconst 2, 1) := by decide +kernel
theorem dX5_fits_48 : decode cX5_fits 48 = .ok (.iadd, 1) := by decide +kernel
theorem dX5_fits_49 : decode cX5_fits 49 = .ok (.laload, 1) := by decide +kernel
theorem dX5_fits_50 : decode cX5_fits 50 = .ok (.lcmp, 1) := by decide +kernel
theorem dX5_fits_51 : decode cX5_fits 51 = .ok (.ifCond .eq 5, 3) := by decide +kernel
theorem dX5_fits_54 : decode cX5_fits 54 = .ok (.iconst 0, 1) := by decide +kernel
theorem dX5_fits_55 : decode cX5_fits 55 = .ok (.ireturn, 1) := by decide +kernel
theorem dX5_fits_56 : decode cX5_fits 56 = .ok (.iinc 3 3, 3) := by decide +kernel
theorem dX5_fits_59 : decode cX5_fits 59 = .ok (.goto (-47), 3) := by decide +kernel
theorem dX5_fits_62 : decode cX5_fits 62 = .ok (.iconst 1, 1) := by decide +kernel
theorem dX5_fits_63 : decode cX5_fits 63 = .ok (.ireturn, 1) := by decide +kernel
theorem dX5_fittingLaws_0 : decode cX5_fittingLaws 0 = .ok (.iconst 0, 1) := by decide +kernel
theorem dX5_fittingLaws_1 : decode cX5_fittingLaws 1 = .ok (.istore_n 2, 1) := by decide +kernel
theorem dX5_fittingLaws_2 : decode cX5_fittingLaws 2 = .ok (.iconst 0, 1) := by decide +kernel
theorem dX5_fittingLaws_3 : decode cX5_fittingLaws 3 = .ok (.istore_n 3, 1) := by decide +kernel
theorem dX5_fittingLaws_4 : decode cX5_fittingLaws 4 = .ok (.iload_n 3, 1) := by decide +kernel
theorem dX5_fittingLaws_5 : decode cX5_fittingLaws 5 = .ok (.iconst 4, 1) := by decide +kernel
theorem dX5_fittingLaws_6 : decode cX5_fittingLaws 6 = .ok (.if_icmp .ge 38, 3) := by decide +kernel
theorem dX5_fittingLaws_9 : decode cX5_fittingLaws 9 = .ok (.aload_n 0, 1) := by decide +kernel
theorem dX5_fittingLaws_10 : decode cX5_fittingLaws 10 = .ok (.getfield 24, 3) := by decide +kernel
theorem dX5_fittingLaws_13 : decode cX5_fittingLaws 13 = .ok (.iload_n 3, 1) := by decide +kernel
theorem dX5_fittingLaws_14 : decode cX5_fittingLaws 14 = .ok (.invokevirtual 78, 3) := by decide +kernel
theorem dX5_fittingLaws_17 : decode cX5_fittingLaws 17 = .ok (.aload_n 0, 1) := by decide +kernel
theorem dX5_fittingLaws_18 : decode cX5_fittingLaws 18 = .ok (.getfield 24, 3) := by decide +kernel
theorem dX5_fittingLaws_21 : decode cX5_fittingLaws 21 = .ok (.invokevirtual 62, 3) := by decide +kernel
theorem dX5_fittingLaws_24 : decode cX5_fittingLaws 24 = .ok (.aload_n 0, 1) := by decide +kernel
theorem dX5_fittingLaws_25 : decode cX5_fittingLaws 25 = .ok (.iload_n 1, 1) := by decide +kernel
theorem dX5_fittingLaws_26 : decode cX5_fittingLaws 26 = .ok (.invokevirtual 65, 3) := by decide +kernel
theorem dX5_fittingLaws_29 : decode cX5_fittingLaws 29 = .ok (.ifCond .eq 9, 3) := by decide +kernel
theorem dX5_fittingLaws_32 : decode cX5_fittingLaws 32 = .ok (.iload_n 2, 1) := by decide +kernel
theorem dX5_fittingLaws_33 : decode cX5_fittingLaws 33 = .ok (.iconst 1, 1) := by decide +kernel
theorem dX5_fittingLaws_34 : decode cX5_fittingLaws 34 = .ok (.iload_n 3, 1) := by decide +kernel
theorem dX5_fittingLaws_35 : decode cX5_fittingLaws 35 = .ok (.ishl, 1) := by decide +kernel
theorem dX5_fittingLaws_36 : decode cX5_fittingLaws 36 = .ok (.ior, 1) := by decide +kernel
theorem dX5_fittingLaws_37 : decode cX5_fittingLaws 37 = .ok (.istore_n 2, 1) := by decide +kernel
theorem dX5_fittingLaws_38 : decode cX5_fittingLaws 38 = .ok (.iinc 3 1, 3) := by decide +kernel
theorem dX5_fittingLaws_41 : decode cX5_fittingLaws 41 = .ok (.goto (-37), 3) := by decide +kernel
theorem dX5_fittingLaws_44 : decode cX5_fittingLaws 44 = .ok (.iload_n 2, 1) := by decide +kernel
theorem dX5_fittingLaws_45 : decode cX5_fittingLaws 45 = .ok (.ireturn, 1) := by decide +kernel
theorem dX5_candidates_0 : decode cX5_candidates 0 = .ok (.iconst 0, 1) := by decide +kernel
theorem dX5_candidates_1 : decode cX5_candidates 1 = .ok (.istore_n 3, 1) := by decide +kernel
theorem dX5_candidates_2 : decode cX5_candidates 2 = .ok (.aload_n 0, 1) := by decide +kernel
theorem dX5_candidates_3 : decode cX5_candidates 3 = .ok (.iconst 0, 1) := by decide +kernel
theorem dX5_candidates_4 : decode cX5_candidates 4 = .ok (.putfield 55, 3) := by decide +kernel
theorem dX5_candidates_7 : decode cX5_candidates 7 = .ok (.iconst 0, 1) := by decide +kernel
theorem dX5_candidates_8 : decode cX5_candidates 8 = .ok (.istore 4, 2) := by decide +kernel
theorem dX5_candidates_10 : decode cX5_candidates 10 = .ok (.iload 4, 2) := by decide +kernel
theorem dX5_candidates_12 : decode cX5_candidates 12 = .ok (.aload_n 0, 1) := by decide +kernel
theorem dX5_candidates_13 : decode cX5_candidates 13 = .ok (.getfield 16, 3) := by decide +kernel
theorem dX5_candidates_16 : decode cX5_candidates 16 = .ok (.getfield 38, 3) := by decide +kernel
theorem dX5_candidates_19 : decode cX5_candidates 19 = .ok (.if_icmp .ge 76, 3) := by decide +kernel
theorem dX5_candidates_22 : decode cX5_candidates 22 = .ok (.aload_n 0, 1) := by decide +kernel
theorem dX5_candidates_23 : decode cX5_candidates 23 = .ok (.getfield 24, 3) := by decide +kernel
theorem dX5_candidates_26 : decode cX5_candidates 26 = .ok (.iload_n 2, 1) := by decide +kernel
theorem dX5_candidates_27 : decode cX5_candidates 27 = .ok (.iconst 1, 1) := by decide +kernel
theorem dX5_candidates_28 : decode cX5_candidates 28 = .ok (.iload 4, 2) := by decide +kernel
theorem dX5_candidates_30 : decode cX5_candidates 30 = .ok (.ishl, 1) := by decide +kernel
theorem dX5_candidates_31 : decode cX5_candidates 31 = .ok (.invokevirtual 58, 3) := by decide +kernel
theorem dX5_candidates_34 : decode cX5_candidates 34 = .ok (.aload_n 0, 1) := by decide +kernel
theorem dX5_candidates_35 : decode cX5_candidates 35 = .ok (.getfield 24, 3) := by decide +kernel
theorem dX5_candidates_38 : decode cX5_candidates 38 = .ok (.invokevirtual 62, 3) := by decide +kernel
theorem dX5_candidates_41 : decode cX5_candidates 41 = .ok (.aload_n 0, 1) := by decide +kernel
theorem dX5_candidates_42 : decode cX5_candidates 42 = .ok (.iload_n 1, 1) := by decide +kernel
theorem dX5_candidates_43 : decode cX5_candidates 43 = .ok (.invokevirtual 65, 3) := by decide +kernel
theorem dX5_candidates_46 : decode cX5_candidates 46 = .ok (.ifCond .eq 43, 3) := by decide +kernel
theorem dX5_candidates_49 : decode cX5_candidates 49 = .ok (.iload_n 3, 1) := by decide +kernel
theorem dX5_candidates_50 : decode cX5_candidates 50 = .ok (.iconst 1, 1) := by decide +kernel
theorem dX5_candidates_51 : decode cX5_candidates 51 = .ok (.iload 4, 2) := by decide +kernel
theorem dX5_candidates_53 : decode cX5_candidates 53 = .ok (.ishl, 1) := by decide +kernel
theorem dX5_candidates_54 : decode cX5_candidates 54 = .ok (.ior, 1) := by decide +kernel
theorem dX5_candidates_55 : decode cX5_candidates 55 = .ok (.istore_n 3, 1) := by decide +kernel
theorem dX5_candidates_56 : decode cX5_candidates 56 = .ok (.aload_n 0, 1) := by decide +kernel
theorem dX5_candidates_57 : decode cX5_candidates 57 = .ok (.getfield 24, 3) := by decide +kernel
theorem dX5_candidates_60 : decode cX5_candidates 60 = .ok (.getfield 69, 3) := by decide +kernel
theorem dX5_candidates_63 : decode cX5_candidates 63 = .ok (.iconst 0, 1) := by decide +kernel
theorem dX5_candidates_64 : decode cX5_candidates 64 = .ok (.aload_n 0, 1) := by decide +kernel
theorem dX5_candidates_65 : decode cX5_candidates 65 = .ok (.getfield 11, 3) := by decide +kernel
theorem dX5_candidates_68 : decode cX5_candidates 68 = .ok (.aload_n 0, 1) := by decide +kernel
theorem dX5_candidates_69 : decode cX5_candidates 69 = .ok (.getfield 55, 3) := by decide +kernel
theorem dX5_candidates_72 : decode cX5_candidates 72 = .ok (.aaload, 1) := by decide +kernel
theorem dX5_candidates_73 : decode cX5_candidates 73 = .ok (.iconst 0, 1) := by decide +kernel
theorem dX5_candidates_74 : decode cX5_candidates 74 = .ok (.bipush 17, 2) := by decide +kernel
theorem dX5_candidates_76 : decode cX5_candidates 76 = .ok (.invokestatic 72, 3) := by decide +kernel
theorem dX5_candidates_79 : decode cX5_candidates 79 = .ok (.aload_n 0, 1) := by decide +kernel
theorem dX5_candidates_80 : decode cX5_candidates 80 = .ok (.dup, 1) := by decide +kernel
theorem dX5_candidates_81 : decode cX5_candidates 81 = .ok (.getfield 55, 3) := by decide +kernel
theorem dX5_candidates_84 : decode cX5_candidates 84 = .ok (.iconst 1, 1) := by decide +kernel
theorem dX5_candidates_85 : decode cX5_candidates 85 = .ok (.iadd, 1) := by decide +kernel
theorem dX5_candidates_86 : decode cX5_candidates 86 = .ok (.putfield 55, 3) := by decide +kernel
theorem dX5_candidates_89 : decode cX5_candidates 89 = .ok (.iinc 4 1, 3) := by decide +kernel
theorem dX5_candidates_92 : decode cX5_candidates 92 = .ok (.goto (-82), 3) := by decide +kernel
theorem dX5_candidates_95 : decode cX5_candidates 95 = .ok (.iload_n 3, 1) := by decide +kernel
theorem dX5_candidates_96 : decode cX5_candidates 96 = .ok (.ireturn, 1) := by decide +kernel
theorem dX5_leftAtWorst_0 : decode cX5_leftAtWorst 0 = .ok (.iconst 0, 1) := by decide +kernel
theorem dX5_leftAtWorst_1 : decode cX5_leftAtWorst 1 = .ok (.istore_n 3, 1) := by decide +kernel
theorem dX5_leftAtWorst_2 : decode cX5_leftAtWorst 2 = .ok (.iconst 0, 1) := by decide +kernel
theorem dX5_leftAtWorst_3 : decode cX5_leftAtWorst 3 = .ok (.istore 4, 2) := by decide +kernel
theorem dX5_leftAtWorst_5 : decode cX5_leftAtWorst 5 = .ok (.iconst 0, 1) := by decide +kernel
theorem dX5_leftAtWorst_6 : decode cX5_leftAtWorst 6 = .ok (.istore 5, 2) := by decide +kernel
theorem dX5_leftAtWorst_8 : decode cX5_leftAtWorst 8 = .ok (.iload 5, 2) := by decide +kernel
theorem dX5_leftAtWorst_10 : decode cX5_leftAtWorst 10 = .ok (.aload_n 0, 1) := by decide +kernel
theorem dX5_leftAtWorst_11 : decode cX5_leftAtWorst 11 = .ok (.getfield 55, 3) := by decide +kernel
theorem dX5_leftAtWorst_14 : decode cX5_leftAtWorst 14 = .ok (.if_icmp .ge 48, 3) := by decide +kernel
theorem dX5_leftAtWorst_17 : decode cX5_leftAtWorst 17 = .ok (.aload_n 0, 1) := by decide +kernel
theorem dX5_leftAtWorst_18 : decode cX5_leftAtWorst 18 = .ok (.getfield 11, 3) := by decide +kernel
theorem dX5_leftAtWorst_21 : decode cX5_leftAtWorst 21 = .ok (.iload 5, 2) := by decide +kernel
theorem dX5_leftAtWorst_23 : decode cX5_leftAtWorst 23 = .ok (.aaload, 1) := by decide +kernel
theorem dX5_leftAtWorst_24 : decode cX5_leftAtWorst 24 = .ok (.iload_n 2, 1) := by decide +kernel
theorem dX5_leftAtWorst_25 : decode cX5_leftAtWorst 25 = .ok (.iaload, 1) := by decide +kernel
theorem dX5_leftAtWorst_26 : decode cX5_leftAtWorst 26 = .ok (.istore 6, 2) := by decide +kernel
theorem dX5_leftAtWorst_28 : decode cX5_leftAtWorst 28 = .ok (.iload_n 3, 1) := by decide +kernel
theorem dX5_leftAtWorst_29 : decode cX5_leftAtWorst 29 = .ok (.iload 6, 2) := by decide +kernel
theorem dX5_leftAtWorst_31 : decode cX5_leftAtWorst 31 = .ok (.iconst 1, 1) := by decide +kernel
theorem dX5_leftAtWorst_32 : decode cX5_leftAtWorst 32 = .ok (.invokestatic 94, 3) := by decide +kernel
theorem dX5_leftAtWorst_35 : decode cX5_leftAtWorst 35 = .ok (.iload_n 1, 1) := by decide +kernel
theorem dX5_leftAtWorst_36 : decode cX5_leftAtWorst 36 = .ok (.iushr, 1) := by decide +kernel
theorem dX5_leftAtWorst_37 : decode cX5_leftAtWorst 37 = .ok (.iconst 1, 1) := by decide +kernel
theorem dX5_leftAtWorst_38 : decode cX5_leftAtWorst 38 = .ok (.iand, 1) := by decide +kernel
theorem dX5_leftAtWorst_39 : decode cX5_leftAtWorst 39 = .ok (.iadd, 1) := by decide +kernel
theorem dX5_leftAtWorst_40 : decode cX5_leftAtWorst 40 = .ok (.istore_n 3, 1) := by decide +kernel
theorem dX5_leftAtWorst_41 : decode cX5_leftAtWorst 41 = .ok (.iload 4, 2) := by decide +kernel
theorem dX5_leftAtWorst_43 : decode cX5_leftAtWorst 43 = .ok (.iload 6, 2) := by decide +kernel
theorem dX5_leftAtWorst_45 : decode cX5_leftAtWorst 45 = .ok (.iconst 2, 1) := by decide +kernel
theorem dX5_leftAtWorst_46 : decode cX5_leftAtWorst 46 = .ok (.invokestatic 94, 3) := by decide +kernel
theorem dX5_leftAtWorst_49 : decode cX5_leftAtWorst 49 = .ok (.iload_n 1, 1) := by decide +kernel
theorem dX5_leftAtWorst_50 : decode cX5_leftAtWorst 50 = .ok (.iushr, 1) := by decide +kernel
theorem dX5_leftAtWorst_51 : decode cX5_leftAtWorst 51 = .ok (.iconst 1, 1) := by decide +kernel
theorem dX5_leftAtWorst_52 : decode cX5_leftAtWorst 52 = .ok (.iand, 1) := by decide +kernel
theorem dX5_leftAtWorst_53 : decode cX5_leftAtWorst 53 = .ok (.iadd, 1) := by decide +kernel
theorem dX5_leftAtWorst_54 : decode cX5_leftAtWorst 54 = .ok (.istore 4, 2) := by decide +kernel
theorem dX5_leftAtWorst_56 : decode cX5_leftAtWorst 56 = .ok (.iinc 5 1, 3) := by decide +kernel
theorem dX5_leftAtWorst_59 : decode cX5_leftAtWorst 59 = .ok (.goto (-51), 3) := by decide +kernel
theorem dX5_leftAtWorst_62 : decode cX5_leftAtWorst 62 = .ok (.aload_n 0, 1) := by decide +kernel
theorem dX5_leftAtWorst_63 : decode cX5_leftAtWorst 63 = .ok (.getfield 55, 3) := by decide +kernel
theorem dX5_leftAtWorst_66 : decode cX5_leftAtWorst 66 = .ok (.iload_n 3, 1) := by decide +kernel
theorem dX5_leftAtWorst_67 : decode cX5_leftAtWorst 67 = .ok (.isub, 1) := by decide +kernel
theorem dX5_leftAtWorst_68 : decode cX5_leftAtWorst 68 = .ok (.iload 4, 2) := by decide +kernel
theorem dX5_leftAtWorst_70 : decode cX5_leftAtWorst 70 = .ok (.isub, 1) := by decide +kernel
theorem dX5_leftAtWorst_71 : decode cX5_leftAtWorst 71 = .ok (.iload_n 3, 1) := by decide +kernel
theorem dX5_leftAtWorst_72 : decode cX5_leftAtWorst 72 = .ok (.iload 4, 2) := by decide +kernel
theorem dX5_leftAtWorst_74 : decode cX5_leftAtWorst 74 = .ok (.invokestatic 97, 3) := by decide +kernel
theorem dX5_leftAtWorst_77 : decode cX5_leftAtWorst 77 = .ok (.invokestatic 97, 3) := by decide +kernel
theorem dX5_leftAtWorst_80 : decode cX5_leftAtWorst 80 = .ok (.ireturn, 1) := by decide +kernel
theorem dX5_seekQuestion_0 : decode cX5_seekQuestion 0 = .ok (.aload_n 0, 1) := by decide +kernel
theorem dX5_seekQuestion_1 : decode cX5_seekQuestion 1 = .ok (.iload_n 1, 1) := by decide +kernel
theorem dX5_seekQuestion_2 : decode cX5_seekQuestion 2 = .ok (.iload_n 2, 1) := by decide +kernel
theorem dX5_seekQuestion_3 : decode cX5_seekQuestion 3 = .ok (.invokevirtual 82, 3) := by decide +kernel
theorem dX5_seekQuestion_6 : decode cX5_seekQuestion 6 = .ok (.pop, 1) := by decide +kernel
theorem dX5_seekQuestion_7 : decode cX5_seekQuestion 7 = .ok (.aload_n 0, 1) := by decide +kernel
theorem dX5_seekQuestion_8 : decode cX5_seekQuestion 8 = .ok (.iconst (-1), 1) := by decide +kernel
theorem dX5_seekQuestion_9 : decode cX5_seekQuestion 9 = .ok (.putfield 85, 3) := by decide +kernel
theorem dX5_seekQuestion_12 : decode cX5_seekQuestion 12 = .ok (.aload_n 0, 1) := by decide +kernel
theorem dX5_seekQuestion_13 : decode cX5_seekQuestion 13 = .ok (.aload_n 0, 1) := by decide +kernel
theorem dX5_seekQuestion_14 : decode cX5_seekQuestion 14 = .ok (.getfield 55, 3) := by decide +kernel
theorem dX5_seekQuestion_17 : decode cX5_seekQuestion 17 = .ok (.putfield 88, 3) := by decide +kernel
theorem dX5_seekQuestion_20 : decode cX5_seekQuestion 20 = .ok (.iconst 0, 1) := by decide +kernel
theorem dX5_seekQuestion_21 : decode cX5_seekQuestion 21 = .ok (.istore_n 3, 1) := by decide +kernel
theorem dX5_seekQuestion_22 : decode cX5_seekQuestion 22 = .ok (.iload_n 3, 1) := by decide +kernel
theorem dX5_seekQuestion_23 : decode cX5_seekQuestion 23 = .ok (.aload_n 0, 1) := by decide +kernel
theorem dX5_seekQuestion_24 : decode cX5_seekQuestion 24 = .ok (.getfield 16, 3) := by decide +kernel
theorem dX5_seekQuestion_27 : decode cX5_seekQuestion 27 = .ok (.getfield 38, 3) := by decide +kernel
theorem dX5_seekQuestion_30 : decode cX5_seekQuestion 30 = .ok (.if_icmp .ge 65, 3) := by decide +kernel
theorem dX5_seekQuestion_33 : decode cX5_seekQuestion 33 = .ok (.iconst 0, 1) := by decide +kernel
theorem dX5_seekQuestion_34 : decode cX5_seekQuestion 34 = .ok (.istore 4, 2) := by decide +kernel
theorem dX5_seekQuestion_36 : decode cX5_seekQuestion 36 = .ok (.iload 4, 2) := by decide +kernel
theorem dX5_seekQuestion_38 : decode cX5_seekQuestion 38 = .ok (.aload_n 0, 1) := by decide +kernel
theorem dX5_seekQuestion_39 : decode cX5_seekQuestion 39 = .ok (.getfield 16, 3) := by decide +kernel
theorem dX5_seekQuestion_42 : decode cX5_seekQuestion 42 = .ok (.getfield 44, 3) := by decide +kernel
theorem dX5_seekQuestion_45 : decode cX5_seekQuestion 45 = .ok (.if_icmp .gt 44, 3) := by decide +kernel
theorem dX5_seekQuestion_48 : decode cX5_seekQuestion 48 = .ok (.aload_n 0, 1) := by decide +kernel
theorem dX5_seekQuestion_49 : decode cX5_seekQuestion 49 = .ok (.iload_n 3, 1) := by decide +kernel
theorem dX5_seekQuestion_50 : decode cX5_seekQuestion 50 = .ok (.iload 4, 2) := by decide +kernel
theorem dX5_seekQuestion_52 : decode cX5_seekQuestion 52 = .ok (.invokevirtual 91, 3) := by decide +kernel
theorem dX5_seekQuestion_55 : decode cX5_seekQuestion 55 = .ok (.istore 5, 2) := by decide +kernel
theorem dX5_seekQuestion_57 : decode cX5_seekQuestion 57 = .ok (.iload 5, 2) := by decide +kernel
theorem dX5_seekQuestion_59 : decode cX5_seekQuestion 59 = .ok (.aload_n 0, 1) := by decide +kernel
theorem dX5_seekQuestion_60 : decode cX5_seekQuestion 60 = .ok (.getfield 88, 3) := by decide +kernel
theorem dX5_seekQuestion_63 : decode cX5_seekQuestion 63 = .ok (.if_icmp .ge 20, 3) := by decide +kernel
theorem dX5_seekQuestion_66 : decode cX5_seekQuestion 66 = .ok (.aload_n 0, 1) := by decide +kernel
theorem dX5_seekQuestion_67 : decode cX5_seekQuestion 67 = .ok (.iload 5, 2) := by decide +kernel
theorem dX5_seekQuestion_69 : decode cX5_seekQuestion 69 = .ok (.putfield 88, 3) := by decide +kernel
theorem dX5_seekQuestion_72 : decode cX5_seekQuestion 72 = .ok (.aload_n 0, 1) := by decide +kernel
theorem dX5_seekQuestion_73 : decode cX5_seekQuestion 73 = .ok (.bipush 100, 2) := by decide +kernel
theorem dX5_seekQuestion_75 : decode cX5_seekQuestion 75 = .ok (.iload_n 3, 1) := by decide +kernel
theorem dX5_seekQuestion_76 : decode cX5_seekQuestion 76 = .ok (.imul, 1) := by decide +kernel
theorem dX5_seekQuestion_77 : decode cX5_seekQuestion 77 = .ok (.iload 4, 2) := by decide +kernel
theorem dX5_seekQuestion_79 : decode cX5_seekQuestion 79 = .ok (.iadd, 1) := by decide +kernel
theorem dX5_seekQuestion_80 : decode cX5_seekQuestion 80 = .ok (.putfield 85, 3) := by decide +kernel
theorem dX5_seekQuestion_83 : decode cX5_seekQuestion 83 = .ok (.iinc 4 1, 3) := by decide +kernel
theorem dX5_seekQuestion_86 : decode cX5_seekQuestion 86 = .ok (.goto (-50), 3) := by decide +kernel
theorem dX5_seekQuestion_89 : decode cX5_seekQuestion 89 = .ok (.iinc 3 1, 3) := by decide +kernel
theorem dX5_seekQuestion_92 : decode cX5_seekQuestion 92 = .ok (.goto (-70), 3) := by decide +kernel
theorem dX5_seekQuestion_95 : decode cX5_seekQuestion 95 = .ok (.return_, 1) := by decide +kernel
set_option maxHeartbeats 4000000 in
set_option maxRecDepth 100000 in
theorem ctX6_isEmpty (l : Launch) (D : va_G) (k : Nat → ClassId) (z : Nat → Nat) (o : Nat → Nat) (f78 : Nat → Int32) (f79 : Nat → Int32) (j : Nat) (hok : okL f79) (hj : j ≤ 3) : RO l yX6_isEmpty cX6_isEmpty 2 (some .boolean) 0 D k z [.ref (o 10), .int (nI j)] [((o 10), .inr (6, [.ref (o 77), .ref (o 78), .ref (o 79)])), ((o 78), .inl (k 0, 4, .inl f78)), ((o 79), .inl (k 0, 4, .inl f79))] (Qi (fun r : Int32 => (r = (bo (f79 j = -1))))) := by
  refine RO.of (by decide) (Nat.le_of_ble_eq_true rfl) ?_
  intro p e s m below meth c ls A B args Q S hr hlk hQ hK hP hDW hZ hAB hBA hA hS hl
  have hx := S.1
  have hb := S.2.1
  have hl : lv_has ls 2 [(0, .ref (o 10)), (1, .int (nI j))] := hl
  refine lv_aload_n hx hb dX6_isEmpty_0 rfl (lv_at hl 0 rfl) ?_
  refine x_get S hK hP 0 rfl cfX6 2 lkX6_20 (by decide) rfl dX6_isEmpty_1 ?_
  refine lv_iload_n hx hb dX6_isEmpty_4 rfl (lv_at hl 1 rfl) ?_
  refine x_iald S hK hP 2 rfl (vp_in_nI (by omega) (by decide)) dX6_isEmpty_5 ?_
  rcases hok j (by omega) with e_1 | ⟨n_2, e_1, hn_2⟩
  · skip
    refine x_is (-1) ((cl_at (f := f79) (a := j) rfl (by omega)).trans e_1) ?_
    refine lv_iconst (v := (-1)) hx hb dX6_isEmpty_6 (by decide) ?_
    refine lv_icmp_ne (tgt := 14) hx hb dX6_isEmpty_7 (by decide) (fun c_3 => absurd (by decide) c_3) (fun c_3 => ?_)
    refine lv_iconst (v := 1) hx hb dX6_isEmpty_10 (by decide) ?_
    refine lv_goto (tgt := 15) hx hb dX6_isEmpty_11 (by decide) ?_
    exact x_retz S hr hlk hQ hS rfl () (bo_t e_1).symm x_T dX6_isEmpty_15
  · skip
    refine x_is (nI n_2) ((cl_at (f := f79) (a := j) rfl (by omega)).trans e_1) ?_
    refine lv_iconst (v := (-1)) hx hb dX6_isEmpty_6 (by decide) ?_
    refine lv_icmp_ne (tgt := 14) hx hb dX6_isEmpty_7 (by decide) (fun c_4 => ?_) (fun c_4 => absurd c_4 (i32_ne (ni_gtn (a := n_2) rfl (by omega) (y := (-1)) (by decide))))
    refine lv_iconst (v := 0) hx hb dX6_isEmpty_14 (by decide) ?_
    exact x_retz S hr hlk hQ hS rfl () (bo_f (ni_nem e_1 (by omega))).symm x_T dX6_isEmpty_15

set_option maxHeartbeats 4000000 in
set_option maxRecDepth 100000 in
theorem ctX6_filled (l : Launch) (D : va_G) (k : Nat → ClassId) (z : Nat → Nat) (o : Nat → Nat) (f78 : Nat → Int32) (f79 : Nat → Int32) (hok : okL f79) : RO l yX6_filled cX6_filled 3 (some .int) 1 D k z [.ref (o 10)] [((o 10), .inr (6, [.ref (o 77), .ref (o 78), .ref (o 79)])), ((o 78), .inl (k 0, 4, .inl f78)), ((o 79), .inl (k 0, 4, .inl f79))] (Qi (fun r : Int32 => True)) := by
  refine RO.of (by decide) (Nat.le_of_ble_eq_true rfl) ?_
  intro p e s m below meth c ls A B args Q S hr hlk hQ hK hP hDW hZ hAB hBA hA hS hl
  have hx := S.1
  have hb := S.2.1
  have hl : lv_has ls 3 [(0, .ref (o 10))] := hl
  refine lv_iconst (v := 0) hx hb dX6_filled_0 (by decide) ?_
  refine lv_istore_n (lv' := [(1, .int 0), (0, .ref (o 10))]) hx hb dX6_filled_1 rfl hl (by decide) rfl (fun ls hl => ?_)
  refine lv_iconst (v := 0) hx hb dX6_filled_2 (by decide) ?_
  refine lv_istore_n (lv' := [(2, .int 0), (1, .int 0), (0, .ref (o 10))]) hx hb dX6_filled_3 rfl hl (by decide) rfl (fun ls hl => ?_)
  have lp_17 : ∀ (nn j_15 : Nat) (x_16 : Int32) (H : Heap) (locs : List Loc) (ls : Array Slot), j_15 ≤ 4 → 4 - j_15 < nn → va_P D vwCl [((o 10), .inr (6, [.ref (o 77), .ref (o 78), .ref (o 79)])), ((o 78), .inl (k 0, 4, .inl f78)), ((o 79), .inl (k 0, 4, .inl f79))] H → va_S A s.heap H locs → lv_has ls 3 [(2, .int (nI j_15)), (1, .int x_16), (0, .ref (o 10))] → W p l e (Rm 1 0 0) s m args below meth c H locs 0 0 Q (F0 m 4 ls []) := by
    intro nn
    induction nn with
    | zero => intro j_15 x_16 H locs ls hjj_15 hnj_15; exact absurd hnj_15 (by omega)
    | succ nn ihj_15 =>
      intro j_15 x_16 H locs ls hjj_15 hnj_15 hP hS hl
      refine lv_iload_n hx hb dX6_filled_4 rfl (lv_at hl 0 rfl) ?_
      refine lv_iconst (v := 4) hx hb dX6_filled_5 (by decide) ?_
      refine lv_icmp_ge (tgt := 31) hx hb dX6_filled_6 (by decide) (fun c_18 => ?_) (fun c_18 => ?_)
      · skip
        have c_18 : 4 ≤ j_15 := (ni_le (by decide) rfl (by omega) (by omega)).mp c_18
        refine lv_iload_n hx hb dX6_filled_31 rfl (lv_at hl 1 rfl) ?_
        exact x_reti S hr hlk hQ hS () trivial x_T dX6_filled_32
      · skip
        have c_18 : ¬ 4 ≤ j_15 := fun q => c_18 ((ni_le (by decide) rfl (by omega) (by omega)).mpr q)
        refine lv_iload_n hx hb dX6_filled_9 rfl (lv_at hl 1 rfl) ?_
        refine lv_aload_n hx hb dX6_filled_10 rfl (lv_at hl 2 rfl) ?_
        refine lv_iload_n hx hb dX6_filled_11 rfl (lv_at hl 0 rfl) ?_
        refine x_roVi (As := [.int (nI j_15)]) S hK hP hDW hZ hAB hBA hS hA hl mwX6_isEmpty lkX6_23 (ctX6_isEmpty l D k z o f78 f79 j_15 (hok) (by omega)) [0, 1, 2] rfl (by decide) rfl rfl rfl rfl rfl ⟨Nat.le_of_ble_eq_true rfl, Nat.le_of_ble_eq_true rfl, Nat.le_of_ble_eq_true rfl⟩ dX6_filled_12 ⟨Nat.le_of_ble_eq_true rfl, Nat.le_of_ble_eq_true rfl⟩ (fun r_19 H locs hr_19 hP hS => ?_)
        obtain rfl := hr_19
        refine lv_if_eq (tgt := 22) hx hb dX6_filled_15 (by decide) (fun c_21 => ?_) (fun c_21 => ?_)
        · skip
          have c_21 : ¬ (f79 j_15 = -1) := bo_0.mp c_21
          refine lv_iconst (v := 1) hx hb dX6_filled_22 (by decide) ?_
          refine lv_iadd hx hb dX6_filled_23 ?_
          refine lv_topi (fun v_22 ev_22 => ?_)
          refine lv_istore_n (lv' := [(1, .int v_22), (2, .int (nI j_15)), (0, .ref (o 10))]) hx hb dX6_filled_24 rfl hl (by decide) rfl (fun ls hl => ?_)
          refine lv_iinc (v := (nI (j_15 + 1))) (lv' := [(2, .int (nI (j_15 + 1))), (1, .int v_22), (0, .ref (o 10))]) hx hb dX6_filled_25 hl (k := 1) rfl (ni_inc _) (by decide) rfl (fun ls hl => ?_)
          refine lv_goto (tgt := 4) hx hb dX6_filled_28 (by decide) ?_
          exact ihj_15 (j_15 + 1) v_22 _ _ _ (by omega) (by omega) hP hS (lv_sub hl [0, 1, 2] rfl)
        · skip
          have c_21 : f79 j_15 = -1 := bo_1.mp c_21
          refine lv_iconst (v := 0) hx hb dX6_filled_18 (by decide) ?_
          refine lv_goto (tgt := 23) hx hb dX6_filled_19 (by decide) ?_
          refine lv_iadd hx hb dX6_filled_23 ?_
          refine lv_topi (fun v_23 ev_23 => ?_)
          refine lv_istore_n (lv' := [(1, .int v_23), (2, .int (nI j_15)), (0, .ref (o 10))]) hx hb dX6_filled_24 rfl hl (by decide) rfl (fun ls hl => ?_)
          refine lv_iinc (v := (nI (j_15 + 1))) (lv' := [(2, .int (nI (j_15 + 1))), (1, .int v_23), (0, .ref (o 10))]) hx hb dX6_filled_25 hl (k := 1) rfl (ni_inc _) (by decide) rfl (fun ls hl => ?_)
          refine lv_goto (tgt := 4) hx hb dX6_filled_28 (by decide) ?_
          exact ihj_15 (j_15 + 1) v_23 _ _ _ (by omega) (by omega) hP hS (lv_sub hl [0, 1, 2] rfl)
  exact lp_17 (4 + 1) 0 0 _ _ _ (by omega) (by omega) hP hS (lv_sub hl [0, 1, 2] rfl)

set_option maxHeartbeats 4000000 in
set_option maxRecDepth 100000 in
theorem ctX6_lay (l : Launch) (D : va_G) (k : Nat → ClassId) (z : Nat → Nat) (o : Nat → Nat) (rn : Nat → Nat) (fnj : Nat → Int64) (f78 : Nat → Int32) (f79 : Nat → Int32) (j : Nat) (p1 : Int32) (q : Nat) (hok : okL f79) (hj : j ≤ 3) (hq : q ≤ 60) : MU l yX6_lay cX6_lay 5 none 0 D k z [.ref (o 10), .int (nI j), .int p1, .int (nI q)] [((o 10), .inr (6, [.ref (o 77), .ref (o 78), .ref (o 79)])), ((o 77), .inl (k 6, 4, .inr (.inr (.inr (.inr (fun i => if i < 4 then some (rn i) else none)))))), ((rn j), .inl (k 2, 60, .inr (.inl fnj))), ((o 78), .inl (k 0, 4, .inl f78)), ((o 79), .inl (k 0, 4, .inl f79))] 0 0 (Uv D (fun u : (Nat → Int32) × (Nat → Nat) × (Nat → Nat → Int32) × (Nat → Nat → Int64) × (Nat → Int64) => (okL (u.2.2.1 1)) ∧ ((u.2.2.1 1) = upd f79 j (nI q)) ∧ ((u.2.2.1 0) = upd f78 j p1)) (fun u : (Nat → Int32) × (Nat → Nat) × (Nat → Nat → Int32) × (Nat → Nat → Int64) × (Nat → Int64) => [((o 10), .inr (6, [.ref (o 77), .ref (o 78), .ref (o 79)])), ((o 77), .inl (k 6, 4, .inr (.inr (.inr (.inr (fun i => if i < 4 then some (rn i) else none)))))), ((rn j), .inl (k 2, 60, .inr (.inl (u.2.2.2.1 0)))), ((o 78), .inl (k 0, 4, .inl (u.2.2.1 0))), ((o 79), .inl (k 0, 4, .inl (u.2.2.1 1)))])) := by
  refine MU.of (by decide) (Nat.le_of_ble_eq_true rfl) ?_
  intro p e s m below meth c ls A args Q S hr hlk hnm hQ hK hP hD hZ hA hS hl
  have hx := S.1
  have hb := S.2.1
  have hl : lv_has ls 5 [(0, .ref (o 10)), (1, .int (nI j)), (2, .int p1), (3, .int (nI q))] := hl
  refine lv_aload_n hx hb dX6_lay_0 rfl (lv_at hl 0 rfl) ?_
  refine x_get S hK hP 0 rfl cfX6 1 lkX6_16 (by decide) rfl dX6_lay_1 ?_
  refine lv_iload_n hx hb dX6_lay_4 rfl (lv_at hl 1 rfl) ?_
  refine lv_iload_n hx hb dX6_lay_5 rfl (lv_at hl 2 rfl) ?_
  refine x_iast (ws' := fun f_1 => [((o 10), .inr (6, [.ref (o 77), .ref (o 78), .ref (o 79)])), ((o 77), .inl (k 6, 4, .inr (.inr (.inr (.inr (fun i => if i < 4 then some (rn i) else none)))))), ((rn j), .inl (k 2, 60, .inr (.inl fnj))), ((o 78), .inl (k 0, 4, .inl f_1)), ((o 79), .inl (k 0, 4, .inl f79))]) S hK hP hD hS 3 rfl (vp_in_nI (by omega) (by decide)) (fun _ => rfl) dX6_lay_6 (fun f_1 H locs ef_1 hP hD hS => ?_)
  refine lv_aload_n hx hb dX6_lay_7 rfl (lv_at hl 0 rfl) ?_
  refine x_get S hK hP 0 rfl cfX6 2 lkX6_20 (by decide) rfl dX6_lay_8 ?_
  refine lv_iload_n hx hb dX6_lay_11 rfl (lv_at hl 1 rfl) ?_
  refine lv_iload_n hx hb dX6_lay_12 rfl (lv_at hl 3 rfl) ?_
  refine x_iast (ws' := fun f_2 => [((o 10), .inr (6, [.ref (o 77), .ref (o 78), .ref (o 79)])), ((o 77), .inl (k 6, 4, .inr (.inr (.inr (.inr (fun i => if i < 4 then some (rn i) else none)))))), ((rn j), .inl (k 2, 60, .inr (.inl fnj))), ((o 78), .inl (k 0, 4, .inl f_1)), ((o 79), .inl (k 0, 4, .inl f_2))]) S hK hP hD hS 4 rfl (vp_in_nI (by omega) (by decide)) (fun _ => rfl) dX6_lay_13 (fun f_2 H locs ef_2 hP hD hS => ?_)
  have hif_2 : okL f_2 := okL_up ef_2 hok (q := q) rfl (by omega)
  refine lv_iconst (v := 0) hx hb dX6_lay_14 (by decide) ?_
  refine lv_istore (lv' := [(4, .int 0), (0, .ref (o 10)), (1, .int (nI j)), (2, .int p1), (3, .int (nI q))]) hx hb dX6_lay_15 hl (by decide) rfl (fun ls hl => ?_)
  have lp_13 : ∀ (nn j_11 : Nat) (g_12 : Nat → Int64) (H : Heap) (locs : List Loc) (ls : Array Slot), j_11 ≤ 60 → 60 - j_11 < nn → va_P D vwCl [((o 10), .inr (6, [.ref (o 77), .ref (o 78), .ref (o 79)])), ((o 77), .inl (k 6, 4, .inr (.inr (.inr (.inr (fun i => if i < 4 then some (rn i) else none)))))), ((rn j), .inl (k 2, 60, .inr (.inl g_12))), ((o 78), .inl (k 0, 4, .inl f_1)), ((o 79), .inl (k 0, 4, .inl f_2))] H → va_D A [((o 10), .inr (6, [.ref (o 77), .ref (o 78), .ref (o 79)])), ((o 77), .inl (k 6, 4, .inr (.inr (.inr (.inr (fun i => if i < 4 then some (rn i) else none)))))), ((rn j), .inl (k 2, 60, .inr (.inl g_12))), ((o 78), .inl (k 0, 4, .inl f_1)), ((o 79), .inl (k 0, 4, .inl f_2))] → va_S A s.heap H locs → lv_has ls 5 [(4, .int (nI j_11)), (0, .ref (o 10)), (1, .int (nI j)), (2, .int p1), (3, .int (nI q))] → W p l e (Rm 0 0 0) s m args below meth c H locs 0 0 Q (F0 m 17 ls []) := by
    intro nn
    induction nn with
    | zero => intro j_11 g_12 H locs ls hjj_11 hnj_11; exact absurd hnj_11 (by omega)
    | succ nn ihj_11 =>
      intro j_11 g_12 H locs ls hjj_11 hnj_11 hP hD hS hl
      refine lv_iload hx hb dX6_lay_17 (lv_at hl 0 rfl) ?_
      refine lv_bipush (v := 60) hx hb dX6_lay_19 (by decide) ?_
      refine lv_icmp_ge (tgt := 40) hx hb dX6_lay_21 (by decide) (fun c_14 => ?_) (fun c_14 => ?_)
      · skip
        have c_14 : 60 ≤ j_11 := (ni_le (by decide) rfl (by omega) (by omega)).mp c_14
        exact x_retv S hr hlk hQ hS ((fun i => ([] : List (Int32)).getD i 0), (fun i => ([] : List (Nat)).getD i 0), (fun i => ([f_1, f_2] : List (Nat → Int32)).getD i (fun _ => 0)), (fun i => ([g_12] : List (Nat → Int64)).getD i (fun _ => 0)), (fun i => ([] : List (Int64)).getD i 0)) ⟨hif_2, (ef_2.trans (upd_cl rfl (by omega))), (ef_1.trans (upd_cl rfl (by omega)))⟩ (x_B hP hD) dX6_lay_40
      · skip
        have c_14 : ¬ 60 ≤ j_11 := fun q => c_14 ((ni_le (by decide) rfl (by omega) (by omega)).mpr q)
        refine lv_aload_n hx hb dX6_lay_24 rfl (lv_at hl 1 rfl) ?_
        refine x_get S hK hP 0 rfl cfX6 0 lkX6_11 (by decide) rfl dX6_lay_25 ?_
        refine lv_iload_n hx hb dX6_lay_28 rfl (lv_at hl 2 rfl) ?_
        refine x_Jald (v := (rn j)) S hK hP 1 rfl (vp_in_nI (by omega) (by decide)) (gr_at rfl (by omega) (by omega)) dX6_lay_29 ?_
        refine lv_iload hx hb dX6_lay_30 (lv_at hl 0 rfl) ?_
        refine lv_lconst (v := 0) hx hb dX6_lay_32 (by decide) ?_
        refine x_last (ws' := fun f_15 => [((o 10), .inr (6, [.ref (o 77), .ref (o 78), .ref (o 79)])), ((o 77), .inl (k 6, 4, .inr (.inr (.inr (.inr (fun i => if i < 4 then some (rn i) else none)))))), ((rn j), .inl (k 2, 60, .inr (.inl f_15))), ((o 78), .inl (k 0, 4, .inl f_1)), ((o 79), .inl (k 0, 4, .inl f_2))]) S hK hP hD hS 2 rfl (vp_in_nI (by omega) (by decide)) (fun _ => rfl) dX6_lay_33 (fun f_15 H locs ef_15 hP hD hS => ?_)
        refine lv_iinc (v := (nI (j_11 + 1))) (lv' := [(4, .int (nI (j_11 + 1))), (0, .ref (o 10)), (1, .int (nI j)), (2, .int p1), (3, .int (nI q))]) hx hb dX6_lay_34 hl (k := 0) rfl (ni_inc _) (by decide) rfl (fun ls hl => ?_)
        refine lv_goto (tgt := 17) hx hb dX6_lay_37 (by decide) ?_
        exact ihj_11 (j_11 + 1) f_15 _ _ _ (by omega) (by omega) hP hD hS (lv_sub hl [0, 1, 2, 3, 4] rfl)
  exact lp_13 (60 + 1) 0 fnj _ _ _ (by omega) (by omega) hP hD hS (lv_sub hl [0, 1, 2, 3, 4] rfl)

theorem lsctX6_cut_1 (x : Int32) (h0 : ¬ x = 0) (h1 : ¬ x = 1) (h2 : ¬ x = 2) : x.toInt < 0 ∨ 2 < x.toInt := by
  simp only [fa_eq, tz_0, tz_1, tz_2] at *
  omega
set_option maxHeartbeats 4000000 in
set_option maxRecDepth 100000 in
theorem ctX6_cut (l : Launch) (D : va_G) (k : Nat → ClassId) (z : Nat → Nat) (p0 : Int64) (p1 : Int32)  : RO l yX6_cut cX6_cut 3 (some .long) 0 D k z [.long p0, .int p1] [] (Ql (fun r : Int64 => True)) := by
  refine RO.of (by decide) (Nat.le_of_ble_eq_true rfl) ?_
  intro p e s m below meth c ls A B args Q S hr hlk hQ hK hP hDW hZ hAB hBA hA hS hl
  have hx := S.1
  have hb := S.2.1
  have hl : lv_has ls 3 [(0, .long p0), (2, .int p1)] := hl
  refine lv_iload_n hx hb dX6_cut_0 rfl (lv_at hl 1 rfl) ?_
  by_cases c_1 : p1 = 0
  · skip
    refine x_is 0 c_1 ?_
    refine lv_tableIn (tgt := 28) hx hb dX6_cut_1 (by decide) (by decide) rfl (by decide) ?_
    refine lv_lload_n hx hb dX6_cut_28 rfl (lv_at hl 0 rfl) ?_
    refine lv_l2i hx hb dX6_cut_29 rfl ?_
    refine lv_topi (fun v_2 ev_2 => ?_)
    refine lv_i2b hx hb dX6_cut_30 rfl ?_
    refine lv_topi (fun v_3 ev_3 => ?_)
    refine lv_i2l (v := v_3.toInt64) hx hb dX6_cut_31 rfl ?_
    exact x_retl S hr hlk hQ hS () trivial x_T dX6_cut_32
  by_cases c_4 : p1 = 1
  · skip
    refine x_is 1 c_4 ?_
    refine lv_tableIn (tgt := 33) hx hb dX6_cut_1 (by decide) (by decide) rfl (by decide) ?_
    refine lv_lload_n hx hb dX6_cut_33 rfl (lv_at hl 0 rfl) ?_
    refine lv_l2i hx hb dX6_cut_34 rfl ?_
    refine lv_topi (fun v_5 ev_5 => ?_)
    refine lv_i2s hx hb dX6_cut_35 rfl ?_
    refine lv_topi (fun v_6 ev_6 => ?_)
    refine lv_i2l (v := v_6.toInt64) hx hb dX6_cut_36 rfl ?_
    exact x_retl S hr hlk hQ hS () trivial x_T dX6_cut_37
  by_cases c_7 : p1 = 2
  · skip
    refine x_is 2 c_7 ?_
    refine lv_tableIn (tgt := 38) hx hb dX6_cut_1 (by decide) (by decide) rfl (by decide) ?_
    refine lv_lload_n hx hb dX6_cut_38 rfl (lv_at hl 0 rfl) ?_
    refine lv_l2i hx hb dX6_cut_39 rfl ?_
    refine lv_topi (fun v_8 ev_8 => ?_)
    refine lv_i2l (v := v_8.toInt64) hx hb dX6_cut_40 rfl ?_
    exact x_retl S hr hlk hQ hS () trivial x_T dX6_cut_41
  refine lv_tableOut (tgt := 42) hx hb dX6_cut_1 (lsctX6_cut_1 _ c_1 c_4 c_7) (by decide) ?_
  refine lv_lload_n hx hb dX6_cut_42 rfl (lv_at hl 0 rfl) ?_
  exact x_retl S hr hlk hQ hS () trivial x_T dX6_cut_43

set_option maxHeartbeats 4000000 in
set_option maxRecDepth 100000 in
theorem ctX6_put (l : Launch) (D : va_G) (k : Nat → ClassId) (z : Nat → Nat) (o : Nat → Nat) (rn : Nat → Nat) (fnj : Nat → Int64) (f78 : Nat → Int32) (f79 : Nat → Int32) (j : Nat) (ix : Nat) (v : Int64) (hok : okL f79) (hj : j ≤ 3) (hix : ix ≤ 59) : MU l yX6_put cX6_put 5 none 1 D k z [.ref (o 10), .int (nI j), .int (nI ix), .long v] [((o 10), .inr (6, [.ref (o 77), .ref (o 78), .ref (o 79)])), ((o 77), .inl (k 6, 4, .inr (.inr (.inr (.inr (fun i => if i < 4 then some (rn i) else none)))))), ((rn j), .inl (k 2, 60, .inr (.inl fnj))), ((o 78), .inl (k 0, 4, .inl f78)), ((o 79), .inl (k 0, 4, .inl f79))] 0 0 (Uv D (fun _ : (Nat → Int32) × (Nat → Nat) × (Nat → Nat → Int32) × (Nat → Nat → Int64) × (Nat → Int64) => True) (fun u : (Nat → Int32) × (Nat → Nat) × (Nat → Nat → Int32) × (Nat → Nat → Int64) × (Nat → Int64) => [((o 10), .inr (6, [.ref (o 77), .ref (o 78), .ref (o 79)])), ((o 77), .inl (k 6, 4, .inr (.inr (.inr (.inr (fun i => if i < 4 then some (rn i) else none)))))), ((rn j), .inl (k 2, 60, .inr (.inl (u.2.2.2.1 0)))), ((o 78), .inl (k 0, 4, .inl f78)), ((o 79), .inl (k 0, 4, .inl f79))])) := by
  refine MU.of (by decide) (Nat.le_of_ble_eq_true rfl) ?_
  intro p e s m below meth c ls A args Q S hr hlk hnm hQ hK hP hD hZ hA hS hl
  have hx := S.1
  have hb := S.2.1
  have hl : lv_has ls 5 [(0, .ref (o 10)), (1, .int (nI j)), (2, .int (nI ix)), (3, .long v)] := hl
  refine lv_aload_n hx hb dX6_put_0 rfl (lv_at hl 0 rfl) ?_
  refine x_get S hK hP 0 rfl cfX6 0 lkX6_11 (by decide) rfl dX6_put_1 ?_
  refine lv_iload_n hx hb dX6_put_4 rfl (lv_at hl 1 rfl) ?_
  refine x_Jald (v := (rn j)) S hK hP 1 rfl (vp_in_nI (by omega) (by decide)) (gr_at rfl (by omega) (by omega)) dX6_put_5 ?_
  refine lv_iload_n hx hb dX6_put_6 rfl (lv_at hl 2 rfl) ?_
  refine lv_lload_n hx hb dX6_put_7 rfl (lv_at hl 3 rfl) ?_
  refine lv_aload_n hx hb dX6_put_8 rfl (lv_at hl 0 rfl) ?_
  refine x_get S hK hP 0 rfl cfX6 1 lkX6_16 (by decide) rfl dX6_put_9 ?_
  refine lv_iload_n hx hb dX6_put_12 rfl (lv_at hl 1 rfl) ?_
  refine x_iald S hK hP 3 rfl (vp_in_nI (by omega) (by decide)) dX6_put_13 ?_
  refine lv_topi (fun v_1 ev_1 => ?_)
  refine x_roSl (As := [.long v, .int v_1]) S hK hP hD hZ (fun _ h => h) hA hS hA hl mwX6_cut lkX6_27 (ctX6_cut l D k z v v_1 ) [] rfl (by decide) rfl rfl ⟨Nat.le_of_ble_eq_true rfl, Nat.le_of_ble_eq_true rfl, Nat.le_of_ble_eq_true rfl⟩ dX6_put_14 ⟨Nat.le_of_ble_eq_true rfl, Nat.le_of_ble_eq_true rfl⟩ (fun r_2 H locs hr_2 hP hS => ?_)
  refine x_last (ws' := fun f_4 => [((o 10), .inr (6, [.ref (o 77), .ref (o 78), .ref (o 79)])), ((o 77), .inl (k 6, 4, .inr (.inr (.inr (.inr (fun i => if i < 4 then some (rn i) else none)))))), ((rn j), .inl (k 2, 60, .inr (.inl f_4))), ((o 78), .inl (k 0, 4, .inl f78)), ((o 79), .inl (k 0, 4, .inl f79))]) S hK hP hD hS 2 rfl (vp_in_nI (by omega) (by decide)) (fun _ => rfl) dX6_put_17 (fun f_4 H locs ef_4 hP hD hS => ?_)
  exact x_retv S hr hlk hQ hS ((fun i => ([] : List (Int32)).getD i 0), (fun i => ([] : List (Nat)).getD i 0), (fun i => ([] : List (Nat → Int32)).getD i (fun _ => 0)), (fun i => ([f_4] : List (Nat → Int64)).getD i (fun _ => 0)), (fun i => ([] : List (Int64)).getD i 0)) trivial (x_B hP hD) dX6_put_18

set_option maxHeartbeats 4000000 in
set_option maxRecDepth 100000 in
theorem ctX6_reaches (l : Launch) (D : va_G) (k : Nat → ClassId) (z : Nat → Nat) (o : Nat → Nat) (f78 : Nat → Int32) (f79 : Nat → Int32) (j : Nat) (q : Nat) (p1 : Int32) (p2 : Int32) (hok : okL f79) (hj : j ≤ 3) (hq : q ≤ 60) (hlen : f79 j = nI q) : RO l yX6_reaches cX6_reaches 4 (some .boolean) 0 D k z [.ref (o 10), .int (nI j), .int p1, .int p2] [((o 10), .inr (6, [.ref (o 77), .ref (o 78), .ref (o 79)])), ((o 78), .inl (k 0, 4, .inl f78)), ((o 79), .inl (k 0, 4, .inl f79))] (Qi (fun r : Int32 => (r = (bo (rch (f79 j) p1 p2))))) := by
  refine RO.of (by decide) (Nat.le_of_ble_eq_true rfl) ?_
  intro p e s m below meth c ls A B args Q S hr hlk hQ hK hP hDW hZ hAB hBA hA hS hl
  have hx := S.1
  have hb := S.2.1
  have hl : lv_has ls 4 [(0, .ref (o 10)), (1, .int (nI j)), (2, .int p1), (3, .int p2)] := hl
  refine lv_iload_n hx hb dX6_reaches_0 rfl (lv_at hl 2 rfl) ?_
  refine lv_if_lt (tgt := 34) hx hb dX6_reaches_1 (by decide) (fun c_1 => ?_) (fun c_1 => ?_)
  · skip
    refine lv_iconst (v := 0) hx hb dX6_reaches_34 (by decide) ?_
    exact x_retz S hr hlk hQ hS rfl () (bo_f (fun h => h.1 c_1)).symm x_T dX6_reaches_35
  · skip
    obtain ⟨ka, hka, eka⟩ : ∃ ka : Nat, ka < 2147483648 ∧ p1 = nI ka := natp c_1
    have hl : lv_has ls 4 [(0, .ref (o 10)), (1, .int (nI j)), (2, .int (nI ka)), (3, .int p2)] := by rw [eka] at hl; exact hl
    refine lv_iload_n hx hb dX6_reaches_4 rfl (lv_at hl 3 rfl) ?_
    refine lv_if_lt (tgt := 34) hx hb dX6_reaches_5 (by decide) (fun c_2 => ?_) (fun c_2 => ?_)
    · skip
      refine lv_iconst (v := 0) hx hb dX6_reaches_34 (by decide) ?_
      exact x_retz S hr hlk hQ hS rfl () (bo_f (fun h => h.2.1 c_2)).symm x_T dX6_reaches_35
    · skip
      obtain ⟨kn, hkn, ekn⟩ : ∃ kn : Nat, kn < 2147483648 ∧ p2 = nI kn := natp c_2
      have hl : lv_has ls 4 [(0, .ref (o 10)), (1, .int (nI j)), (2, .int (nI ka)), (3, .int (nI kn))] := by rw [ekn] at hl; exact hl
      refine lv_iload_n hx hb dX6_reaches_8 rfl (lv_at hl 2 rfl) ?_
      refine lv_aload_n hx hb dX6_reaches_9 rfl (lv_at hl 0 rfl) ?_
      refine x_get S hK hP 0 rfl cfX6 2 lkX6_20 (by decide) rfl dX6_reaches_10 ?_
      refine lv_iload_n hx hb dX6_reaches_13 rfl (lv_at hl 1 rfl) ?_
      refine x_iald S hK hP 2 rfl (vp_in_nI (by omega) (by decide)) dX6_reaches_14 ?_
      refine x_is (nI q) ((cl_at (f := f79) (a := j) rfl (by omega)).trans hlen) ?_
      refine lv_icmp_gt (tgt := 34) hx hb dX6_reaches_15 (by decide) (fun c_3 => ?_) (fun c_3 => ?_)
      · skip
        have c_3 : q < ka := (ni_lt rfl rfl (by omega) (by omega)).mp c_3
        refine lv_iconst (v := 0) hx hb dX6_reaches_34 (by decide) ?_
        exact x_retz S hr hlk hQ hS rfl () (bo_f (fun h => absurd ((rch_le hlen eka ekn (by omega) (by omega) (by omega)).mp h.2.2) (by omega))).symm x_T dX6_reaches_35
      · skip
        have c_3 : ¬ q < ka := fun q => c_3 ((ni_lt rfl rfl (by omega) (by omega)).mpr q)
        refine lv_iload_n hx hb dX6_reaches_18 rfl (lv_at hl 3 rfl) ?_
        refine lv_aload_n hx hb dX6_reaches_19 rfl (lv_at hl 0 rfl) ?_
        refine x_get S hK hP 0 rfl cfX6 2 lkX6_20 (by decide) rfl dX6_reaches_20 ?_
        refine lv_iload_n hx hb dX6_reaches_23 rfl (lv_at hl 1 rfl) ?_
        refine x_iald S hK hP 2 rfl (vp_in_nI (by omega) (by decide)) dX6_reaches_24 ?_
        refine x_is (nI q) ((cl_at (f := f79) (a := j) rfl (by omega)).trans hlen) ?_
        refine lv_iload_n hx hb dX6_reaches_25 rfl (lv_at hl 2 rfl) ?_
        refine lv_isub hx hb dX6_reaches_26 ?_
        refine x_is (nI (q - ka)) (ni_sub rfl rfl (by omega)) ?_
        refine lv_icmp_gt (tgt := 34) hx hb dX6_reaches_27 (by decide) (fun c_4 => ?_) (fun c_4 => ?_)
        · skip
          have c_4 : q - ka < kn := (ni_lt rfl rfl (by omega) (by omega)).mp c_4
          refine lv_iconst (v := 0) hx hb dX6_reaches_34 (by decide) ?_
          exact x_retz S hr hlk hQ hS rfl () (bo_f (fun h => absurd ((rch_le hlen eka ekn (by omega) (by omega) (by omega)).mp h.2.2) (by omega))).symm x_T dX6_reaches_35
        · skip
          have c_4 : ¬ q - ka < kn := fun q => c_4 ((ni_lt rfl rfl (by omega) (by omega)).mpr q)
          refine lv_iconst (v := 1) hx hb dX6_reaches_30 (by decide) ?_
          refine lv_goto (tgt := 35) hx hb dX6_reaches_31 (by decide) ?_
          exact x_retz S hr hlk hQ hS rfl () (bo_t ⟨c_1, c_2, (rch_le hlen eka ekn (by omega) (by omega) (by omega)).mpr (by omega)⟩).symm x_T dX6_reaches_35

set_option maxHeartbeats 4000000 in
set_option maxRecDepth 100000 in
theorem ctX5_isSound (l : Launch) (D : va_G) (k : Nat → ClassId) (z : Nat → Nat) (o : Nat → Nat) (sfit : Nat) (squestion : Int32) (sleft : Int32) (rn : Nat → Nat) (fnj : Nat → Int64) (f78 : Nat → Int32) (f79 : Nat → Int32) (tlawNow : Int32) (tharder : Int32) (ttold : Int32) (treply : Int32) (twet : Int32) (f73 : Nat → Int32) (f69 : Nat → Int32) (f70 : Nat → Int32) (f71 : Nat → Int32) (glines : Int32) (ghours : Nat) (glaw : Int32) (godds : Int32) (grows : Nat) (gheads : Nat) (gsayings : Nat) (gslugs : Nat) (gacts : Nat) (f26 : Nat → Int32) (f30 : Nat → Int32) (f31 : Nat → Int32) (j : Nat) (q : Nat) (hsfit : sfit ≤ 12) (hok : okL f79) (hghours : ghours ≤ 16) (hgrows : grows ≤ 4) (hgheads : gheads ≤ 12) (hgsayings : gsayings ≤ 8) (hgslugs : gslugs ≤ 4) (hgacts : gacts ≤ 30) (hj : j ≤ 3) (hq : q ≤ 60) (hlen : f79 j = nI q) : RO l yX5_isSound cX5_isSound 8 (some .boolean) 0 D k z [.ref (o 11), .int (nI j)] [((o 11), .inr (5, [.ref (o 3), .ref (o 10), .ref (o 6), .ref (o 80), .int (nI sfit), .int squestion, .int sleft])), ((o 10), .inr (6, [.ref (o 77), .ref (o 78), .ref (o 79)])), ((o 77), .inl (k 6, 4, .inr (.inr (.inr (.inr (fun i => if i < 4 then some (rn i) else none)))))), ((rn j), .inl (k 2, 60, .inr (.inl fnj))), ((o 78), .inl (k 0, 4, .inl f78)), ((o 79), .inl (k 0, 4, .inl f79)), ((o 6), .inr (1, [.ref (o 3), .ref (o 4), .int tlawNow, .int tharder, .int ttold, .int treply, .int twet, .ref (o 73)])), ((o 73), .inl (k 0, 17, .inl f73)), ((o 4), .inr (3, [.ref (o 69), .ref (o 70), .ref (o 71)])), ((o 69), .inl (k 0, 17, .inl f69)), ((o 70), .inl (k 0, 17, .inl f70)), ((o 71), .inl (k 0, 17, .inl f71)), ((o 3), .inr (2, [.int glines, .int (nI ghours), .int glaw, .int godds, .int (nI grows), .int (nI gheads), .int (nI gsayings), .int (nI gslugs), .int (nI gacts), .ref (o 26), .ref (o 27), .ref (o 28), .ref (o 29), .ref (o 30), .ref (o 31), .ref (o 32), .ref (o 33), .ref (o 34), .ref (o 35)])), ((o 26), .inl (k 0, 12, .inl f26)), ((o 30), .inl (k 0, 12, .inl f30)), ((o 31), .inl (k 0, 12, .inl f31))] (Qi (fun r : Int32 => (r = 0 ∨ sound fnj q ghours))) := by
  refine RO.of (by decide) (Nat.le_of_ble_eq_true rfl) ?_
  intro p e s m below meth c ls A B args Q S hr hlk hQ hK hP hDW hZ hAB hBA hA hS hl
  have hx := S.1
  have hb := S.2.1
  have hl : lv_has ls 8 [(0, .ref (o 11)), (1, .int (nI j))] := hl
  refine lv_aload_n hx hb dX5_isSound_0 rfl (lv_at hl 0 rfl) ?_
  refine x_get S hK hP 0 rfl cfX5 1 lkX5_20 (by decide) rfl dX5_isSound_1 ?_
  refine x_get S hK hP 1 rfl cfX6 2 lkX5_28 (by decide) rfl dX5_isSound_4 ?_
  refine lv_iload_n hx hb dX5_isSound_7 rfl (lv_at hl 1 rfl) ?_
  refine x_iald S hK hP 5 rfl (vp_in_nI (by omega) (by decide)) dX5_isSound_8 ?_
  refine x_is (nI q) ((cl_at (f := f79) (a := j) rfl (by omega)).trans hlen) ?_
  refine lv_istore_n (lv' := [(2, .int (nI q)), (0, .ref (o 11)), (1, .int (nI j))]) hx hb dX5_isSound_9 rfl hl (by decide) rfl (fun ls hl => ?_)
  refine lv_iload_n hx hb dX5_isSound_10 rfl (lv_at hl 0 rfl) ?_
  refine lv_iconst (v := 3) hx hb dX5_isSound_11 (by decide) ?_
  refine lv_irem hx hb dX5_isSound_12 (by decide) ?_
  refine x_is (nI (q % 3)) (ni_rem rfl (by decide) (by omega) (by decide) (by decide)) ?_
  refine lv_if_eq (tgt := 18) hx hb dX5_isSound_13 (by decide) (fun c_1 => ?_) (fun c_1 => ?_)
  · skip
    have c_1 : q % 3 = 0 := (ni_eq rfl (by decide) (by omega) (by omega)).mp c_1
    refine lv_aload_n hx hb dX5_isSound_18 rfl (lv_at hl 1 rfl) ?_
    refine x_get S hK hP 0 rfl cfX5 1 lkX5_20 (by decide) rfl dX5_isSound_19 ?_
    refine x_get S hK hP 1 rfl cfX6 0 lkX5_34 (by decide) rfl dX5_isSound_22 ?_
    refine lv_iload_n hx hb dX5_isSound_25 rfl (lv_at hl 2 rfl) ?_
    refine x_Jald (v := (rn j)) S hK hP 2 rfl (vp_in_nI (by omega) (by decide)) (gr_at rfl (by omega) (by omega)) dX5_isSound_26 ?_
    refine lv_astore_n (lv' := [(3, .ref (rn j)), (2, .int (nI q)), (0, .ref (o 11)), (1, .int (nI j))]) hx hb dX5_isSound_27 rfl hl (by decide) rfl (fun ls hl => ?_)
    refine lv_iconst (v := 0) hx hb dX5_isSound_28 (by decide) ?_
    refine lv_istore (lv' := [(4, .int 0), (3, .ref (rn j)), (2, .int (nI q)), (0, .ref (o 11)), (1, .int (nI j))]) hx hb dX5_isSound_29 hl (by decide) rfl (fun ls hl => ?_)
    have lp_96 : ∀ (nn j_95 : Nat)  (H : Heap) (locs : List Loc) (ls : Array Slot), j_95 ≤ q + 1 → q + 1 - j_95 < nn → j_95 % 3 = 0 → (sound fnj (j_95 + 1) ghours) → va_P D vwCl [((o 11), .inr (5, [.ref (o 3), .ref (o 10), .ref (o 6), .ref (o 80), .int (nI sfit), .int squestion, .int sleft])), ((o 10), .inr (6, [.ref (o 77), .ref (o 78), .ref (o 79)])), ((o 77), .inl (k 6, 4, .inr (.inr (.inr (.inr (fun i => if i < 4 then some (rn i) else none)))))), ((rn j), .inl (k 2, 60, .inr (.inl fnj))), ((o 78), .inl (k 0, 4, .inl f78)), ((o 79), .inl (k 0, 4, .inl f79)), ((o 6), .inr (1, [.ref (o 3), .ref (o 4), .int tlawNow, .int tharder, .int ttold, .int treply, .int twet, .ref (o 73)])), ((o 73), .inl (k 0, 17, .inl f73)), ((o 4), .inr (3, [.ref (o 69), .ref (o 70), .ref (o 71)])), ((o 69), .inl (k 0, 17, .inl f69)), ((o 70), .inl (k 0, 17, .inl f70)), ((o 71), .inl (k 0, 17, .inl f71)), ((o 3), .inr (2, [.int glines, .int (nI ghours), .int glaw, .int godds, .int (nI grows), .int (nI gheads), .int (nI gsayings), .int (nI gslugs), .int (nI gacts), .ref (o 26), .ref (o 27), .ref (o 28), .ref (o 29), .ref (o 30), .ref (o 31), .ref (o 32), .ref (o 33), .ref (o 34), .ref (o 35)])), ((o 26), .inl (k 0, 12, .inl f26)), ((o 30), .inl (k 0, 12, .inl f30)), ((o 31), .inl (k 0, 12, .inl f31))] H → va_S A s.heap H locs → lv_has ls 8 [(4, .int (nI j_95)), (3, .ref (rn j)), (2, .int (nI q)), (0, .ref (o 11)), (1, .int (nI j))] → W p l e (Rm 0 0 0) s m args below meth c H locs 0 0 Q (F0 m 31 ls []) := by
      intro nn
      induction nn with
      | zero => intro j_95  H locs ls hjj_95 hnj_95 hm3j_95 hsd; exact absurd hnj_95 (by omega)
      | succ nn ihj_95 =>
        intro j_95  H locs ls hjj_95 hnj_95 hm3j_95 hsd hP hS hl
        refine lv_iload hx hb dX5_isSound_31 (lv_at hl 0 rfl) ?_
        refine lv_iconst (v := 2) hx hb dX5_isSound_33 (by decide) ?_
        refine lv_iadd hx hb dX5_isSound_34 ?_
        refine x_is (nI (j_95 + 2)) (ni_add rfl (by decide)) ?_
        refine lv_iload_n hx hb dX5_isSound_35 rfl (lv_at hl 2 rfl) ?_
        refine lv_icmp_ge (tgt := 161) hx hb dX5_isSound_36 (by decide) (fun c_97 => ?_) (fun c_97 => ?_)
        · skip
          have c_97 : q ≤ j_95 + 2 := (ni_le rfl rfl (by omega) (by omega)).mp c_97
          refine lv_iconst (v := 1) hx hb dX5_isSound_161 (by decide) ?_
          exact x_retz S hr hlk hQ hS rfl () (Or.inr (sound_end hsd (by omega) (by omega))) x_T dX5_isSound_162
        · skip
          have c_97 : ¬ q ≤ j_95 + 2 := fun q => c_97 ((ni_le rfl rfl (by omega) (by omega)).mpr q)
          refine lv_aload_n hx hb dX5_isSound_39 rfl (lv_at hl 1 rfl) ?_
          refine lv_iload hx hb dX5_isSound_40 (lv_at hl 0 rfl) ?_
          refine x_lald S hK hP 3 rfl (vp_in_nI (by omega) (by decide)) dX5_isSound_42 ?_
          refine lv_topl (fun v_98 ev_98 => ?_)
          refine lv_lconst (v := 0) hx hb dX5_isSound_43 (by decide) ?_
          refine W.lcmp hx hb dX5_isSound_44 ?_
          refine lv_if_lt (tgt := 68) hx hb dX5_isSound_45 (by decide) (fun c_99 => ?_) (fun c_99 => ?_)
          · skip
            have c_99 : v_98 < 0 := (lg_cmp_lt _ _).mp c_99
            refine lv_iconst (v := 0) hx hb dX5_isSound_68 (by decide) ?_
            refine lv_istore (lv' := [(5, .int 0), (4, .int (nI j_95)), (3, .ref (rn j)), (2, .int (nI q)), (0, .ref (o 11)), (1, .int (nI j))]) hx hb dX5_isSound_69 hl (by decide) rfl (fun ls hl => ?_)
            refine lv_aload_n hx hb dX5_isSound_71 rfl (lv_at hl 2 rfl) ?_
            refine lv_iload hx hb dX5_isSound_72 (lv_at hl 1 rfl) ?_
            refine lv_iconst (v := 1) hx hb dX5_isSound_74 (by decide) ?_
            refine lv_iadd hx hb dX5_isSound_75 ?_
            refine x_is (nI (j_95 + 1)) (ni_add rfl (by decide)) ?_
            refine x_lald S hK hP 3 rfl (vp_in_nI (by omega) (by decide)) dX5_isSound_76 ?_
            refine lv_topl (fun v_100 ev_100 => ?_)
            refine lv_lconst (v := 0) hx hb dX5_isSound_77 (by decide) ?_
            refine W.lcmp hx hb dX5_isSound_78 ?_
            refine lv_if_lt (tgt := 104) hx hb dX5_isSound_79 (by decide) (fun c_101 => ?_) (fun c_101 => ?_)
            · skip
              have c_101 : v_100 < 0 := (lg_cmp_lt _ _).mp c_101
              refine lv_iconst (v := 0) hx hb dX5_isSound_104 (by decide) ?_
              refine lv_istore (lv' := [(6, .int 0), (5, .int 0), (4, .int (nI j_95)), (3, .ref (rn j)), (2, .int (nI q)), (0, .ref (o 11)), (1, .int (nI j))]) hx hb dX5_isSound_105 hl (by decide) rfl (fun ls hl => ?_)
              refine lv_aload_n hx hb dX5_isSound_107 rfl (lv_at hl 3 rfl) ?_
              refine lv_iload hx hb dX5_isSound_108 (lv_at hl 2 rfl) ?_
              refine lv_iconst (v := 2) hx hb dX5_isSound_110 (by decide) ?_
              refine lv_iadd hx hb dX5_isSound_111 ?_
              refine x_is (nI (j_95 + 2)) (ni_add rfl (by decide)) ?_
              refine x_lald S hK hP 3 rfl (vp_in_nI (by omega) (by decide)) dX5_isSound_112 ?_
              refine lv_topl (fun v_102 ev_102 => ?_)
              refine lv_lconst (v := 0) hx hb dX5_isSound_113 (by decide) ?_
              refine W.lcmp hx hb dX5_isSound_114 ?_
              refine lv_if_lt (tgt := 135) hx hb dX5_isSound_115 (by decide) (fun c_103 => ?_) (fun c_103 => ?_)
              · skip
                have c_103 : v_102 < 0 := (lg_cmp_lt _ _).mp c_103
                refine lv_iconst (v := 0) hx hb dX5_isSound_135 (by decide) ?_
                refine lv_istore (lv' := [(7, .int 0), (6, .int 0), (5, .int 0), (4, .int (nI j_95)), (3, .ref (rn j)), (2, .int (nI q)), (0, .ref (o 11)), (1, .int (nI j))]) hx hb dX5_isSound_136 hl (by decide) rfl (fun ls hl => ?_)
                refine lv_iload hx hb dX5_isSound_138 (lv_at hl 2 rfl) ?_
                refine lv_if_eq (tgt := 153) hx hb dX5_isSound_140 (by decide) (fun c_104 => ?_) (fun c_104 => absurd (by decide) c_104)
                refine lv_iconst (v := 0) hx hb dX5_isSound_153 (by decide) ?_
                exact x_retz S hr hlk hQ hS rfl () (Or.inl rfl) x_T dX5_isSound_154
              · skip
                have c_103 : ¬ v_102 < 0 := fun q => c_103 ((lg_cmp_lt _ _).mpr q)
                refine lv_aload_n hx hb dX5_isSound_118 rfl (lv_at hl 3 rfl) ?_
                refine lv_iload hx hb dX5_isSound_119 (lv_at hl 2 rfl) ?_
                refine lv_iconst (v := 2) hx hb dX5_isSound_121 (by decide) ?_
                refine lv_iadd hx hb dX5_isSound_122 ?_
                refine x_is (nI (j_95 + 2)) (ni_add rfl (by decide)) ?_
                refine x_lald S hK hP 3 rfl (vp_in_nI (by omega) (by decide)) dX5_isSound_123 ?_
                refine lv_topl (fun v_105 ev_105 => ?_)
                refine lv_ldc2 hx hb S.2.2.2.1 (S.2.2.2.2 _ lkX5_47) dX5_isSound_124 ?_
                refine W.lcmp hx hb dX5_isSound_127 ?_
                refine lv_if_gt (tgt := 135) hx hb dX5_isSound_128 (by decide) (fun c_106 => ?_) (fun c_106 => ?_)
                · skip
                  have c_106 : 2 < v_105 := (lg_cmp_gt _ _).mp c_106
                  refine lv_iconst (v := 0) hx hb dX5_isSound_135 (by decide) ?_
                  refine lv_istore (lv' := [(7, .int 0), (6, .int 0), (5, .int 0), (4, .int (nI j_95)), (3, .ref (rn j)), (2, .int (nI q)), (0, .ref (o 11)), (1, .int (nI j))]) hx hb dX5_isSound_136 hl (by decide) rfl (fun ls hl => ?_)
                  refine lv_iload hx hb dX5_isSound_138 (lv_at hl 2 rfl) ?_
                  refine lv_if_eq (tgt := 153) hx hb dX5_isSound_140 (by decide) (fun c_107 => ?_) (fun c_107 => absurd (by decide) c_107)
                  refine lv_iconst (v := 0) hx hb dX5_isSound_153 (by decide) ?_
                  exact x_retz S hr hlk hQ hS rfl () (Or.inl rfl) x_T dX5_isSound_154
                · skip
                  have c_106 : ¬ 2 < v_105 := fun q => c_106 ((lg_cmp_gt _ _).mpr q)
                  refine lv_iconst (v := 1) hx hb dX5_isSound_131 (by decide) ?_
                  refine lv_goto (tgt := 136) hx hb dX5_isSound_132 (by decide) ?_
                  refine lv_istore (lv' := [(7, .int 1), (6, .int 0), (5, .int 0), (4, .int (nI j_95)), (3, .ref (rn j)), (2, .int (nI q)), (0, .ref (o 11)), (1, .int (nI j))]) hx hb dX5_isSound_136 hl (by decide) rfl (fun ls hl => ?_)
                  refine lv_iload hx hb dX5_isSound_138 (lv_at hl 2 rfl) ?_
                  refine lv_if_eq (tgt := 153) hx hb dX5_isSound_140 (by decide) (fun c_108 => ?_) (fun c_108 => absurd (by decide) c_108)
                  refine lv_iconst (v := 0) hx hb dX5_isSound_153 (by decide) ?_
                  exact x_retz S hr hlk hQ hS rfl () (Or.inl rfl) x_T dX5_isSound_154
            · skip
              have c_101 : ¬ v_100 < 0 := fun q => c_101 ((lg_cmp_lt _ _).mpr q)
              refine lv_aload_n hx hb dX5_isSound_82 rfl (lv_at hl 2 rfl) ?_
              refine lv_iload hx hb dX5_isSound_83 (lv_at hl 1 rfl) ?_
              refine lv_iconst (v := 1) hx hb dX5_isSound_85 (by decide) ?_
              refine lv_iadd hx hb dX5_isSound_86 ?_
              refine x_is (nI (j_95 + 1)) (ni_add rfl (by decide)) ?_
              refine x_lald S hK hP 3 rfl (vp_in_nI (by omega) (by decide)) dX5_isSound_87 ?_
              refine lv_topl (fun v_109 ev_109 => ?_)
              refine lv_aload_n hx hb dX5_isSound_88 rfl (lv_at hl 4 rfl) ?_
              refine x_get S hK hP 0 rfl cfX5 0 lkX5_16 (by decide) rfl dX5_isSound_89 ?_
              refine x_get S hK hP 12 rfl cfX2 1 lkX5_44 (by decide) rfl dX5_isSound_92 ?_
              refine lv_i2l (v := (nI ghours).toInt64) hx hb dX5_isSound_95 rfl ?_
              refine W.lcmp hx hb dX5_isSound_96 ?_
              refine lv_if_gt (tgt := 104) hx hb dX5_isSound_97 (by decide) (fun c_110 => ?_) (fun c_110 => ?_)
              · skip
                have c_110 : (nI ghours).toInt64 < v_109 := (lg_cmp_gt _ _).mp c_110
                refine lv_iconst (v := 0) hx hb dX5_isSound_104 (by decide) ?_
                refine lv_istore (lv' := [(6, .int 0), (5, .int 0), (4, .int (nI j_95)), (3, .ref (rn j)), (2, .int (nI q)), (0, .ref (o 11)), (1, .int (nI j))]) hx hb dX5_isSound_105 hl (by decide) rfl (fun ls hl => ?_)
                refine lv_aload_n hx hb dX5_isSound_107 rfl (lv_at hl 3 rfl) ?_
                refine lv_iload hx hb dX5_isSound_108 (lv_at hl 2 rfl) ?_
                refine lv_iconst (v := 2) hx hb dX5_isSound_110 (by decide) ?_
                refine lv_iadd hx hb dX5_isSound_111 ?_
                refine x_is (nI (j_95 + 2)) (ni_add rfl (by decide)) ?_
                refine x_lald S hK hP 3 rfl (vp_in_nI (by omega) (by decide)) dX5_isSound_112 ?_
                refine lv_topl (fun v_111 ev_111 => ?_)
                refine lv_lconst (v := 0) hx hb dX5_isSound_113 (by decide) ?_
                refine W.lcmp hx hb dX5_isSound_114 ?_
                refine lv_if_lt (tgt := 135) hx hb dX5_isSound_115 (by decide) (fun c_112 => ?_) (fun c_112 => ?_)
                · skip
                  have c_112 : v_111 < 0 := (lg_cmp_lt _ _).mp c_112
                  refine lv_iconst (v := 0) hx hb dX5_isSound_135 (by decide) ?_
                  refine lv_istore (lv' := [(7, .int 0), (6, .int 0), (5, .int 0), (4, .int (nI j_95)), (3, .ref (rn j)), (2, .int (nI q)), (0, .ref (o 11)), (1, .int (nI j))]) hx hb dX5_isSound_136 hl (by decide) rfl (fun ls hl => ?_)
                  refine lv_iload hx hb dX5_isSound_138 (lv_at hl 2 rfl) ?_
                  refine lv_if_eq (tgt := 153) hx hb dX5_isSound_140 (by decide) (fun c_113 => ?_) (fun c_113 => absurd (by decide) c_113)
                  refine lv_iconst (v := 0) hx hb dX5_isSound_153 (by decide) ?_
                  exact x_retz S hr hlk hQ hS rfl () (Or.inl rfl) x_T dX5_isSound_154
                · skip
                  have c_112 : ¬ v_111 < 0 := fun q => c_112 ((lg_cmp_lt _ _).mpr q)
                  refine lv_aload_n hx hb dX5_isSound_118 rfl (lv_at hl 3 rfl) ?_
                  refine lv_iload hx hb dX5_isSound_119 (lv_at hl 2 rfl) ?_
                  refine lv_iconst (v := 2) hx hb dX5_isSound_121 (by decide) ?_
                  refine lv_iadd hx hb dX5_isSound_122 ?_
                  refine x_is (nI (j_95 + 2)) (ni_add rfl (by decide)) ?_
                  refine x_lald S hK hP 3 rfl (vp_in_nI (by omega) (by decide)) dX5_isSound_123 ?_
                  refine lv_topl (fun v_114 ev_114 => ?_)
                  refine lv_ldc2 hx hb S.2.2.2.1 (S.2.2.2.2 _ lkX5_47) dX5_isSound_124 ?_
                  refine W.lcmp hx hb dX5_isSound_127 ?_
                  refine lv_if_gt (tgt := 135) hx hb dX5_isSound_128 (by decide) (fun c_115 => ?_) (fun c_115 => ?_)
                  · skip
                    have c_115 : 2 < v_114 := (lg_cmp_gt _ _).mp c_115
                    refine lv_iconst (v := 0) hx hb dX5_isSound_135 (by decide) ?_
                    refine lv_istore (lv' := [(7, .int 0), (6, .int 0), (5, .int 0), (4, .int (nI j_95)), (3, .ref (rn j)), (2, .int (nI q)), (0, .ref (o 11)), (1, .int (nI j))]) hx hb dX5_isSound_136 hl (by decide) rfl (fun ls hl => ?_)
                    refine lv_iload hx hb dX5_isSound_138 (lv_at hl 2 rfl) ?_
                    refine lv_if_eq (tgt := 153) hx hb dX5_isSound_140 (by decide) (fun c_116 => ?_) (fun c_116 => absurd (by decide) c_116)
                    refine lv_iconst (v := 0) hx hb dX5_isSound_153 (by decide) ?_
                    exact x_retz S hr hlk hQ hS rfl () (Or.inl rfl) x_T dX5_isSound_154
                  · skip
                    have c_115 : ¬ 2 < v_114 := fun q => c_115 ((lg_cmp_gt _ _).mpr q)
                    refine lv_iconst (v := 1) hx hb dX5_isSound_131 (by decide) ?_
                    refine lv_goto (tgt := 136) hx hb dX5_isSound_132 (by decide) ?_
                    refine lv_istore (lv' := [(7, .int 1), (6, .int 0), (5, .int 0), (4, .int (nI j_95)), (3, .ref (rn j)), (2, .int (nI q)), (0, .ref (o 11)), (1, .int (nI j))]) hx hb dX5_isSound_136 hl (by decide) rfl (fun ls hl => ?_)
                    refine lv_iload hx hb dX5_isSound_138 (lv_at hl 2 rfl) ?_
                    refine lv_if_eq (tgt := 153) hx hb dX5_isSound_140 (by decide) (fun c_117 => ?_) (fun c_117 => absurd (by decide) c_117)
                    refine lv_iconst (v := 0) hx hb dX5_isSound_153 (by decide) ?_
                    exact x_retz S hr hlk hQ hS rfl () (Or.inl rfl) x_T dX5_isSound_154
              · skip
                have c_110 : ¬ (nI ghours).toInt64 < v_109 := fun q => c_110 ((lg_cmp_gt _ _).mpr q)
                refine lv_iconst (v := 1) hx hb dX5_isSound_100 (by decide) ?_
                refine lv_goto (tgt := 105) hx hb dX5_isSound_101 (by decide) ?_
                refine lv_istore (lv' := [(6, .int 1), (5, .int 0), (4, .int (nI j_95)), (3, .ref (rn j)), (2, .int (nI q)), (0, .ref (o 11)), (1, .int (nI j))]) hx hb dX5_isSound_105 hl (by decide) rfl (fun ls hl => ?_)
                refine lv_aload_n hx hb dX5_isSound_107 rfl (lv_at hl 3 rfl) ?_
                refine lv_iload hx hb dX5_isSound_108 (lv_at hl 2 rfl) ?_
                refine lv_iconst (v := 2) hx hb dX5_isSound_110 (by decide) ?_
                refine lv_iadd hx hb dX5_isSound_111 ?_
                refine x_is (nI (j_95 + 2)) (ni_add rfl (by decide)) ?_
                refine x_lald S hK hP 3 rfl (vp_in_nI (by omega) (by decide)) dX5_isSound_112 ?_
                refine lv_topl (fun v_118 ev_118 => ?_)
                refine lv_lconst (v := 0) hx hb dX5_isSound_113 (by decide) ?_
                refine W.lcmp hx hb dX5_isSound_114 ?_
                refine lv_if_lt (tgt := 135) hx hb dX5_isSound_115 (by decide) (fun c_119 => ?_) (fun c_119 => ?_)
                · skip
                  have c_119 : v_118 < 0 := (lg_cmp_lt _ _).mp c_119
                  refine lv_iconst (v := 0) hx hb dX5_isSound_135 (by decide) ?_
                  refine lv_istore (lv' := [(7, .int 0), (6, .int 1), (5, .int 0), (4, .int (nI j_95)), (3, .ref (rn j)), (2, .int (nI q)), (0, .ref (o 11)), (1, .int (nI j))]) hx hb dX5_isSound_136 hl (by decide) rfl (fun ls hl => ?_)
                  refine lv_iload hx hb dX5_isSound_138 (lv_at hl 2 rfl) ?_
                  refine lv_if_eq (tgt := 153) hx hb dX5_isSound_140 (by decide) (fun c_120 => ?_) (fun c_120 => absurd (by decide) c_120)
                  refine lv_iconst (v := 0) hx hb dX5_isSound_153 (by decide) ?_
                  exact x_retz S hr hlk hQ hS rfl () (Or.inl rfl) x_T dX5_isSound_154
                · skip
                  have c_119 : ¬ v_118 < 0 := fun q => c_119 ((lg_cmp_lt _ _).mpr q)
                  refine lv_aload_n hx hb dX5_isSound_118 rfl (lv_at hl 3 rfl) ?_
                  refine lv_iload hx hb dX5_isSound_119 (lv_at hl 2 rfl) ?_
                  refine lv_iconst (v := 2) hx hb dX5_isSound_121 (by decide) ?_
                  refine lv_iadd hx hb dX5_isSound_122 ?_
                  refine x_is (nI (j_95 + 2)) (ni_add rfl (by decide)) ?_
                  refine x_lald S hK hP 3 rfl (vp_in_nI (by omega) (by decide)) dX5_isSound_123 ?_
                  refine lv_topl (fun v_121 ev_121 => ?_)
                  refine lv_ldc2 hx hb S.2.2.2.1 (S.2.2.2.2 _ lkX5_47) dX5_isSound_124 ?_
                  refine W.lcmp hx hb dX5_isSound_127 ?_
                  refine lv_if_gt (tgt := 135) hx hb dX5_isSound_128 (by decide) (fun c_122 => ?_) (fun c_122 => ?_)
                  · skip
                    have c_122 : 2 < v_121 := (lg_cmp_gt _ _).mp c_122
                    refine lv_iconst (v := 0) hx hb dX5_isSound_135 (by decide) ?_
                    refine lv_istore (lv' := [(7, .int 0), (6, .int 1), (5, .int 0), (4, .int (nI j_95)), (3, .ref (rn j)), (2, .int (nI q)), (0, .ref (o 11)), (1, .int (nI j))]) hx hb dX5_isSound_136 hl (by decide) rfl (fun ls hl => ?_)
                    refine lv_iload hx hb dX5_isSound_138 (lv_at hl 2 rfl) ?_
                    refine lv_if_eq (tgt := 153) hx hb dX5_isSound_140 (by decide) (fun c_123 => ?_) (fun c_123 => absurd (by decide) c_123)
                    refine lv_iconst (v := 0) hx hb dX5_isSound_153 (by decide) ?_
                    exact x_retz S hr hlk hQ hS rfl () (Or.inl rfl) x_T dX5_isSound_154
                  · skip
                    have c_122 : ¬ 2 < v_121 := fun q => c_122 ((lg_cmp_gt _ _).mpr q)
                    refine lv_iconst (v := 1) hx hb dX5_isSound_131 (by decide) ?_
                    refine lv_goto (tgt := 136) hx hb dX5_isSound_132 (by decide) ?_
                    refine lv_istore (lv' := [(7, .int 1), (6, .int 1), (5, .int 0), (4, .int (nI j_95)), (3, .ref (rn j)), (2, .int (nI q)), (0, .ref (o 11)), (1, .int (nI j))]) hx hb dX5_isSound_136 hl (by decide) rfl (fun ls hl => ?_)
                    refine lv_iload hx hb dX5_isSound_138 (lv_at hl 2 rfl) ?_
                    refine lv_if_eq (tgt := 153) hx hb dX5_isSound_140 (by decide) (fun c_124 => ?_) (fun c_124 => absurd (by decide) c_124)
                    refine lv_iconst (v := 0) hx hb dX5_isSound_153 (by decide) ?_
                    exact x_retz S hr hlk hQ hS rfl () (Or.inl rfl) x_T dX5_isSound_154
          · skip
            have c_99 : ¬ v_98 < 0 := fun q => c_99 ((lg_cmp_lt _ _).mpr q)
            refine lv_aload_n hx hb dX5_isSound_48 rfl (lv_at hl 1 rfl) ?_
            refine lv_iload hx hb dX5_isSound_49 (lv_at hl 0 rfl) ?_
            refine x_lald S hK hP 3 rfl (vp_in_nI (by omega) (by decide)) dX5_isSound_51 ?_
            refine lv_topl (fun v_125 ev_125 => ?_)
            refine lv_aload_n hx hb dX5_isSound_52 rfl (lv_at hl 3 rfl) ?_
            refine x_get S hK hP 0 rfl cfX5 0 lkX5_16 (by decide) rfl dX5_isSound_53 ?_
            refine x_get S hK hP 12 rfl cfX2 5 lkX5_38 (by decide) rfl dX5_isSound_56 ?_
            refine lv_i2l (v := (nI gheads).toInt64) hx hb dX5_isSound_59 rfl ?_
            refine W.lcmp hx hb dX5_isSound_60 ?_
            refine lv_if_ge (tgt := 68) hx hb dX5_isSound_61 (by decide) (fun c_126 => ?_) (fun c_126 => ?_)
            · skip
              have c_126 : (nI gheads).toInt64 ≤ v_125 := (lg_cmp_ge _ _).mp c_126
              refine lv_iconst (v := 0) hx hb dX5_isSound_68 (by decide) ?_
              refine lv_istore (lv' := [(5, .int 0), (4, .int (nI j_95)), (3, .ref (rn j)), (2, .int (nI q)), (0, .ref (o 11)), (1, .int (nI j))]) hx hb dX5_isSound_69 hl (by decide) rfl (fun ls hl => ?_)
              refine lv_aload_n hx hb dX5_isSound_71 rfl (lv_at hl 2 rfl) ?_
              refine lv_iload hx hb dX5_isSound_72 (lv_at hl 1 rfl) ?_
              refine lv_iconst (v := 1) hx hb dX5_isSound_74 (by decide) ?_
              refine lv_iadd hx hb dX5_isSound_75 ?_
              refine x_is (nI (j_95 + 1)) (ni_add rfl (by decide)) ?_
              refine x_lald S hK hP 3 rfl (vp_in_nI (by omega) (by decide)) dX5_isSound_76 ?_
              refine lv_topl (fun v_127 ev_127 => ?_)
              refine lv_lconst (v := 0) hx hb dX5_isSound_77 (by decide) ?_
              refine W.lcmp hx hb dX5_isSound_78 ?_
              refine lv_if_lt (tgt := 104) hx hb dX5_isSound_79 (by decide) (fun c_128 => ?_) (fun c_128 => ?_)
              · skip
                have c_128 : v_127 < 0 := (lg_cmp_lt _ _).mp c_128
                refine lv_iconst (v := 0) hx hb dX5_isSound_104 (by decide) ?_
                refine lv_istore (lv' := [(6, .int 0), (5, .int 0), (4, .int (nI j_95)), (3, .ref (rn j)), (2, .int (nI q)), (0, .ref (o 11)), (1, .int (nI j))]) hx hb dX5_isSound_105 hl (by decide) rfl (fun ls hl => ?_)
                refine lv_aload_n hx hb dX5_isSound_107 rfl (lv_at hl 3 rfl) ?_
                refine lv_iload hx hb dX5_isSound_108 (lv_at hl 2 rfl) ?_
                refine lv_iconst (v := 2) hx hb dX5_isSound_110 (by decide) ?_
                refine lv_iadd hx hb dX5_isSound_111 ?_
                refine x_is (nI (j_95 + 2)) (ni_add rfl (by decide)) ?_
                refine x_lald S hK hP 3 rfl (vp_in_nI (by omega) (by decide)) dX5_isSound_112 ?_
                refine lv_topl (fun v_129 ev_129 => ?_)
                refine lv_lconst (v := 0) hx hb dX5_isSound_113 (by decide) ?_
                refine W.lcmp hx hb dX5_isSound_114 ?_
                refine lv_if_lt (tgt := 135) hx hb dX5_isSound_115 (by decide) (fun c_130 => ?_) (fun c_130 => ?_)
                · skip
                  have c_130 : v_129 < 0 := (lg_cmp_lt _ _).mp c_130
                  refine lv_iconst (v := 0) hx hb dX5_isSound_135 (by decide) ?_
                  refine lv_istore (lv' := [(7, .int 0), (6, .int 0), (5, .int 0), (4, .int (nI j_95)), (3, .ref (rn j)), (2, .int (nI q)), (0, .ref (o 11)), (1, .int (nI j))]) hx hb dX5_isSound_136 hl (by decide) rfl (fun ls hl => ?_)
                  refine lv_iload hx hb dX5_isSound_138 (lv_at hl 2 rfl) ?_
                  refine lv_if_eq (tgt := 153) hx hb dX5_isSound_140 (by decide) (fun c_131 => ?_) (fun c_131 => absurd (by decide) c_131)
                  refine lv_iconst (v := 0) hx hb dX5_isSound_153 (by decide) ?_
                  exact x_retz S hr hlk hQ hS rfl () (Or.inl rfl) x_T dX5_isSound_154
                · skip
                  have c_130 : ¬ v_129 < 0 := fun q => c_130 ((lg_cmp_lt _ _).mpr q)
                  refine lv_aload_n hx hb dX5_isSound_118 rfl (lv_at hl 3 rfl) ?_
                  refine lv_iload hx hb dX5_isSound_119 (lv_at hl 2 rfl) ?_
                  refine lv_iconst (v := 2) hx hb dX5_isSound_121 (by decide) ?_
                  refine lv_iadd hx hb dX5_isSound_122 ?_
                  refine x_is (nI (j_95 + 2)) (ni_add rfl (by decide)) ?_
                  refine x_lald S hK hP 3 rfl (vp_in_nI (by omega) (by decide)) dX5_isSound_123 ?_
                  refine lv_topl (fun v_132 ev_132 => ?_)
                  refine lv_ldc2 hx hb S.2.2.2.1 (S.2.2.2.2 _ lkX5_47) dX5_isSound_124 ?_
                  refine W.lcmp hx hb dX5_isSound_127 ?_
                  refine lv_if_gt (tgt := 135) hx hb dX5_isSound_128 (by decide) (fun c_133 => ?_) (fun c_133 => ?_)
                  · skip
                    have c_133 : 2 < v_132 := (lg_cmp_gt _ _).mp c_133
                    refine lv_iconst (v := 0) hx hb dX5_isSound_135 (by decide) ?_
                    refine lv_istore (lv' := [(7, .int 0), (6, .int 0), (5, .int 0), (4, .int (nI j_95)), (3, .ref (rn j)), (2, .int (nI q)), (0, .ref (o 11)), (1, .int (nI j))]) hx hb dX5_isSound_136 hl (by decide) rfl (fun ls hl => ?_)
                    refine lv_iload hx hb dX5_isSound_138 (lv_at hl 2 rfl) ?_
                    refine lv_if_eq (tgt := 153) hx hb dX5_isSound_140 (by decide) (fun c_134 => ?_) (fun c_134 => absurd (by decide) c_134)
                    refine lv_iconst (v := 0) hx hb dX5_isSound_153 (by decide) ?_
                    exact x_retz S hr hlk hQ hS rfl () (Or.inl rfl) x_T dX5_isSound_154
                  · skip
                    have c_133 : ¬ 2 < v_132 := fun q => c_133 ((lg_cmp_gt _ _).mpr q)
                    refine lv_iconst (v := 1) hx hb dX5_isSound_131 (by decide) ?_
                    refine lv_goto (tgt := 136) hx hb dX5_isSound_132 (by decide) ?_
                    refine lv_istore (lv' := [(7, .int 1), (6, .int 0), (5, .int 0), (4, .int (nI j_95)), (3, .ref (rn j)), (2, .int (nI q)), (0, .ref (o 11)), (1, .int (nI j))]) hx hb dX5_isSound_136 hl (by decide) rfl (fun ls hl => ?_)
                    refine lv_iload hx hb dX5_isSound_138 (lv_at hl 2 rfl) ?_
                    refine lv_if_eq (tgt := 153) hx hb dX5_isSound_140 (by decide) (fun c_135 => ?_) (fun c_135 => absurd (by decide) c_135)
                    refine lv_iconst (v := 0) hx hb dX5_isSound_153 (by decide) ?_
                    exact x_retz S hr hlk hQ hS rfl () (Or.inl rfl) x_T dX5_isSound_154
              · skip
                have c_128 : ¬ v_127 < 0 := fun q => c_128 ((lg_cmp_lt _ _).mpr q)
                refine lv_aload_n hx hb dX5_isSound_82 rfl (lv_at hl 2 rfl) ?_
                refine lv_iload hx hb dX5_isSound_83 (lv_at hl 1 rfl) ?_
                refine lv_iconst (v := 1) hx hb dX5_isSound_85 (by decide) ?_
                refine lv_iadd hx hb dX5_isSound_86 ?_
                refine x_is (nI (j_95 + 1)) (ni_add rfl (by decide)) ?_
                refine x_lald S hK hP 3 rfl (vp_in_nI (by omega) (by decide)) dX5_isSound_87 ?_
                refine lv_topl (fun v_136 ev_136 => ?_)
                refine lv_aload_n hx hb dX5_isSound_88 rfl (lv_at hl 4 rfl) ?_
                refine x_get S hK hP 0 rfl cfX5 0 lkX5_16 (by decide) rfl dX5_isSound_89 ?_
                refine x_get S hK hP 12 rfl cfX2 1 lkX5_44 (by decide) rfl dX5_isSound_92 ?_
                refine lv_i2l (v := (nI ghours).toInt64) hx hb dX5_isSound_95 rfl ?_
                refine W.lcmp hx hb dX5_isSound_96 ?_
                refine lv_if_gt (tgt := 104) hx hb dX5_isSound_97 (by decide) (fun c_137 => ?_) (fun c_137 => ?_)
                · skip
                  have c_137 : (nI ghours).toInt64 < v_136 := (lg_cmp_gt _ _).mp c_137
                  refine lv_iconst (v := 0) hx hb dX5_isSound_104 (by decide) ?_
                  refine lv_istore (lv' := [(6, .int 0), (5, .int 0), (4, .int (nI j_95)), (3, .ref (rn j)), (2, .int (nI q)), (0, .ref (o 11)), (1, .int (nI j))]) hx hb dX5_isSound_105 hl (by decide) rfl (fun ls hl => ?_)
                  refine lv_aload_n hx hb dX5_isSound_107 rfl (lv_at hl 3 rfl) ?_
                  refine lv_iload hx hb dX5_isSound_108 (lv_at hl 2 rfl) ?_
                  refine lv_iconst (v := 2) hx hb dX5_isSound_110 (by decide) ?_
                  refine lv_iadd hx hb dX5_isSound_111 ?_
                  refine x_is (nI (j_95 + 2)) (ni_add rfl (by decide)) ?_
                  refine x_lald S hK hP 3 rfl (vp_in_nI (by omega) (by decide)) dX5_isSound_112 ?_
                  refine lv_topl (fun v_138 ev_138 => ?_)
                  refine lv_lconst (v := 0) hx hb dX5_isSound_113 (by decide) ?_
                  refine W.lcmp hx hb dX5_isSound_114 ?_
                  refine lv_if_lt (tgt := 135) hx hb dX5_isSound_115 (by decide) (fun c_139 => ?_) (fun c_139 => ?_)
                  · skip
                    have c_139 : v_138 < 0 := (lg_cmp_lt _ _).mp c_139
                    refine lv_iconst (v := 0) hx hb dX5_isSound_135 (by decide) ?_
                    refine lv_istore (lv' := [(7, .int 0), (6, .int 0), (5, .int 0), (4, .int (nI j_95)), (3, .ref (rn j)), (2, .int (nI q)), (0, .ref (o 11)), (1, .int (nI j))]) hx hb dX5_isSound_136 hl (by decide) rfl (fun ls hl => ?_)
                    refine lv_iload hx hb dX5_isSound_138 (lv_at hl 2 rfl) ?_
                    refine lv_if_eq (tgt := 153) hx hb dX5_isSound_140 (by decide) (fun c_140 => ?_) (fun c_140 => absurd (by decide) c_140)
                    refine lv_iconst (v := 0) hx hb dX5_isSound_153 (by decide) ?_
                    exact x_retz S hr hlk hQ hS rfl () (Or.inl rfl) x_T dX5_isSound_154
                  · skip
                    have c_139 : ¬ v_138 < 0 := fun q => c_139 ((lg_cmp_lt _ _).mpr q)
                    refine lv_aload_n hx hb dX5_isSound_118 rfl (lv_at hl 3 rfl) ?_
                    refine lv_iload hx hb dX5_isSound_119 (lv_at hl 2 rfl) ?_
                    refine lv_iconst (v := 2) hx hb dX5_isSound_121 (by decide) ?_
                    refine lv_iadd hx hb dX5_isSound_122 ?_
                    refine x_is (nI (j_95 + 2)) (ni_add rfl (by decide)) ?_
                    refine x_lald S hK hP 3 rfl (vp_in_nI (by omega) (by decide)) dX5_isSound_123 ?_
                    refine lv_topl (fun v_141 ev_141 => ?_)
                    refine lv_ldc2 hx hb S.2.2.2.1 (S.2.2.2.2 _ lkX5_47) dX5_isSound_124 ?_
                    refine W.lcmp hx hb dX5_isSound_127 ?_
                    refine lv_if_gt (tgt := 135) hx hb dX5_isSound_128 (by decide) (fun c_142 => ?_) (fun c_142 => ?_)
                    · skip
                      have c_142 : 2 < v_141 := (lg_cmp_gt _ _).mp c_142
                      refine lv_iconst (v := 0) hx hb dX5_isSound_135 (by decide) ?_
                      refine lv_istore (lv' := [(7, .int 0), (6, .int 0), (5, .int 0), (4, .int (nI j_95)), (3, .ref (rn j)), (2, .int (nI q)), (0, .ref (o 11)), (1, .int (nI j))]) hx hb dX5_isSound_136 hl (by decide) rfl (fun ls hl => ?_)
                      refine lv_iload hx hb dX5_isSound_138 (lv_at hl 2 rfl) ?_
                      refine lv_if_eq (tgt := 153) hx hb dX5_isSound_140 (by decide) (fun c_143 => ?_) (fun c_143 => absurd (by decide) c_143)
                      refine lv_iconst (v := 0) hx hb dX5_isSound_153 (by decide) ?_
                      exact x_retz S hr hlk hQ hS rfl () (Or.inl rfl) x_T dX5_isSound_154
                    · skip
                      have c_142 : ¬ 2 < v_141 := fun q => c_142 ((lg_cmp_gt _ _).mpr q)
                      refine lv_iconst (v := 1) hx hb dX5_isSound_131 (by decide) ?_
                      refine lv_goto (tgt := 136) hx hb dX5_isSound_132 (by decide) ?_
                      refine lv_istore (lv' := [(7, .int 1), (6, .int 0), (5, .int 0), (4, .int (nI j_95)), (3, .ref (rn j)), (2, .int (nI q)), (0, .ref (o 11)), (1, .int (nI j))]) hx hb dX5_isSound_136 hl (by decide) rfl (fun ls hl => ?_)
                      refine lv_iload hx hb dX5_isSound_138 (lv_at hl 2 rfl) ?_
                      refine lv_if_eq (tgt := 153) hx hb dX5_isSound_140 (by decide) (fun c_144 => ?_) (fun c_144 => absurd (by decide) c_144)
                      refine lv_iconst (v := 0) hx hb dX5_isSound_153 (by decide) ?_
                      exact x_retz S hr hlk hQ hS rfl () (Or.inl rfl) x_T dX5_isSound_154
                · skip
                  have c_137 : ¬ (nI ghours).toInt64 < v_136 := fun q => c_137 ((lg_cmp_gt _ _).mpr q)
                  refine lv_iconst (v := 1) hx hb dX5_isSound_100 (by decide) ?_
                  refine lv_goto (tgt := 105) hx hb dX5_isSound_101 (by decide) ?_
                  refine lv_istore (lv' := [(6, .int 1), (5, .int 0), (4, .int (nI j_95)), (3, .ref (rn j)), (2, .int (nI q)), (0, .ref (o 11)), (1, .int (nI j))]) hx hb dX5_isSound_105 hl (by decide) rfl (fun ls hl => ?_)
                  refine lv_aload_n hx hb dX5_isSound_107 rfl (lv_at hl 3 rfl) ?_
                  refine lv_iload hx hb dX5_isSound_108 (lv_at hl 2 rfl) ?_
                  refine lv_iconst (v := 2) hx hb dX5_isSound_110 (by decide) ?_
                  refine lv_iadd hx hb dX5_isSound_111 ?_
                  refine x_is (nI (j_95 + 2)) (ni_add rfl (by decide)) ?_
                  refine x_lald S hK hP 3 rfl (vp_in_nI (by omega) (by decide)) dX5_isSound_112 ?_
                  refine lv_topl (fun v_145 ev_145 => ?_)
                  refine lv_lconst (v := 0) hx hb dX5_isSound_113 (by decide) ?_
                  refine W.lcmp hx hb dX5_isSound_114 ?_
                  refine lv_if_lt (tgt := 135) hx hb dX5_isSound_115 (by decide) (fun c_146 => ?_) (fun c_146 => ?_)
                  · skip
                    have c_146 : v_145 < 0 := (lg_cmp_lt _ _).mp c_146
                    refine lv_iconst (v := 0) hx hb dX5_isSound_135 (by decide) ?_
                    refine lv_istore (lv' := [(7, .int 0), (6, .int 1), (5, .int 0), (4, .int (nI j_95)), (3, .ref (rn j)), (2, .int (nI q)), (0, .ref (o 11)), (1, .int (nI j))]) hx hb dX5_isSound_136 hl (by decide) rfl (fun ls hl => ?_)
                    refine lv_iload hx hb dX5_isSound_138 (lv_at hl 2 rfl) ?_
                    refine lv_if_eq (tgt := 153) hx hb dX5_isSound_140 (by decide) (fun c_147 => ?_) (fun c_147 => absurd (by decide) c_147)
                    refine lv_iconst (v := 0) hx hb dX5_isSound_153 (by decide) ?_
                    exact x_retz S hr hlk hQ hS rfl () (Or.inl rfl) x_T dX5_isSound_154
                  · skip
                    have c_146 : ¬ v_145 < 0 := fun q => c_146 ((lg_cmp_lt _ _).mpr q)
                    refine lv_aload_n hx hb dX5_isSound_118 rfl (lv_at hl 3 rfl) ?_
                    refine lv_iload hx hb dX5_isSound_119 (lv_at hl 2 rfl) ?_
                    refine lv_iconst (v := 2) hx hb dX5_isSound_121 (by decide) ?_
                    refine lv_iadd hx hb dX5_isSound_122 ?_
                    refine x_is (nI (j_95 + 2)) (ni_add rfl (by decide)) ?_
                    refine x_lald S hK hP 3 rfl (vp_in_nI (by omega) (by decide)) dX5_isSound_123 ?_
                    refine lv_topl (fun v_148 ev_148 => ?_)
                    refine lv_ldc2 hx hb S.2.2.2.1 (S.2.2.2.2 _ lkX5_47) dX5_isSound_124 ?_
                    refine W.lcmp hx hb dX5_isSound_127 ?_
                    refine lv_if_gt (tgt := 135) hx hb dX5_isSound_128 (by decide) (fun c_149 => ?_) (fun c_149 => ?_)
                    · skip
                      have c_149 : 2 < v_148 := (lg_cmp_gt _ _).mp c_149
                      refine lv_iconst (v := 0) hx hb dX5_isSound_135 (by decide) ?_
                      refine lv_istore (lv' := [(7, .int 0), (6, .int 1), (5, .int 0), (4, .int (nI j_95)), (3, .ref (rn j)), (2, .int (nI q)), (0, .ref (o 11)), (1, .int (nI j))]) hx hb dX5_isSound_136 hl (by decide) rfl (fun ls hl => ?_)
                      refine lv_iload hx hb dX5_isSound_138 (lv_at hl 2 rfl) ?_
                      refine lv_if_eq (tgt := 153) hx hb dX5_isSound_140 (by decide) (fun c_150 => ?_) (fun c_150 => absurd (by decide) c_150)
                      refine lv_iconst (v := 0) hx hb dX5_isSound_153 (by decide) ?_
                      exact x_retz S hr hlk hQ hS rfl () (Or.inl rfl) x_T dX5_isSound_154
                    · skip
                      have c_149 : ¬ 2 < v_148 := fun q => c_149 ((lg_cmp_gt _ _).mpr q)
                      refine lv_iconst (v := 1) hx hb dX5_isSound_131 (by decide) ?_
                      refine lv_goto (tgt := 136) hx hb dX5_isSound_132 (by decide) ?_
                      refine lv_istore (lv' := [(7, .int 1), (6, .int 1), (5, .int 0), (4, .int (nI j_95)), (3, .ref (rn j)), (2, .int (nI q)), (0, .ref (o 11)), (1, .int (nI j))]) hx hb dX5_isSound_136 hl (by decide) rfl (fun ls hl => ?_)
                      refine lv_iload hx hb dX5_isSound_138 (lv_at hl 2 rfl) ?_
                      refine lv_if_eq (tgt := 153) hx hb dX5_isSound_140 (by decide) (fun c_151 => ?_) (fun c_151 => absurd (by decide) c_151)
                      refine lv_iconst (v := 0) hx hb dX5_isSound_153 (by decide) ?_
                      exact x_retz S hr hlk hQ hS rfl () (Or.inl rfl) x_T dX5_isSound_154
            · skip
              have c_126 : ¬ (nI gheads).toInt64 ≤ v_125 := fun q => c_126 ((lg_cmp_ge _ _).mpr q)
              refine lv_iconst (v := 1) hx hb dX5_isSound_64 (by decide) ?_
              refine lv_goto (tgt := 69) hx hb dX5_isSound_65 (by decide) ?_
              refine lv_istore (lv' := [(5, .int 1), (4, .int (nI j_95)), (3, .ref (rn j)), (2, .int (nI q)), (0, .ref (o 11)), (1, .int (nI j))]) hx hb dX5_isSound_69 hl (by decide) rfl (fun ls hl => ?_)
              refine lv_aload_n hx hb dX5_isSound_71 rfl (lv_at hl 2 rfl) ?_
              refine lv_iload hx hb dX5_isSound_72 (lv_at hl 1 rfl) ?_
              refine lv_iconst (v := 1) hx hb dX5_isSound_74 (by decide) ?_
              refine lv_iadd hx hb dX5_isSound_75 ?_
              refine x_is (nI (j_95 + 1)) (ni_add rfl (by decide)) ?_
              refine x_lald S hK hP 3 rfl (vp_in_nI (by omega) (by decide)) dX5_isSound_76 ?_
              refine lv_topl (fun v_152 ev_152 => ?_)
              refine lv_lconst (v := 0) hx hb dX5_isSound_77 (by decide) ?_
              refine W.lcmp hx hb dX5_isSound_78 ?_
              refine lv_if_lt (tgt := 104) hx hb dX5_isSound_79 (by decide) (fun c_153 => ?_) (fun c_153 => ?_)
              · skip
                have c_153 : v_152 < 0 := (lg_cmp_lt _ _).mp c_153
                refine lv_iconst (v := 0) hx hb dX5_isSound_104 (by decide) ?_
                refine lv_istore (lv' := [(6, .int 0), (5, .int 1), (4, .int (nI j_95)), (3, .ref (rn j)), (2, .int (nI q)), (0, .ref (o 11)), (1, .int (nI j))]) hx hb dX5_isSound_105 hl (by decide) rfl (fun ls hl => ?_)
                refine lv_aload_n hx hb dX5_isSound_107 rfl (lv_at hl 3 rfl) ?_
                refine lv_iload hx hb dX5_isSound_108 (lv_at hl 2 rfl) ?_
                refine lv_iconst (v := 2) hx hb dX5_isSound_110 (by decide) ?_
                refine lv_iadd hx hb dX5_isSound_111 ?_
                refine x_is (nI (j_95 + 2)) (ni_add rfl (by decide)) ?_
                refine x_lald S hK hP 3 rfl (vp_in_nI (by omega) (by decide)) dX5_isSound_112 ?_
                refine lv_topl (fun v_154 ev_154 => ?_)
                refine lv_lconst (v := 0) hx hb dX5_isSound_113 (by decide) ?_
                refine W.lcmp hx hb dX5_isSound_114 ?_
                refine lv_if_lt (tgt := 135) hx hb dX5_isSound_115 (by decide) (fun c_155 => ?_) (fun c_155 => ?_)
                · skip
                  have c_155 : v_154 < 0 := (lg_cmp_lt _ _).mp c_155
                  refine lv_iconst (v := 0) hx hb dX5_isSound_135 (by decide) ?_
                  refine lv_istore (lv' := [(7, .int 0), (6, .int 0), (5, .int 1), (4, .int (nI j_95)), (3, .ref (rn j)), (2, .int (nI q)), (0, .ref (o 11)), (1, .int (nI j))]) hx hb dX5_isSound_136 hl (by decide) rfl (fun ls hl => ?_)
                  refine lv_iload hx hb dX5_isSound_138 (lv_at hl 2 rfl) ?_
                  refine lv_if_eq (tgt := 153) hx hb dX5_isSound_140 (by decide) (fun c_156 => absurd c_156 (by decide)) (fun c_156 => ?_)
                  refine lv_iload hx hb dX5_isSound_143 (lv_at hl 1 rfl) ?_
                  refine lv_if_eq (tgt := 153) hx hb dX5_isSound_145 (by decide) (fun c_157 => ?_) (fun c_157 => absurd (by decide) c_157)
                  refine lv_iconst (v := 0) hx hb dX5_isSound_153 (by decide) ?_
                  exact x_retz S hr hlk hQ hS rfl () (Or.inl rfl) x_T dX5_isSound_154
                · skip
                  have c_155 : ¬ v_154 < 0 := fun q => c_155 ((lg_cmp_lt _ _).mpr q)
                  refine lv_aload_n hx hb dX5_isSound_118 rfl (lv_at hl 3 rfl) ?_
                  refine lv_iload hx hb dX5_isSound_119 (lv_at hl 2 rfl) ?_
                  refine lv_iconst (v := 2) hx hb dX5_isSound_121 (by decide) ?_
                  refine lv_iadd hx hb dX5_isSound_122 ?_
                  refine x_is (nI (j_95 + 2)) (ni_add rfl (by decide)) ?_
                  refine x_lald S hK hP 3 rfl (vp_in_nI (by omega) (by decide)) dX5_isSound_123 ?_
                  refine lv_topl (fun v_158 ev_158 => ?_)
                  refine lv_ldc2 hx hb S.2.2.2.1 (S.2.2.2.2 _ lkX5_47) dX5_isSound_124 ?_
                  refine W.lcmp hx hb dX5_isSound_127 ?_
                  refine lv_if_gt (tgt := 135) hx hb dX5_isSound_128 (by decide) (fun c_159 => ?_) (fun c_159 => ?_)
                  · skip
                    have c_159 : 2 < v_158 := (lg_cmp_gt _ _).mp c_159
                    refine lv_iconst (v := 0) hx hb dX5_isSound_135 (by decide) ?_
                    refine lv_istore (lv' := [(7, .int 0), (6, .int 0), (5, .int 1), (4, .int (nI j_95)), (3, .ref (rn j)), (2, .int (nI q)), (0, .ref (o 11)), (1, .int (nI j))]) hx hb dX5_isSound_136 hl (by decide) rfl (fun ls hl => ?_)
                    refine lv_iload hx hb dX5_isSound_138 (lv_at hl 2 rfl) ?_
                    refine lv_if_eq (tgt := 153) hx hb dX5_isSound_140 (by decide) (fun c_160 => absurd c_160 (by decide)) (fun c_160 => ?_)
                    refine lv_iload hx hb dX5_isSound_143 (lv_at hl 1 rfl) ?_
                    refine lv_if_eq (tgt := 153) hx hb dX5_isSound_145 (by decide) (fun c_161 => ?_) (fun c_161 => absurd (by decide) c_161)
                    refine lv_iconst (v := 0) hx hb dX5_isSound_153 (by decide) ?_
                    exact x_retz S hr hlk hQ hS rfl () (Or.inl rfl) x_T dX5_isSound_154
                  · skip
                    have c_159 : ¬ 2 < v_158 := fun q => c_159 ((lg_cmp_gt _ _).mpr q)
                    refine lv_iconst (v := 1) hx hb dX5_isSound_131 (by decide) ?_
                    refine lv_goto (tgt := 136) hx hb dX5_isSound_132 (by decide) ?_
                    refine lv_istore (lv' := [(7, .int 1), (6, .int 0), (5, .int 1), (4, .int (nI j_95)), (3, .ref (rn j)), (2, .int (nI q)), (0, .ref (o 11)), (1, .int (nI j))]) hx hb dX5_isSound_136 hl (by decide) rfl (fun ls hl => ?_)
                    refine lv_iload hx hb dX5_isSound_138 (lv_at hl 2 rfl) ?_
                    refine lv_if_eq (tgt := 153) hx hb dX5_isSound_140 (by decide) (fun c_162 => absurd c_162 (by decide)) (fun c_162 => ?_)
                    refine lv_iload hx hb dX5_isSound_143 (lv_at hl 1 rfl) ?_
                    refine lv_if_eq (tgt := 153) hx hb dX5_isSound_145 (by decide) (fun c_163 => ?_) (fun c_163 => absurd (by decide) c_163)
                    refine lv_iconst (v := 0) hx hb dX5_isSound_153 (by decide) ?_
                    exact x_retz S hr hlk hQ hS rfl () (Or.inl rfl) x_T dX5_isSound_154
              · skip
                have c_153 : ¬ v_152 < 0 := fun q => c_153 ((lg_cmp_lt _ _).mpr q)
                refine lv_aload_n hx hb dX5_isSound_82 rfl (lv_at hl 2 rfl) ?_
                refine lv_iload hx hb dX5_isSound_83 (lv_at hl 1 rfl) ?_
                refine lv_iconst (v := 1) hx hb dX5_isSound_85 (by decide) ?_
                refine lv_iadd hx hb dX5_isSound_86 ?_
                refine x_is (nI (j_95 + 1)) (ni_add rfl (by decide)) ?_
                refine x_lald S hK hP 3 rfl (vp_in_nI (by omega) (by decide)) dX5_isSound_87 ?_
                refine lv_topl (fun v_164 ev_164 => ?_)
                refine lv_aload_n hx hb dX5_isSound_88 rfl (lv_at hl 4 rfl) ?_
                refine x_get S hK hP 0 rfl cfX5 0 lkX5_16 (by decide) rfl dX5_isSound_89 ?_
                refine x_get S hK hP 12 rfl cfX2 1 lkX5_44 (by decide) rfl dX5_isSound_92 ?_
                refine lv_i2l (v := (nI ghours).toInt64) hx hb dX5_isSound_95 rfl ?_
                refine W.lcmp hx hb dX5_isSound_96 ?_
                refine lv_if_gt (tgt := 104) hx hb dX5_isSound_97 (by decide) (fun c_165 => ?_) (fun c_165 => ?_)
                · skip
                  have c_165 : (nI ghours).toInt64 < v_164 := (lg_cmp_gt _ _).mp c_165
                  refine lv_iconst (v := 0) hx hb dX5_isSound_104 (by decide) ?_
                  refine lv_istore (lv' := [(6, .int 0), (5, .int 1), (4, .int (nI j_95)), (3, .ref (rn j)), (2, .int (nI q)), (0, .ref (o 11)), (1, .int (nI j))]) hx hb dX5_isSound_105 hl (by decide) rfl (fun ls hl => ?_)
                  refine lv_aload_n hx hb dX5_isSound_107 rfl (lv_at hl 3 rfl) ?_
                  refine lv_iload hx hb dX5_isSound_108 (lv_at hl 2 rfl) ?_
                  refine lv_iconst (v := 2) hx hb dX5_isSound_110 (by decide) ?_
                  refine lv_iadd hx hb dX5_isSound_111 ?_
                  refine x_is (nI (j_95 + 2)) (ni_add rfl (by decide)) ?_
                  refine x_lald S hK hP 3 rfl (vp_in_nI (by omega) (by decide)) dX5_isSound_112 ?_
                  refine lv_topl (fun v_166 ev_166 => ?_)
                  refine lv_lconst (v := 0) hx hb dX5_isSound_113 (by decide) ?_
                  refine W.lcmp hx hb dX5_isSound_114 ?_
                  refine lv_if_lt (tgt := 135) hx hb dX5_isSound_115 (by decide) (fun c_167 => ?_) (fun c_167 => ?_)
                  · skip
                    have c_167 : v_166 < 0 := (lg_cmp_lt _ _).mp c_167
                    refine lv_iconst (v := 0) hx hb dX5_isSound_135 (by decide) ?_
                    refine lv_istore (lv' := [(7, .int 0), (6, .int 0), (5, .int 1), (4, .int (nI j_95)), (3, .ref (rn j)), (2, .int (nI q)), (0, .ref (o 11)), (1, .int (nI j))]) hx hb dX5_isSound_136 hl (by decide) rfl (fun ls hl => ?_)
                    refine lv_iload hx hb dX5_isSound_138 (lv_at hl 2 rfl) ?_
                    refine lv_if_eq (tgt := 153) hx hb dX5_isSound_140 (by decide) (fun c_168 => absurd c_168 (by decide)) (fun c_168 => ?_)
                    refine lv_iload hx hb dX5_isSound_143 (lv_at hl 1 rfl) ?_
                    refine lv_if_eq (tgt := 153) hx hb dX5_isSound_145 (by decide) (fun c_169 => ?_) (fun c_169 => absurd (by decide) c_169)
                    refine lv_iconst (v := 0) hx hb dX5_isSound_153 (by decide) ?_
                    exact x_retz S hr hlk hQ hS rfl () (Or.inl rfl) x_T dX5_isSound_154
                  · skip
                    have c_167 : ¬ v_166 < 0 := fun q => c_167 ((lg_cmp_lt _ _).mpr q)
                    refine lv_aload_n hx hb dX5_isSound_118 rfl (lv_at hl 3 rfl) ?_
                    refine lv_iload hx hb dX5_isSound_119 (lv_at hl 2 rfl) ?_
                    refine lv_iconst (v := 2) hx hb dX5_isSound_121 (by decide) ?_
                    refine lv_iadd hx hb dX5_isSound_122 ?_
                    refine x_is (nI (j_95 + 2)) (ni_add rfl (by decide)) ?_
                    refine x_lald S hK hP 3 rfl (vp_in_nI (by omega) (by decide)) dX5_isSound_123 ?_
                    refine lv_topl (fun v_170 ev_170 => ?_)
                    refine lv_ldc2 hx hb S.2.2.2.1 (S.2.2.2.2 _ lkX5_47) dX5_isSound_124 ?_
                    refine W.lcmp hx hb dX5_isSound_127 ?_
                    refine lv_if_gt (tgt := 135) hx hb dX5_isSound_128 (by decide) (fun c_171 => ?_) (fun c_171 => ?_)
                    · skip
                      have c_171 : 2 < v_170 := (lg_cmp_gt _ _).mp c_171
                      refine lv_iconst (v := 0) hx hb dX5_isSound_135 (by decide) ?_
                      refine lv_istore (lv' := [(7, .int 0), (6, .int 0), (5, .int 1), (4, .int (nI j_95)), (3, .ref (rn j)), (2, .int (nI q)), (0, .ref (o 11)), (1, .int (nI j))]) hx hb dX5_isSound_136 hl (by decide) rfl (fun ls hl => ?_)
                      refine lv_iload hx hb dX5_isSound_138 (lv_at hl 2 rfl) ?_
                      refine lv_if_eq (tgt := 153) hx hb dX5_isSound_140 (by decide) (fun c_172 => absurd c_172 (by decide)) (fun c_172 => ?_)
                      refine lv_iload hx hb dX5_isSound_143 (lv_at hl 1 rfl) ?_
                      refine lv_if_eq (tgt := 153) hx hb dX5_isSound_145 (by decide) (fun c_173 => ?_) (fun c_173 => absurd (by decide) c_173)
                      refine lv_iconst (v := 0) hx hb dX5_isSound_153 (by decide) ?_
                      exact x_retz S hr hlk hQ hS rfl () (Or.inl rfl) x_T dX5_isSound_154
                    · skip
                      have c_171 : ¬ 2 < v_170 := fun q => c_171 ((lg_cmp_gt _ _).mpr q)
                      refine lv_iconst (v := 1) hx hb dX5_isSound_131 (by decide) ?_
                      refine lv_goto (tgt := 136) hx hb dX5_isSound_132 (by decide) ?_
                      refine lv_istore (lv' := [(7, .int 1), (6, .int 0), (5, .int 1), (4, .int (nI j_95)), (3, .ref (rn j)), (2, .int (nI q)), (0, .ref (o 11)), (1, .int (nI j))]) hx hb dX5_isSound_136 hl (by decide) rfl (fun ls hl => ?_)
                      refine lv_iload hx hb dX5_isSound_138 (lv_at hl 2 rfl) ?_
                      refine lv_if_eq (tgt := 153) hx hb dX5_isSound_140 (by decide) (fun c_174 => absurd c_174 (by decide)) (fun c_174 => ?_)
                      refine lv_iload hx hb dX5_isSound_143 (lv_at hl 1 rfl) ?_
                      refine lv_if_eq (tgt := 153) hx hb dX5_isSound_145 (by decide) (fun c_175 => ?_) (fun c_175 => absurd (by decide) c_175)
                      refine lv_iconst (v := 0) hx hb dX5_isSound_153 (by decide) ?_
                      exact x_retz S hr hlk hQ hS rfl () (Or.inl rfl) x_T dX5_isSound_154
                · skip
                  have c_165 : ¬ (nI ghours).toInt64 < v_164 := fun q => c_165 ((lg_cmp_gt _ _).mpr q)
                  refine lv_iconst (v := 1) hx hb dX5_isSound_100 (by decide) ?_
                  refine lv_goto (tgt := 105) hx hb dX5_isSound_101 (by decide) ?_
                  refine lv_istore (lv' := [(6, .int 1), (5, .int 1), (4, .int (nI j_95)), (3, .ref (rn j)), (2, .int (nI q)), (0, .ref (o 11)), (1, .int (nI j))]) hx hb dX5_isSound_105 hl (by decide) rfl (fun ls hl => ?_)
                  refine lv_aload_n hx hb dX5_isSound_107 rfl (lv_at hl 3 rfl) ?_
                  refine lv_iload hx hb dX5_isSound_108 (lv_at hl 2 rfl) ?_
                  refine lv_iconst (v := 2) hx hb dX5_isSound_110 (by decide) ?_
                  refine lv_iadd hx hb dX5_isSound_111 ?_
                  refine x_is (nI (j_95 + 2)) (ni_add rfl (by decide)) ?_
                  refine x_lald S hK hP 3 rfl (vp_in_nI (by omega) (by decide)) dX5_isSound_112 ?_
                  refine lv_topl (fun v_176 ev_176 => ?_)
                  refine lv_lconst (v := 0) hx hb dX5_isSound_113 (by decide) ?_
                  refine W.lcmp hx hb dX5_isSound_114 ?_
                  refine lv_if_lt (tgt := 135) hx hb dX5_isSound_115 (by decide) (fun c_177 => ?_) (fun c_177 => ?_)
                  · skip
                    have c_177 : v_176 < 0 := (lg_cmp_lt _ _).mp c_177
                    refine lv_iconst (v := 0) hx hb dX5_isSound_135 (by decide) ?_
                    refine lv_istore (lv' := [(7, .int 0), (6, .int 1), (5, .int 1), (4, .int (nI j_95)), (3, .ref (rn j)), (2, .int (nI q)), (0, .ref (o 11)), (1, .int (nI j))]) hx hb dX5_isSound_136 hl (by decide) rfl (fun ls hl => ?_)
                    refine lv_iload hx hb dX5_isSound_138 (lv_at hl 2 rfl) ?_
                    refine lv_if_eq (tgt := 153) hx hb dX5_isSound_140 (by decide) (fun c_178 => absurd c_178 (by decide)) (fun c_178 => ?_)
                    refine lv_iload hx hb dX5_isSound_143 (lv_at hl 1 rfl) ?_
                    refine lv_if_eq (tgt := 153) hx hb dX5_isSound_145 (by decide) (fun c_179 => absurd c_179 (by decide)) (fun c_179 => ?_)
                    refine lv_iload hx hb dX5_isSound_148 (lv_at hl 0 rfl) ?_
                    refine lv_if_ne (tgt := 155) hx hb dX5_isSound_150 (by decide) (fun c_180 => absurd (by decide) c_180) (fun c_180 => ?_)
                    refine lv_iconst (v := 0) hx hb dX5_isSound_153 (by decide) ?_
                    exact x_retz S hr hlk hQ hS rfl () (Or.inl rfl) x_T dX5_isSound_154
                  · skip
                    have c_177 : ¬ v_176 < 0 := fun q => c_177 ((lg_cmp_lt _ _).mpr q)
                    refine lv_aload_n hx hb dX5_isSound_118 rfl (lv_at hl 3 rfl) ?_
                    refine lv_iload hx hb dX5_isSound_119 (lv_at hl 2 rfl) ?_
                    refine lv_iconst (v := 2) hx hb dX5_isSound_121 (by decide) ?_
                    refine lv_iadd hx hb dX5_isSound_122 ?_
                    refine x_is (nI (j_95 + 2)) (ni_add rfl (by decide)) ?_
                    refine x_lald S hK hP 3 rfl (vp_in_nI (by omega) (by decide)) dX5_isSound_123 ?_
                    refine lv_topl (fun v_181 ev_181 => ?_)
                    refine lv_ldc2 hx hb S.2.2.2.1 (S.2.2.2.2 _ lkX5_47) dX5_isSound_124 ?_
                    refine W.lcmp hx hb dX5_isSound_127 ?_
                    refine lv_if_gt (tgt := 135) hx hb dX5_isSound_128 (by decide) (fun c_182 => ?_) (fun c_182 => ?_)
                    · skip
                      have c_182 : 2 < v_181 := (lg_cmp_gt _ _).mp c_182
                      refine lv_iconst (v := 0) hx hb dX5_isSound_135 (by decide) ?_
                      refine lv_istore (lv' := [(7, .int 0), (6, .int 1), (5, .int 1), (4, .int (nI j_95)), (3, .ref (rn j)), (2, .int (nI q)), (0, .ref (o 11)), (1, .int (nI j))]) hx hb dX5_isSound_136 hl (by decide) rfl (fun ls hl => ?_)
                      refine lv_iload hx hb dX5_isSound_138 (lv_at hl 2 rfl) ?_
                      refine lv_if_eq (tgt := 153) hx hb dX5_isSound_140 (by decide) (fun c_183 => absurd c_183 (by decide)) (fun c_183 => ?_)
                      refine lv_iload hx hb dX5_isSound_143 (lv_at hl 1 rfl) ?_
                      refine lv_if_eq (tgt := 153) hx hb dX5_isSound_145 (by decide) (fun c_184 => absurd c_184 (by decide)) (fun c_184 => ?_)
                      refine lv_iload hx hb dX5_isSound_148 (lv_at hl 0 rfl) ?_
                      refine lv_if_ne (tgt := 155) hx hb dX5_isSound_150 (by decide) (fun c_185 => absurd (by decide) c_185) (fun c_185 => ?_)
                      refine lv_iconst (v := 0) hx hb dX5_isSound_153 (by decide) ?_
                      exact x_retz S hr hlk hQ hS rfl () (Or.inl rfl) x_T dX5_isSound_154
                    · skip
                      have c_182 : ¬ 2 < v_181 := fun q => c_182 ((lg_cmp_gt _ _).mpr q)
                      refine lv_iconst (v := 1) hx hb dX5_isSound_131 (by decide) ?_
                      refine lv_goto (tgt := 136) hx hb dX5_isSound_132 (by decide) ?_
                      refine lv_istore (lv' := [(7, .int 1), (6, .int 1), (5, .int 1), (4, .int (nI j_95)), (3, .ref (rn j)), (2, .int (nI q)), (0, .ref (o 11)), (1, .int (nI j))]) hx hb dX5_isSound_136 hl (by decide) rfl (fun ls hl => ?_)
                      refine lv_iload hx hb dX5_isSound_138 (lv_at hl 2 rfl) ?_
                      refine lv_if_eq (tgt := 153) hx hb dX5_isSound_140 (by decide) (fun c_186 => absurd c_186 (by decide)) (fun c_186 => ?_)
                      refine lv_iload hx hb dX5_isSound_143 (lv_at hl 1 rfl) ?_
                      refine lv_if_eq (tgt := 153) hx hb dX5_isSound_145 (by decide) (fun c_187 => absurd c_187 (by decide)) (fun c_187 => ?_)
                      refine lv_iload hx hb dX5_isSound_148 (lv_at hl 0 rfl) ?_
                      refine lv_if_ne (tgt := 155) hx hb dX5_isSound_150 (by decide) (fun c_188 => ?_) (fun c_188 => absurd c_188 (by decide))
                      refine lv_iinc (v := (nI (j_95 + 3))) (lv' := [(4, .int (nI (j_95 + 3))), (7, .int 1), (6, .int 1), (5, .int 1), (3, .ref (rn j)), (2, .int (nI q)), (0, .ref (o 11)), (1, .int (nI j))]) hx hb dX5_isSound_155 hl (k := 3) rfl (ni_add rfl (by decide)) (by decide) rfl (fun ls hl => ?_)
                      refine lv_goto (tgt := 31) hx hb dX5_isSound_158 (by decide) ?_
                      exact ihj_95 (j_95 + 3)  _ _ _ (by omega) (by omega) (by omega) (sound_step hsd (by omega) ev_152 c_153 ev_164 (Int64.not_lt.mp c_165) rfl rfl (by omega)) hP hS (lv_sub hl [0, 4, 5, 6, 7] rfl)
    exact lp_96 (q + 1 + 1) 0  _ _ _ (by omega) (by omega) (by omega) (fun i hi hm => absurd hm (by omega)) hP hS (lv_sub hl [0, 1, 2, 3, 4] rfl)
  · skip
    have c_1 : ¬ q % 3 = 0 := fun q => c_1 ((ni_eq rfl (by decide) (by omega) (by omega)).mpr q)
    refine lv_iconst (v := 0) hx hb dX5_isSound_16 (by decide) ?_
    exact x_retz S hr hlk hQ hS rfl () (Or.inl rfl) x_T dX5_isSound_17

set_option maxHeartbeats 4000000 in
set_option maxRecDepth 100000 in
theorem ctX5_fits (l : Launch) (D : va_G) (k : Nat → ClassId) (z : Nat → Nat) (o : Nat → Nat) (sfit : Nat) (squestion : Int32) (sleft : Int32) (rn : Nat → Nat) (fnj : Nat → Int64) (f78 : Nat → Int32) (f79 : Nat → Int32) (tlawNow : Int32) (tharder : Int32) (ttold : Int32) (treply : Int32) (twet : Int32) (f73 : Nat → Int32) (f69 : Nat → Int32) (f70 : Nat → Int32) (f71 : Nat → Int32) (glines : Int32) (ghours : Nat) (glaw : Int32) (godds : Int32) (grows : Nat) (gheads : Nat) (gsayings : Nat) (gslugs : Nat) (gacts : Nat) (f26 : Nat → Int32) (f30 : Nat → Int32) (f31 : Nat → Int32) (j : Nat) (q : Nat) (hsfit : sfit ≤ 12) (hok : okL f79) (hghours : ghours ≤ 16) (hgrows : grows ≤ 4) (hgheads : gheads ≤ 12) (hgsayings : gsayings ≤ 8) (hgslugs : gslugs ≤ 4) (hgacts : gacts ≤ 30) (hj : j ≤ 3) (hq : q ≤ 60) (hlen : f79 j = nI q) (hso : sound fnj q ghours) : RO l yX5_fits cX5_fits 4 (some .boolean) 2 D k z [.ref (o 11), .int (nI j)] [((o 11), .inr (5, [.ref (o 3), .ref (o 10), .ref (o 6), .ref (o 80), .int (nI sfit), .int squestion, .int sleft])), ((o 10), .inr (6, [.ref (o 77), .ref (o 78), .ref (o 79)])), ((o 77), .inl (k 6, 4, .inr (.inr (.inr (.inr (fun i => if i < 4 then some (rn i) else none)))))), ((rn j), .inl (k 2, 60, .inr (.inl fnj))), ((o 78), .inl (k 0, 4, .inl f78)), ((o 79), .inl (k 0, 4, .inl f79)), ((o 6), .inr (1, [.ref (o 3), .ref (o 4), .int tlawNow, .int tharder, .int ttold, .int treply, .int twet, .ref (o 73)])), ((o 73), .inl (k 0, 17, .inl f73)), ((o 4), .inr (3, [.ref (o 69), .ref (o 70), .ref (o 71)])), ((o 69), .inl (k 0, 17, .inl f69)), ((o 70), .inl (k 0, 17, .inl f70)), ((o 71), .inl (k 0, 17, .inl f71)), ((o 3), .inr (2, [.int glines, .int (nI ghours), .int glaw, .int godds, .int (nI grows), .int (nI gheads), .int (nI gsayings), .int (nI gslugs), .int (nI gacts), .ref (o 26), .ref (o 27), .ref (o 28), .ref (o 29), .ref (o 30), .ref (o 31), .ref (o 32), .ref (o 33), .ref (o 34), .ref (o 35)])), ((o 26), .inl (k 0, 12, .inl f26)), ((o 30), .inl (k 0, 12, .inl f30)), ((o 31), .inl (k 0, 12, .inl f31))] (Qi (fun r : Int32 => True)) := by
  refine RO.of (by decide) (Nat.le_of_ble_eq_true rfl) ?_
  intro p e s m below meth c ls A B args Q S hr hlk hQ hK hP hDW hZ hAB hBA hA hS hl
  have hx := S.1
  have hb := S.2.1
  have hl : lv_has ls 4 [(0, .ref (o 11)), (1, .int (nI j))] := hl
  refine lv_aload_n hx hb dX5_fits_0 rfl (lv_at hl 0 rfl) ?_
  refine x_get S hK hP 0 rfl cfX5 1 lkX5_20 (by decide) rfl dX5_fits_1 ?_
  refine x_get S hK hP 1 rfl cfX6 0 lkX5_34 (by decide) rfl dX5_fits_4 ?_
  refine lv_iload_n hx hb dX5_fits_7 rfl (lv_at hl 1 rfl) ?_
  refine x_Jald (v := (rn j)) S hK hP 2 rfl (vp_in_nI (by omega) (by decide)) (gr_at rfl (by omega) (by omega)) dX5_fits_8 ?_
  refine lv_astore_n (lv' := [(2, .ref (rn j)), (0, .ref (o 11)), (1, .int (nI j))]) hx hb dX5_fits_9 rfl hl (by decide) rfl (fun ls hl => ?_)
  refine lv_iconst (v := 0) hx hb dX5_fits_10 (by decide) ?_
  refine lv_istore_n (lv' := [(3, .int 0), (2, .ref (rn j)), (0, .ref (o 11)), (1, .int (nI j))]) hx hb dX5_fits_11 rfl hl (by decide) rfl (fun ls hl => ?_)
  have lp_13 : ∀ (nn j_12 : Nat)  (H : Heap) (locs : List Loc) (ls : Array Slot), j_12 ≤ q + 1 → q + 1 - j_12 < nn → j_12 % 3 = 0 → va_P D vwCl [((o 11), .inr (5, [.ref (o 3), .ref (o 10), .ref (o 6), .ref (o 80), .int (nI sfit), .int squestion, .int sleft])), ((o 10), .inr (6, [.ref (o 77), .ref (o 78), .ref (o 79)])), ((o 77), .inl (k 6, 4, .inr (.inr (.inr (.inr (fun i => if i < 4 then some (rn i) else none)))))), ((rn j), .inl (k 2, 60, .inr (.inl fnj))), ((o 78), .inl (k 0, 4, .inl f78)), ((o 79), .inl (k 0, 4, .inl f79)), ((o 6), .inr (1, [.ref (o 3), .ref (o 4), .int tlawNow, .int tharder, .int ttold, .int treply, .int twet, .ref (o 73)])), ((o 73), .inl (k 0, 17, .inl f73)), ((o 4), .inr (3, [.ref (o 69), .ref (o 70), .ref (o 71)])), ((o 69), .inl (k 0, 17, .inl f69)), ((o 70), .inl (k 0, 17, .inl f70)), ((o 71), .inl (k 0, 17, .inl f71)), ((o 3), .inr (2, [.int glines, .int (nI ghours), .int glaw, .int godds, .int (nI grows), .int (nI gheads), .int (nI gsayings), .int (nI gslugs), .int (nI gacts), .ref (o 26), .ref (o 27), .ref (o 28), .ref (o 29), .ref (o 30), .ref (o 31), .ref (o 32), .ref (o 33), .ref (o 34), .ref (o 35)])), ((o 26), .inl (k 0, 12, .inl f26)), ((o 30), .inl (k 0, 12, .inl f30)), ((o 31), .inl (k 0, 12, .inl f31))] H → va_S A s.heap H locs → lv_has ls 4 [(3, .int (nI j_12)), (2, .ref (rn j)), (0, .ref (o 11)), (1, .int (nI j))] → W p l e (Rm 2 0 0) s m args below meth c H locs 0 0 Q (F0 m 12 ls []) := by
    intro nn
    induction nn with
    | zero => intro j_12  H locs ls hjj_12 hnj_12 hm3j_12; exact absurd hnj_12 (by omega)
    | succ nn ihj_12 =>
      intro j_12  H locs ls hjj_12 hnj_12 hm3j_12 hP hS hl
      refine lv_iload_n hx hb dX5_fits_12 rfl (lv_at hl 0 rfl) ?_
      refine lv_iconst (v := 2) hx hb dX5_fits_13 (by decide) ?_
      refine lv_iadd hx hb dX5_fits_14 ?_
      refine x_is (nI (j_12 + 2)) (ni_add rfl (by decide)) ?_
      refine lv_aload_n hx hb dX5_fits_15 rfl (lv_at hl 2 rfl) ?_
      refine x_get S hK hP 0 rfl cfX5 1 lkX5_20 (by decide) rfl dX5_fits_16 ?_
      refine x_get S hK hP 1 rfl cfX6 2 lkX5_28 (by decide) rfl dX5_fits_19 ?_
      refine lv_iload_n hx hb dX5_fits_22 rfl (lv_at hl 3 rfl) ?_
      refine x_iald S hK hP 5 rfl (vp_in_nI (by omega) (by decide)) dX5_fits_23 ?_
      refine x_is (nI q) ((cl_at (f := f79) (a := j) rfl (by omega)).trans hlen) ?_
      refine lv_icmp_ge (tgt := 62) hx hb dX5_fits_24 (by decide) (fun c_14 => ?_) (fun c_14 => ?_)
      · skip
        have c_14 : q ≤ j_12 + 2 := (ni_le rfl rfl (by omega) (by omega)).mp c_14
        refine lv_iconst (v := 1) hx hb dX5_fits_62 (by decide) ?_
        exact x_retz S hr hlk hQ hS rfl () trivial x_T dX5_fits_63
      · skip
        have c_14 : ¬ q ≤ j_12 + 2 := fun q => c_14 ((ni_le rfl rfl (by omega) (by omega)).mpr q)
        refine lv_aload_n hx hb dX5_fits_27 rfl (lv_at hl 2 rfl) ?_
        refine x_get S hK hP 0 rfl cfX5 2 lkX5_24 (by decide) rfl dX5_fits_28 ?_
        refine lv_aload_n hx hb dX5_fits_31 rfl (lv_at hl 1 rfl) ?_
        refine lv_iload_n hx hb dX5_fits_32 rfl (lv_at hl 0 rfl) ?_
        refine x_lald S hK hP 3 rfl (vp_in_nI (by omega) (by decide)) dX5_fits_33 ?_
        refine lv_topl (fun v_15 ev_15 => ?_)
        refine lv_l2i hx hb dX5_fits_34 rfl ?_
        refine lv_topi (fun v_16 ev_16 => ?_)
        refine lv_aload_n hx hb dX5_fits_35 rfl (lv_at hl 1 rfl) ?_
        refine lv_iload_n hx hb dX5_fits_36 rfl (lv_at hl 0 rfl) ?_
        refine lv_iconst (v := 1) hx hb dX5_fits_37 (by decide) ?_
        refine lv_iadd hx hb dX5_fits_38 ?_
        refine x_is (nI (j_12 + 1)) (ni_add rfl (by decide)) ?_
        refine x_lald S hK hP 3 rfl (vp_in_nI (by omega) (by decide)) dX5_fits_39 ?_
        refine lv_topl (fun v_17 ev_17 => ?_)
        refine lv_l2i hx hb dX5_fits_40 rfl ?_
        refine lv_topi (fun v_18 ev_18 => ?_)
        obtain ⟨n_19, en_19, hn_19⟩ := sound_at hso (i := j_12 + 1) (by omega) (by omega) (by omega) ev_17 rfl (by omega) ev_18
        refine x_is (nI n_19) en_19 ?_
        refine x_roVi (As := [.int v_16, .int (nI n_19)]) S hK hP hDW hZ hAB hBA hS hA hl mwX1_viewAt lkX5_49 (ctX1_viewAt_c l D k z (fun i => ([0, 0, 0, (o 3), (o 4), (o 6), 0, 0, 0, 0, 0, 0, 0, 0, 0, 0, 0, 0, 0, 0, 0, 0, 0, 0, 0, 0, (o 26), (o 27), (o 28), (o 29), (o 30), (o 31), (o 32), (o 33), (o 34), (o 35), 0, 0, 0, 0, 0, 0, 0, 0, 0, 0, 0, 0, 0, 0, 0, 0, 0, 0, 0, 0, 0, 0, 0, 0, 0, 0, 0, 0, 0, 0, 0, 0, 0, (o 69), (o 70), (o 71), (o 73)] : List Nat).getD i 0) tlawNow tharder ttold treply twet f73 f69 f70 f71 glines ghours glaw godds grows gheads gsayings gslugs gacts f26 f30 f31 v_16 n_19 (by omega) (by omega) (by omega) (by omega) (by omega) (by omega) (by omega)) [6, 7, 8, 9, 10, 11, 12, 13, 14, 15] rfl (by decide) rfl rfl rfl rfl rfl ⟨Nat.le_of_ble_eq_true rfl, Nat.le_of_ble_eq_true rfl, Nat.le_of_ble_eq_true rfl⟩ dX5_fits_41 ⟨Nat.le_of_ble_eq_true rfl, Nat.le_of_ble_eq_true rfl⟩ (fun r_20 H locs hr_20 hP hS => ?_)
        refine lv_i2l (v := r_20.toInt64) hx hb dX5_fits_44 rfl ?_
        refine lv_aload_n hx hb dX5_fits_45 rfl (lv_at hl 1 rfl) ?_
        refine lv_iload_n hx hb dX5_fits_46 rfl (lv_at hl 0 rfl) ?_
        refine lv_iconst (v := 2) hx hb dX5_fits_47 (by decide) ?_
        refine lv_iadd hx hb dX5_fits_48 ?_
        refine x_is (nI (j_12 + 2)) (ni_add rfl (by decide)) ?_
        refine x_lald S hK hP 3 rfl (vp_in_nI (by omega) (by decide)) dX5_fits_49 ?_
        refine lv_topl (fun v_22 ev_22 => ?_)
        refine W.lcmp hx hb dX5_fits_50 ?_
        refine lv_if_eq (tgt := 56) hx hb dX5_fits_51 (by decide) (fun c_23 => ?_) (fun c_23 => ?_)
        · skip
          have c_23 : r_20.toInt64 = v_22 := (lg_cmp_eq _ _).mp c_23
          refine lv_iinc (v := (nI (j_12 + 3))) (lv' := [(3, .int (nI (j_12 + 3))), (2, .ref (rn j)), (0, .ref (o 11)), (1, .int (nI j))]) hx hb dX5_fits_56 hl (k := 0) rfl (ni_add rfl (by decide)) (by decide) rfl (fun ls hl => ?_)
          refine lv_goto (tgt := 12) hx hb dX5_fits_59 (by decide) ?_
          exact ihj_12 (j_12 + 3)  _ _ _ (by omega) (by omega) (by omega) hP hS (lv_sub hl [0, 1, 2, 3] rfl)
        · skip
          have c_23 : ¬ r_20.toInt64 = v_22 := fun q => c_23 ((lg_cmp_eq _ _).mpr q)
          refine lv_iconst (v := 0) hx hb dX5_fits_54 (by decide) ?_
          exact x_retz S hr hlk hQ hS rfl () trivial x_T dX5_fits_55
  exact lp_13 (q + 1 + 1) 0  _ _ _ (by omega) (by omega) (by omega) hP hS (lv_sub hl [0, 1, 2, 3] rfl)

set_option maxHeartbeats 4000000 in
set_option maxRecDepth 100000 in
theorem ctX5_fittingLaws (l : Launch) (D : va_G) (k : Nat → ClassId) (z : Nat → Nat) (o : Nat → Nat) (sfit : Nat) (squestion : Int32) (sleft : Int32) (rn : Nat → Nat) (fnj : Nat → Int64) (f78 : Nat → Int32) (f79 : Nat → Int32) (tlawNow : Int32) (tharder : Int32) (ttold : Int32) (treply : Int32) (twet : Int32) (f73 : Nat → Int32) (f69 : Nat → Int32) (f70 : Nat → Int32) (f71 : Nat → Int32) (glines : Int32) (ghours : Nat) (glaw : Int32) (godds : Int32) (grows : Nat) (gheads : Nat) (gsayings : Nat) (gslugs : Nat) (gacts : Nat) (f26 : Nat → Int32) (f30 : Nat → Int32) (f31 : Nat → Int32) (j : Nat) (q : Nat) (hsfit : sfit ≤ 12) (hok : okL f79) (hghours : ghours ≤ 16) (hgrows : grows ≤ 4) (hgheads : gheads ≤ 12) (hgsayings : gsayings ≤ 8) (hgslugs : gslugs ≤ 4) (hgacts : gacts ≤ 30) (hj : j ≤ 3) (hq : q ≤ 60) (hlen : f79 j = nI q) (hso : sound fnj q ghours) : MU l yX5_fittingLaws cX5_fittingLaws 4 (some .int) 4 D k z [.ref (o 11), .int (nI j)] [((o 11), .inr (5, [.ref (o 3), .ref (o 10), .ref (o 6), .ref (o 80), .int (nI sfit), .int squestion, .int sleft])), ((o 10), .inr (6, [.ref (o 77), .ref (o 78), .ref (o 79)])), ((o 77), .inl (k 6, 4, .inr (.inr (.inr (.inr (fun i => if i < 4 then some (rn i) else none)))))), ((rn j), .inl (k 2, 60, .inr (.inl fnj))), ((o 78), .inl (k 0, 4, .inl f78)), ((o 79), .inl (k 0, 4, .inl f79)), ((o 6), .inr (1, [.ref (o 3), .ref (o 4), .int tlawNow, .int tharder, .int ttold, .int treply, .int twet, .ref (o 73)])), ((o 73), .inl (k 0, 17, .inl f73)), ((o 4), .inr (3, [.ref (o 69), .ref (o 70), .ref (o 71)])), ((o 69), .inl (k 0, 17, .inl f69)), ((o 70), .inl (k 0, 17, .inl f70)), ((o 71), .inl (k 0, 17, .inl f71)), ((o 3), .inr (2, [.int glines, .int (nI ghours), .int glaw, .int godds, .int (nI grows), .int (nI gheads), .int (nI gsayings), .int (nI gslugs), .int (nI gacts), .ref (o 26), .ref (o 27), .ref (o 28), .ref (o 29), .ref (o 30), .ref (o 31), .ref (o 32), .ref (o 33), .ref (o 34), .ref (o 35)])), ((o 26), .inl (k 0, 12, .inl f26)), ((o 30), .inl (k 0, 12, .inl f30)), ((o 31), .inl (k 0, 12, .inl f31))] 0 0 (Ui D (fun (r : Int32) (u : (Nat → Int32) × (Nat → Nat) × (Nat → Nat → Int32) × (Nat → Nat → Int64) × (Nat → Int64)) => True) (fun u : (Nat → Int32) × (Nat → Nat) × (Nat → Nat → Int32) × (Nat → Nat → Int64) × (Nat → Int64) => [((o 11), .inr (5, [.ref (o 3), .ref (o 10), .ref (o 6), .ref (o 80), .int (nI sfit), .int squestion, .int sleft])), ((o 10), .inr (6, [.ref (o 77), .ref (o 78), .ref (o 79)])), ((o 77), .inl (k 6, 4, .inr (.inr (.inr (.inr (fun i => if i < 4 then some (rn i) else none)))))), ((rn j), .inl (k 2, 60, .inr (.inl fnj))), ((o 78), .inl (k 0, 4, .inl f78)), ((o 79), .inl (k 0, 4, .inl f79)), ((o 6), .inr (1, [.ref (o 3), .ref (o 4), .int (u.1 0), .int (u.1 1), .int (u.1 2), .int (u.1 3), .int (u.1 4), .ref (o 73)])), ((o 73), .inl (k 0, 17, .inl (u.2.2.1 0))), ((o 4), .inr (3, [.ref (o 69), .ref (o 70), .ref (o 71)])), ((o 69), .inl (k 0, 17, .inl f69)), ((o 70), .inl (k 0, 17, .inl f70)), ((o 71), .inl (k 0, 17, .inl f71)), ((o 3), .inr (2, [.int glines, .int (nI ghours), .int glaw, .int godds, .int (nI grows), .int (nI gheads), .int (nI gsayings), .int (nI gslugs), .int (nI gacts), .ref (o 26), .ref (o 27), .ref (o 28), .ref (o 29), .ref (o 30), .ref (o 31), .ref (o 32), .ref (o 33), .ref (o 34), .ref (o 35)])), ((o 26), .inl (k 0, 12, .inl f26)), ((o 30), .inl (k 0, 12, .inl f30)), ((o 31), .inl (k 0, 12, .inl f31))])) := by
  refine MU.of (by decide) (Nat.le_of_ble_eq_true rfl) ?_
  intro p e s m below meth c ls A args Q S hr hlk hnm hQ hK hP hD hZ hA hS hl
  have hx := S.1
  have hb := S.2.1
  have hl : lv_has ls 4 [(0, .ref (o 11)), (1, .int (nI j))] := hl
  refine lv_iconst (v := 0) hx hb dX5_fittingLaws_0 (by decide) ?_
  refine lv_istore_n (lv' := [(2, .int 0), (0, .ref (o 11)), (1, .int (nI j))]) hx hb dX5_fittingLaws_1 rfl hl (by decide) rfl (fun ls hl => ?_)
  refine lv_iconst (v := 0) hx hb dX5_fittingLaws_2 (by decide) ?_
  refine lv_istore_n (lv' := [(3, .int 0), (2, .int 0), (0, .ref (o 11)), (1, .int (nI j))]) hx hb dX5_fittingLaws_3 rfl hl (by decide) rfl (fun ls hl => ?_)
  have lp_39 : ∀ (nn j_31 : Nat) (x_32 : Int32) (x_33 : Int32) (x_34 : Int32) (x_35 : Int32) (x_36 : Int32) (g_37 : Nat → Int32) (x_38 : Int32) (H : Heap) (locs : List Loc) (ls : Array Slot), j_31 ≤ 4 → 4 - j_31 < nn → va_P D vwCl [((o 11), .inr (5, [.ref (o 3), .ref (o 10), .ref (o 6), .ref (o 80), .int (nI sfit), .int squestion, .int sleft])), ((o 10), .inr (6, [.ref (o 77), .ref (o 78), .ref (o 79)])), ((o 77), .inl (k 6, 4, .inr (.inr (.inr (.inr (fun i => if i < 4 then some (rn i) else none)))))), ((rn j), .inl (k 2, 60, .inr (.inl fnj))), ((o 78), .inl (k 0, 4, .inl f78)), ((o 79), .inl (k 0, 4, .inl f79)), ((o 6), .inr (1, [.ref (o 3), .ref (o 4), .int x_32, .int x_33, .int x_34, .int x_35, .int x_36, .ref (o 73)])), ((o 73), .inl (k 0, 17, .inl g_37)), ((o 4), .inr (3, [.ref (o 69), .ref (o 70), .ref (o 71)])), ((o 69), .inl (k 0, 17, .inl f69)), ((o 70), .inl (k 0, 17, .inl f70)), ((o 71), .inl (k 0, 17, .inl f71)), ((o 3), .inr (2, [.int glines, .int (nI ghours), .int glaw, .int godds, .int (nI grows), .int (nI gheads), .int (nI gsayings), .int (nI gslugs), .int (nI gacts), .ref (o 26), .ref (o 27), .ref (o 28), .ref (o 29), .ref (o 30), .ref (o 31), .ref (o 32), .ref (o 33), .ref (o 34), .ref (o 35)])), ((o 26), .inl (k 0, 12, .inl f26)), ((o 30), .inl (k 0, 12, .inl f30)), ((o 31), .inl (k 0, 12, .inl f31))] H → va_D A [((o 11), .inr (5, [.ref (o 3), .ref (o 10), .ref (o 6), .ref (o 80), .int (nI sfit), .int squestion, .int sleft])), ((o 10), .inr (6, [.ref (o 77), .ref (o 78), .ref (o 79)])), ((o 77), .inl (k 6, 4, .inr (.inr (.inr (.inr (fun i => if i < 4 then some (rn i) else none)))))), ((rn j), .inl (k 2, 60, .inr (.inl fnj))), ((o 78), .inl (k 0, 4, .inl f78)), ((o 79), .inl (k 0, 4, .inl f79)), ((o 6), .inr (1, [.ref (o 3), .ref (o 4), .int x_32, .int x_33, .int x_34, .int x_35, .int x_36, .ref (o 73)])), ((o 73), .inl (k 0, 17, .inl g_37)), ((o 4), .inr (3, [.ref (o 69), .ref (o 70), .ref (o 71)])), ((o 69), .inl (k 0, 17, .inl f69)), ((o 70), .inl (k 0, 17, .inl f70)), ((o 71), .inl (k 0, 17, .inl f71)), ((o 3), .inr (2, [.int glines, .int (nI ghours), .int glaw, .int godds, .int (nI grows), .int (nI gheads), .int (nI gsayings), .int (nI gslugs), .int (nI gacts), .ref (o 26), .ref (o 27), .ref (o 28), .ref (o 29), .ref (o 30), .ref (o 31), .ref (o 32), .ref (o 33), .ref (o 34), .ref (o 35)])), ((o 26), .inl (k 0, 12, .inl f26)), ((o 30), .inl (k 0, 12, .inl f30)), ((o 31), .inl (k 0, 12, .inl f31))] → va_S A s.heap H locs → lv_has ls 4 [(3, .int (nI j_31)), (2, .int x_38), (0, .ref (o 11)), (1, .int (nI j))] → W p l e (Rm 4 0 0) s m args below meth c H locs 0 0 Q (F0 m 4 ls []) := by
    intro nn
    induction nn with
    | zero => intro j_31 x_32 x_33 x_34 x_35 x_36 g_37 x_38 H locs ls hjj_31 hnj_31; exact absurd hnj_31 (by omega)
    | succ nn ihj_31 =>
      intro j_31 x_32 x_33 x_34 x_35 x_36 g_37 x_38 H locs ls hjj_31 hnj_31 hP hD hS hl
      refine lv_iload_n hx hb dX5_fittingLaws_4 rfl (lv_at hl 0 rfl) ?_
      refine lv_iconst (v := 4) hx hb dX5_fittingLaws_5 (by decide) ?_
      refine lv_icmp_ge (tgt := 44) hx hb dX5_fittingLaws_6 (by decide) (fun c_40 => ?_) (fun c_40 => ?_)
      · skip
        have c_40 : 4 ≤ j_31 := (ni_le (by decide) rfl (by omega) (by omega)).mp c_40
        refine lv_iload_n hx hb dX5_fittingLaws_44 rfl (lv_at hl 1 rfl) ?_
        exact x_reti S hr hlk hQ hS ((fun i => ([x_32, x_33, x_34, x_35, x_36] : List (Int32)).getD i 0), (fun i => ([] : List (Nat)).getD i 0), (fun i => ([g_37] : List (Nat → Int32)).getD i (fun _ => 0)), (fun i => ([] : List (Nat → Int64)).getD i (fun _ => 0)), (fun i => ([] : List (Int64)).getD i 0)) trivial (x_B hP hD) dX5_fittingLaws_45
      · skip
        have c_40 : ¬ 4 ≤ j_31 := fun q => c_40 ((ni_le (by decide) rfl (by omega) (by omega)).mpr q)
        refine lv_aload_n hx hb dX5_fittingLaws_9 rfl (lv_at hl 2 rfl) ?_
        refine x_get S hK hP 0 rfl cfX5 2 lkX5_24 (by decide) rfl dX5_fittingLaws_10 ?_
        refine lv_iload_n hx hb dX5_fittingLaws_13 rfl (lv_at hl 0 rfl) ?_
        refine x_muVv (wr := [((o 11), .inr (5, [.ref (o 3), .ref (o 10), .ref (o 6), .ref (o 80), .int (nI sfit), .int squestion, .int sleft])), ((o 10), .inr (6, [.ref (o 77), .ref (o 78), .ref (o 79)])), ((o 77), .inl (k 6, 4, .inr (.inr (.inr (.inr (fun i => if i < 4 then some (rn i) else none)))))), ((rn j), .inl (k 2, 60, .inr (.inl fnj))), ((o 78), .inl (k 0, 4, .inl f78)), ((o 79), .inl (k 0, 4, .inl f79))]) (As := [.int (nI j_31)]) S hK hP hD hZ hS hA hl mwX1_asLaw lkX5_78 (ctX1_asLaw_c l D k z (fun i => ([0, 0, 0, (o 3), (o 4), (o 6), 0, 0, 0, 0, 0, 0, 0, 0, 0, 0, 0, 0, 0, 0, 0, 0, 0, 0, 0, 0, (o 26), (o 27), (o 28), (o 29), (o 30), (o 31), (o 32), (o 33), (o 34), (o 35), 0, 0, 0, 0, 0, 0, 0, 0, 0, 0, 0, 0, 0, 0, 0, 0, 0, 0, 0, 0, 0, 0, 0, 0, 0, 0, 0, 0, 0, 0, 0, 0, 0, (o 69), (o 70), (o 71), (o 73)] : List Nat).getD i 0) x_32 x_33 x_34 x_35 x_36 g_37 f69 f70 f71 glines ghours glaw godds grows gheads gsayings gslugs gacts f26 f30 f31 (nI j_31) (by omega) (by omega) (by omega) (by omega) (by omega) (by omega)) [6, 7, 8, 9, 10, 11, 12, 13, 14, 15] [0, 1, 2, 3, 4, 5] rfl rfl (by decide) (by decide) (by decide) rfl rfl rfl rfl rfl ⟨Nat.le_of_ble_eq_true rfl, Nat.le_of_ble_eq_true rfl, Nat.le_of_ble_eq_true rfl⟩ dX5_fittingLaws_14 ⟨Nat.le_of_ble_eq_true rfl, Nat.le_of_ble_eq_true rfl⟩ (fun u_42 H locs hr_41 hP hD hS => ?_)
        have hP : va_P D vwCl [((o 11), .inr (5, [.ref (o 3), .ref (o 10), .ref (o 6), .ref (o 80), .int (nI sfit), .int squestion, .int sleft])), ((o 10), .inr (6, [.ref (o 77), .ref (o 78), .ref (o 79)])), ((o 77), .inl (k 6, 4, .inr (.inr (.inr (.inr (fun i => if i < 4 then some (rn i) else none)))))), ((rn j), .inl (k 2, 60, .inr (.inl fnj))), ((o 78), .inl (k 0, 4, .inl f78)), ((o 79), .inl (k 0, 4, .inl f79)), ((o 6), .inr (1, [.ref (o 3), .ref (o 4), .int (u_42.1 0), .int (u_42.1 1), .int (u_42.1 2), .int (u_42.1 3), .int (u_42.1 4), .ref (o 73)])), ((o 73), .inl (k 0, 17, .inl g_37)), ((o 4), .inr (3, [.ref (o 69), .ref (o 70), .ref (o 71)])), ((o 69), .inl (k 0, 17, .inl f69)), ((o 70), .inl (k 0, 17, .inl f70)), ((o 71), .inl (k 0, 17, .inl f71)), ((o 3), .inr (2, [.int glines, .int (nI ghours), .int glaw, .int godds, .int (nI grows), .int (nI gheads), .int (nI gsayings), .int (nI gslugs), .int (nI gacts), .ref (o 26), .ref (o 27), .ref (o 28), .ref (o 29), .ref (o 30), .ref (o 31), .ref (o 32), .ref (o 33), .ref (o 34), .ref (o 35)])), ((o 26), .inl (k 0, 12, .inl f26)), ((o 30), .inl (k 0, 12, .inl f30)), ((o 31), .inl (k 0, 12, .inl f31))] H := hP.sub [0, 1, 2, 3, 4, 5, 6, 7, 8, 9, 10, 11, 12, 13, 14, 15] rfl
        have hD : va_D A [((o 11), .inr (5, [.ref (o 3), .ref (o 10), .ref (o 6), .ref (o 80), .int (nI sfit), .int squestion, .int sleft])), ((o 10), .inr (6, [.ref (o 77), .ref (o 78), .ref (o 79)])), ((o 77), .inl (k 6, 4, .inr (.inr (.inr (.inr (fun i => if i < 4 then some (rn i) else none)))))), ((rn j), .inl (k 2, 60, .inr (.inl fnj))), ((o 78), .inl (k 0, 4, .inl f78)), ((o 79), .inl (k 0, 4, .inl f79)), ((o 6), .inr (1, [.ref (o 3), .ref (o 4), .int (u_42.1 0), .int (u_42.1 1), .int (u_42.1 2), .int (u_42.1 3), .int (u_42.1 4), .ref (o 73)])), ((o 73), .inl (k 0, 17, .inl g_37)), ((o 4), .inr (3, [.ref (o 69), .ref (o 70), .ref (o 71)])), ((o 69), .inl (k 0, 17, .inl f69)), ((o 70), .inl (k 0, 17, .inl f70)), ((o 71), .inl (k 0, 17, .inl f71)), ((o 3), .inr (2, [.int glines, .int (nI ghours), .int glaw, .int godds, .int (nI grows), .int (nI gheads), .int (nI gsayings), .int (nI gslugs), .int (nI gacts), .ref (o 26), .ref (o 27), .ref (o 28), .ref (o 29), .ref (o 30), .ref (o 31), .ref (o 32), .ref (o 33), .ref (o 34), .ref (o 35)])), ((o 26), .inl (k 0, 12, .inl f26)), ((o 30), .inl (k 0, 12, .inl f30)), ((o 31), .inl (k 0, 12, .inl f31))] := hD.sub [0, 1, 2, 3, 4, 5, 6, 7, 8, 9, 10, 11, 12, 13, 14, 15] (by decide) rfl
        refine lv_aload_n hx hb dX5_fittingLaws_17 rfl (lv_at hl 2 rfl) ?_
        refine x_get S hK hP 0 rfl cfX5 2 lkX5_24 (by decide) rfl dX5_fittingLaws_18 ?_
        refine x_muVv (wr := [((o 11), .inr (5, [.ref (o 3), .ref (o 10), .ref (o 6), .ref (o 80), .int (nI sfit), .int squestion, .int sleft])), ((o 10), .inr (6, [.ref (o 77), .ref (o 78), .ref (o 79)])), ((o 77), .inl (k 6, 4, .inr (.inr (.inr (.inr (fun i => if i < 4 then some (rn i) else none)))))), ((rn j), .inl (k 2, 60, .inr (.inl fnj))), ((o 78), .inl (k 0, 4, .inl f78)), ((o 79), .inl (k 0, 4, .inl f79))]) (As := []) S hK hP hD hZ hS hA hl mwX1_run lkX5_62 (ctX1_run_c l D k z (fun i => ([0, 0, 0, (o 3), (o 4), (o 6), 0, 0, 0, 0, 0, 0, 0, 0, 0, 0, 0, 0, 0, 0, 0, 0, 0, 0, 0, 0, (o 26), (o 27), (o 28), (o 29), (o 30), (o 31), (o 32), (o 33), (o 34), (o 35), 0, 0, 0, 0, 0, 0, 0, 0, 0, 0, 0, 0, 0, 0, 0, 0, 0, 0, 0, 0, 0, 0, 0, 0, 0, 0, 0, 0, 0, 0, 0, 0, 0, (o 69), (o 70), (o 71), (o 73)] : List Nat).getD i 0) (u_42.1 0) (u_42.1 1) (u_42.1 2) (u_42.1 3) (u_42.1 4) g_37 f69 f70 f71 glines ghours glaw godds grows gheads gsayings gslugs gacts f26 f30 f31 (by omega) (by omega) (by omega) (by omega) (by omega) (by omega)) [6, 7, 8, 9, 10, 11, 12, 13, 14, 15] [0, 1, 2, 3, 4, 5] rfl rfl (by decide) (by decide) (by decide) rfl rfl rfl rfl rfl ⟨Nat.le_of_ble_eq_true rfl, Nat.le_of_ble_eq_true rfl, Nat.le_of_ble_eq_true rfl⟩ dX5_fittingLaws_21 ⟨Nat.le_of_ble_eq_true rfl, Nat.le_of_ble_eq_true rfl⟩ (fun u_44 H locs hr_43 hP hD hS => ?_)
        have hP : va_P D vwCl [((o 11), .inr (5, [.ref (o 3), .ref (o 10), .ref (o 6), .ref (o 80), .int (nI sfit), .int squestion, .int sleft])), ((o 10), .inr (6, [.ref (o 77), .ref (o 78), .ref (o 79)])), ((o 77), .inl (k 6, 4, .inr (.inr (.inr (.inr (fun i => if i < 4 then some (rn i) else none)))))), ((rn j), .inl (k 2, 60, .inr (.inl fnj))), ((o 78), .inl (k 0, 4, .inl f78)), ((o 79), .inl (k 0, 4, .inl f79)), ((o 6), .inr (1, [.ref (o 3), .ref (o 4), .int (u_42.1 0), .int (u_42.1 1), .int (u_42.1 2), .int (u_42.1 3), .int (u_42.1 4), .ref (o 73)])), ((o 73), .inl (k 0, 17, .inl (u_44.2.2.1 0))), ((o 4), .inr (3, [.ref (o 69), .ref (o 70), .ref (o 71)])), ((o 69), .inl (k 0, 17, .inl f69)), ((o 70), .inl (k 0, 17, .inl f70)), ((o 71), .inl (k 0, 17, .inl f71)), ((o 3), .inr (2, [.int glines, .int (nI ghours), .int glaw, .int godds, .int (nI grows), .int (nI gheads), .int (nI gsayings), .int (nI gslugs), .int (nI gacts), .ref (o 26), .ref (o 27), .ref (o 28), .ref (o 29), .ref (o 30), .ref (o 31), .ref (o 32), .ref (o 33), .ref (o 34), .ref (o 35)])), ((o 26), .inl (k 0, 12, .inl f26)), ((o 30), .inl (k 0, 12, .inl f30)), ((o 31), .inl (k 0, 12, .inl f31))] H := hP.sub [0, 1, 2, 3, 4, 5, 6, 7, 8, 9, 10, 11, 12, 13, 14, 15] rfl
        have hD : va_D A [((o 11), .inr (5, [.ref (o 3), .ref (o 10), .ref (o 6), .ref (o 80), .int (nI sfit), .int squestion, .int sleft])), ((o 10), .inr (6, [.ref (o 77), .ref (o 78), .ref (o 79)])), ((o 77), .inl (k 6, 4, .inr (.inr (.inr (.inr (fun i => if i < 4 then some (rn i) else none)))))), ((rn j), .inl (k 2, 60, .inr (.inl fnj))), ((o 78), .inl (k 0, 4, .inl f78)), ((o 79), .inl (k 0, 4, .inl f79)), ((o 6), .inr (1, [.ref (o 3), .ref (o 4), .int (u_42.1 0), .int (u_42.1 1), .int (u_42.1 2), .int (u_42.1 3), .int (u_42.1 4), .ref (o 73)])), ((o 73), .inl (k 0, 17, .inl (u_44.2.2.1 0))), ((o 4), .inr (3, [.ref (o 69), .ref (o 70), .ref (o 71)])), ((o 69), .inl (k 0, 17, .inl f69)), ((o 70), .inl (k 0, 17, .inl f70)), ((o 71), .inl (k 0, 17, .inl f71)), ((o 3), .inr (2, [.int glines, .int (nI ghours), .int glaw, .int godds, .int (nI grows), .int (nI gheads), .int (nI gsayings), .int (nI gslugs), .int (nI gacts), .ref (o 26), .ref (o 27), .ref (o 28), .ref (o 29), .ref (o 30), .ref (o 31), .ref (o 32), .ref (o 33), .ref (o 34), .ref (o 35)])), ((o 26), .inl (k 0, 12, .inl f26)), ((o 30), .inl (k 0, 12, .inl f30)), ((o 31), .inl (k 0, 12, .inl f31))] := hD.sub [0, 1, 2, 3, 4, 5, 6, 7, 8, 9, 10, 11, 12, 13, 14, 15] (by decide) rfl
        refine lv_aload_n hx hb dX5_fittingLaws_24 rfl (lv_at hl 2 rfl) ?_
        refine lv_iload_n hx hb dX5_fittingLaws_25 rfl (lv_at hl 3 rfl) ?_
        refine x_roVi (As := [.int (nI j)]) S hK hP hD hZ (fun _ h => h) hA hS hA hl mwX5_fits lkX5_65 (ctX5_fits l D k z o sfit squestion sleft rn fnj f78 f79 (u_42.1 0) (u_42.1 1) (u_42.1 2) (u_42.1 3) (u_42.1 4) (u_44.2.2.1 0) f69 f70 f71 glines ghours glaw godds grows gheads gsayings gslugs gacts f26 f30 f31 j q (by omega) (hok) (by omega) (by omega) (by omega) (by omega) (by omega) (by omega) (by omega) (by omega) (hlen) (hso)) [0, 1, 2, 3, 4, 5, 6, 7, 8, 9, 10, 11, 12, 13, 14, 15] rfl (by decide) rfl rfl rfl rfl rfl ⟨Nat.le_of_ble_eq_true rfl, Nat.le_of_ble_eq_true rfl, Nat.le_of_ble_eq_true rfl⟩ dX5_fittingLaws_26 ⟨Nat.le_of_ble_eq_true rfl, Nat.le_of_ble_eq_true rfl⟩ (fun r_45 H locs hr_45 hP hS => ?_)
        refine lv_if_eq (tgt := 38) hx hb dX5_fittingLaws_29 (by decide) (fun c_47 => ?_) (fun c_47 => ?_)
        · skip
          refine lv_iinc (v := (nI (j_31 + 1))) (lv' := [(3, .int (nI (j_31 + 1))), (2, .int x_38), (0, .ref (o 11)), (1, .int (nI j))]) hx hb dX5_fittingLaws_38 hl (k := 0) rfl (ni_inc _) (by decide) rfl (fun ls hl => ?_)
          refine lv_goto (tgt := 4) hx hb dX5_fittingLaws_41 (by decide) ?_
          exact ihj_31 (j_31 + 1) (u_42.1 0) (u_42.1 1) (u_42.1 2) (u_42.1 3) (u_42.1 4) (u_44.2.2.1 0) x_38 _ _ _ (by omega) (by omega) hP hD hS (lv_sub hl [0, 1, 2, 3] rfl)
        · skip
          refine lv_iload_n hx hb dX5_fittingLaws_32 rfl (lv_at hl 1 rfl) ?_
          refine lv_iconst (v := 1) hx hb dX5_fittingLaws_33 (by decide) ?_
          refine lv_iload_n hx hb dX5_fittingLaws_34 rfl (lv_at hl 0 rfl) ?_
          refine lv_ishl hx hb dX5_fittingLaws_35 ?_
          refine lv_topi (fun v_48 ev_48 => ?_)
          refine lv_ior hx hb dX5_fittingLaws_36 ?_
          refine lv_topi (fun v_49 ev_49 => ?_)
          refine lv_istore_n (lv' := [(2, .int v_49), (3, .int (nI j_31)), (0, .ref (o 11)), (1, .int (nI j))]) hx hb dX5_fittingLaws_37 rfl hl (by decide) rfl (fun ls hl => ?_)
          refine lv_iinc (v := (nI (j_31 + 1))) (lv' := [(3, .int (nI (j_31 + 1))), (2, .int v_49), (0, .ref (o 11)), (1, .int (nI j))]) hx hb dX5_fittingLaws_38 hl (k := 1) rfl (ni_inc _) (by decide) rfl (fun ls hl => ?_)
          refine lv_goto (tgt := 4) hx hb dX5_fittingLaws_41 (by decide) ?_
          exact ihj_31 (j_31 + 1) (u_42.1 0) (u_42.1 1) (u_42.1 2) (u_42.1 3) (u_42.1 4) (u_44.2.2.1 0) v_49 _ _ _ (by omega) (by omega) hP hD hS (lv_sub hl [0, 1, 2, 3] rfl)
  exact lp_39 (4 + 1) 0 tlawNow tharder ttold treply twet f73 0 _ _ _ (by omega) (by omega) hP hD hS (lv_sub hl [0, 1, 2, 3] rfl)

set_option maxHeartbeats 4000000 in
set_option maxRecDepth 100000 in
theorem ctX5_candidates (l : Launch) (D : va_G) (k : Nat → ClassId) (z : Nat → Nat) (o : Nat → Nat) (sfit : Nat) (squestion : Int32) (sleft : Int32) (rh : Nat → Nat) (fh0 : Nat → Int32) (fh1 : Nat → Int32) (fh2 : Nat → Int32) (fh3 : Nat → Int32) (fh4 : Nat → Int32) (fh5 : Nat → Int32) (fh6 : Nat → Int32) (fh7 : Nat → Int32) (fh8 : Nat → Int32) (fh9 : Nat → Int32) (fh10 : Nat → Int32) (fh11 : Nat → Int32) (rn : Nat → Nat) (fnj : Nat → Int64) (f78 : Nat → Int32) (f79 : Nat → Int32) (tlawNow : Int32) (tharder : Int32) (ttold : Int32) (treply : Int32) (twet : Int32) (f73 : Nat → Int32) (f69 : Nat → Int32) (f70 : Nat → Int32) (f71 : Nat → Int32) (glines : Int32) (ghours : Nat) (glaw : Int32) (godds : Int32) (grows : Nat) (gheads : Nat) (gsayings : Nat) (gslugs : Nat) (gacts : Nat) (f26 : Nat → Int32) (f30 : Nat → Int32) (f31 : Nat → Int32) (j : Nat) (q : Nat) (p0 : Int32) (hsfit : sfit ≤ 12) (hok : okL f79) (hghours : ghours ≤ 16) (hgrows : grows ≤ 4) (hgheads : gheads ≤ 12) (hgsayings : gsayings ≤ 8) (hgslugs : gslugs ≤ 4) (hgacts : gacts ≤ 30) (hj : j ≤ 3) (hq : q ≤ 60) (hlen : f79 j = nI q) (hso : sound fnj q ghours) : MU l yX5_candidates cX5_candidates 5 (some .int) 4 D k z [.ref (o 11), .int (nI j), .int p0] [((o 11), .inr (5, [.ref (o 3), .ref (o 10), .ref (o 6), .ref (o 80), .int (nI sfit), .int squestion, .int sleft])), ((o 80), .inl (k 5, 12, .inr (.inr (.inr (.inr (fun i => if i < 12 then some (rh i) else none)))))), ((rh 0), .inl (k 0, 17, .inl fh0)), ((rh 1), .inl (k 0, 17, .inl fh1)), ((rh 2), .inl (k 0, 17, .inl fh2)), ((rh 3), .inl (k 0, 17, .inl fh3)), ((rh 4), .inl (k 0, 17, .inl fh4)), ((rh 5), .inl (k 0, 17, .inl fh5)), ((rh 6), .inl (k 0, 17, .inl fh6)), ((rh 7), .inl (k 0, 17, .inl fh7)), ((rh 8), .inl (k 0, 17, .inl fh8)), ((rh 9), .inl (k 0, 17, .inl fh9)), ((rh 10), .inl (k 0, 17, .inl fh10)), ((rh 11), .inl (k 0, 17, .inl fh11)), ((o 10), .inr (6, [.ref (o 77), .ref (o 78), .ref (o 79)])), ((o 77), .inl (k 6, 4, .inr (.inr (.inr (.inr (fun i => if i < 4 then some (rn i) else none)))))), ((rn j), .inl (k 2, 60, .inr (.inl fnj))), ((o 78), .inl (k 0, 4, .inl f78)), ((o 79), .inl (k 0, 4, .inl f79)), ((o 6), .inr (1, [.ref (o 3), .ref (o 4), .int tlawNow, .int tharder, .int ttold, .int treply, .int twet, .ref (o 73)])), ((o 73), .inl (k 0, 17, .inl f73)), ((o 4), .inr (3, [.ref (o 69), .ref (o 70), .ref (o 71)])), ((o 69), .inl (k 0, 17, .inl f69)), ((o 70), .inl (k 0, 17, .inl f70)), ((o 71), .inl (k 0, 17, .inl f71)), ((o 3), .inr (2, [.int glines, .int (nI ghours), .int glaw, .int godds, .int (nI grows), .int (nI gheads), .int (nI gsayings), .int (nI gslugs), .int (nI gacts), .ref (o 26), .ref (o 27), .ref (o 28), .ref (o 29), .ref (o 30), .ref (o 31), .ref (o 32), .ref (o 33), .ref (o 34), .ref (o 35)])), ((o 26), .inl (k 0, 12, .inl f26)), ((o 30), .inl (k 0, 12, .inl f30)), ((o 31), .inl (k 0, 12, .inl f31))] 0 0 (Ui D (fun (r : Int32) (u : (Nat → Int32) × (Nat → Nat) × (Nat → Nat → Int32) × (Nat → Nat → Int64) × (Nat → Int64)) => (u.2.1 0 ≤ 12)) (fun u : (Nat → Int32) × (Nat → Nat) × (Nat → Nat → Int32) × (Nat → Nat → Int64) × (Nat → Int64) => [((o 11), .inr (5, [.ref (o 3), .ref (o 10), .ref (o 6), .ref (o 80), .int (nI (u.2.1 0)), .int squestion, .int sleft])), ((o 80), .inl (k 5, 12, .inr (.inr (.inr (.inr (fun i => if i < 12 then some (rh i) else none)))))), ((rh 0), .inl (k 0, 17, .inl (u.2.2.1 1))), ((rh 1), .inl (k 0, 17, .inl (u.2.2.1 2))), ((rh 2), .inl (k 0, 17, .inl (u.2.2.1 5))), ((rh 3), .inl (k 0, 17, .inl (u.2.2.1 6))), ((rh 4), .inl (k 0, 17, .inl (u.2.2.1 7))), ((rh 5), .inl (k 0, 17, .inl (u.2.2.1 8))), ((rh 6), .inl (k 0, 17, .inl (u.2.2.1 9))), ((rh 7), .inl (k 0, 17, .inl (u.2.2.1 10))), ((rh 8), .inl (k 0, 17, .inl (u.2.2.1 11))), ((rh 9), .inl (k 0, 17, .inl (u.2.2.1 12))), ((rh 10), .inl (k 0, 17, .inl (u.2.2.1 3))), ((rh 11), .inl (k 0, 17, .inl (u.2.2.1 4))), ((o 10), .inr (6, [.ref (o 77), .ref (o 78), .ref (o 79)])), ((o 77), .inl (k 6, 4, .inr (.inr (.inr (.inr (fun i => if i < 4 then some (rn i) else none)))))), ((rn j), .inl (k 2, 60, .inr (.inl fnj))), ((o 78), .inl (k 0, 4, .inl f78)), ((o 79), .inl (k 0, 4, .inl f79)), ((o 6), .inr (1, [.ref (o 3), .ref (o 4), .int (u.1 0), .int (u.1 1), .int (u.1 2), .int (u.1 3), .int (u.1 4), .ref (o 73)])), ((o 73), .inl (k 0, 17, .inl (u.2.2.1 0))), ((o 4), .inr (3, [.ref (o 69), .ref (o 70), .ref (o 71)])), ((o 69), .inl (k 0, 17, .inl f69)), ((o 70), .inl (k 0, 17, .inl f70)), ((o 71), .inl (k 0, 17, .inl f71)), ((o 3), .inr (2, [.int glines, .int (nI ghours), .int glaw, .int godds, .int (nI grows), .int (nI gheads), .int (nI gsayings), .int (nI gslugs), .int (nI gacts), .ref (o 26), .ref (o 27), .ref (o 28), .ref (o 29), .ref (o 30), .ref (o 31), .ref (o 32), .ref (o 33), .ref (o 34), .ref (o 35)])), ((o 26), .inl (k 0, 12, .inl f26)), ((o 30), .inl (k 0, 12, .inl f30)), ((o 31), .inl (k 0, 12, .inl f31))])) := by
  refine MU.of (by decide) (Nat.le_of_ble_eq_true rfl) ?_
  intro p e s m below meth c ls A args Q S hr hlk hnm hQ hK hP hD hZ hA hS hl
  have hx := S.1
  have hb := S.2.1
  have hl : lv_has ls 5 [(0, .ref (o 11)), (1, .int (nI j)), (2, .int p0)] := hl
  refine lv_iconst (v := 0) hx hb dX5_candidates_0 (by decide) ?_
  refine lv_istore_n (lv' := [(3, .int 0), (0, .ref (o 11)), (1, .int (nI j)), (2, .int p0)]) hx hb dX5_candidates_1 rfl hl (by decide) rfl (fun ls hl => ?_)
  refine lv_aload_n hx hb dX5_candidates_2 rfl (lv_at hl 1 rfl) ?_
  refine lv_iconst (v := 0) hx hb dX5_candidates_3 (by decide) ?_
  refine x_put (ws' := [((o 11), .inr (5, [.ref (o 3), .ref (o 10), .ref (o 6), .ref (o 80), .int 0, .int squestion, .int sleft])), ((o 80), .inl (k 5, 12, .inr (.inr (.inr (.inr (fun i => if i < 12 then some (rh i) else none)))))), ((rh 0), .inl (k 0, 17, .inl fh0)), ((rh 1), .inl (k 0, 17, .inl fh1)), ((rh 2), .inl (k 0, 17, .inl fh2)), ((rh 3), .inl (k 0, 17, .inl fh3)), ((rh 4), .inl (k 0, 17, .inl fh4)), ((rh 5), .inl (k 0, 17, .inl fh5)), ((rh 6), .inl (k 0, 17, .inl fh6)), ((rh 7), .inl (k 0, 17, .inl fh7)), ((rh 8), .inl (k 0, 17, .inl fh8)), ((rh 9), .inl (k 0, 17, .inl fh9)), ((rh 10), .inl (k 0, 17, .inl fh10)), ((rh 11), .inl (k 0, 17, .inl fh11)), ((o 10), .inr (6, [.ref (o 77), .ref (o 78), .ref (o 79)])), ((o 77), .inl (k 6, 4, .inr (.inr (.inr (.inr (fun i => if i < 4 then some (rn i) else none)))))), ((rn j), .inl (k 2, 60, .inr (.inl fnj))), ((o 78), .inl (k 0, 4, .inl f78)), ((o 79), .inl (k 0, 4, .inl f79)), ((o 6), .inr (1, [.ref (o 3), .ref (o 4), .int tlawNow, .int tharder, .int ttold, .int treply, .int twet, .ref (o 73)])), ((o 73), .inl (k 0, 17, .inl f73)), ((o 4), .inr (3, [.ref (o 69), .ref (o 70), .ref (o 71)])), ((o 69), .inl (k 0, 17, .inl f69)), ((o 70), .inl (k 0, 17, .inl f70)), ((o 71), .inl (k 0, 17, .inl f71)), ((o 3), .inr (2, [.int glines, .int (nI ghours), .int glaw, .int godds, .int (nI grows), .int (nI gheads), .int (nI gsayings), .int (nI gslugs), .int (nI gacts), .ref (o 26), .ref (o 27), .ref (o 28), .ref (o 29), .ref (o 30), .ref (o 31), .ref (o 32), .ref (o 33), .ref (o 34), .ref (o 35)])), ((o 26), .inl (k 0, 12, .inl f26)), ((o 30), .inl (k 0, 12, .inl f30)), ((o 31), .inl (k 0, 12, .inl f31))]) S hK hP hD hS 0 rfl cfX5 4 lkX5_55 (by decide) rfl rfl rfl (Nat.le_of_ble_eq_true rfl) rfl dX5_candidates_4 (fun H locs hP hD hS => ?_)
  refine lv_iconst (v := 0) hx hb dX5_candidates_7 (by decide) ?_
  refine lv_istore (lv' := [(4, .int 0), (3, .int 0), (0, .ref (o 11)), (1, .int (nI j)), (2, .int p0)]) hx hb dX5_candidates_8 hl (by decide) rfl (fun ls hl => ?_)
  have lp_113 : ∀ (nn j_92 : Nat) (x_93 : Int32) (x_94 : Int32) (x_95 : Int32) (x_96 : Int32) (x_97 : Int32) (g_98 : Nat → Int32) (x_99 : Int32) (m_100 : Nat) (g_101 : Nat → Int32) (g_102 : Nat → Int32) (g_103 : Nat → Int32) (g_104 : Nat → Int32) (g_105 : Nat → Int32) (g_106 : Nat → Int32) (g_107 : Nat → Int32) (g_108 : Nat → Int32) (g_109 : Nat → Int32) (g_110 : Nat → Int32) (g_111 : Nat → Int32) (g_112 : Nat → Int32) (H : Heap) (locs : List Loc) (ls : Array Slot), j_92 ≤ gheads → gheads - j_92 < nn → m_100 ≤ 12 → m_100 ≤ j_92 → va_P D vwCl [((o 11), .inr (5, [.ref (o 3), .ref (o 10), .ref (o 6), .ref (o 80), .int (nI m_100), .int squestion, .int sleft])), ((o 80), .inl (k 5, 12, .inr (.inr (.inr (.inr (fun i => if i < 12 then some (rh i) else none)))))), ((rh 0), .inl (k 0, 17, .inl g_101)), ((rh 1), .inl (k 0, 17, .inl g_102)), ((rh 2), .inl (k 0, 17, .inl g_103)), ((rh 3), .inl (k 0, 17, .inl g_104)), ((rh 4), .inl (k 0, 17, .inl g_105)), ((rh 5), .inl (k 0, 17, .inl g_106)), ((rh 6), .inl (k 0, 17, .inl g_107)), ((rh 7), .inl (k 0, 17, .inl g_108)), ((rh 8), .inl (k 0, 17, .inl g_109)), ((rh 9), .inl (k 0, 17, .inl g_110)), ((rh 10), .inl (k 0, 17, .inl g_111)), ((rh 11), .inl (k 0, 17, .inl g_112)), ((o 10), .inr (6, [.ref (o 77), .ref (o 78), .ref (o 79)])), ((o 77), .inl (k 6, 4, .inr (.inr (.inr (.inr (fun i => if i < 4 then some (rn i) else none)))))), ((rn j), .inl (k 2, 60, .inr (.inl fnj))), ((o 78), .inl (k 0, 4, .inl f78)), ((o 79), .inl (k 0, 4, .inl f79)), ((o 6), .inr (1, [.ref (o 3), .ref (o 4), .int x_93, .int x_94, .int x_95, .int x_96, .int x_97, .ref (o 73)])), ((o 73), .inl (k 0, 17, .inl g_98)), ((o 4), .inr (3, [.ref (o 69), .ref (o 70), .ref (o 71)])), ((o 69), .inl (k 0, 17, .inl f69)), ((o 70), .inl (k 0, 17, .inl f70)), ((o 71), .inl (k 0, 17, .inl f71)), ((o 3), .inr (2, [.int glines, .int (nI ghours), .int glaw, .int godds, .int (nI grows), .int (nI gheads), .int (nI gsayings), .int (nI gslugs), .int (nI gacts), .ref (o 26), .ref (o 27), .ref (o 28), .ref (o 29), .ref (o 30), .ref (o 31), .ref (o 32), .ref (o 33), .ref (o 34), .ref (o 35)])), ((o 26), .inl (k 0, 12, .inl f26)), ((o 30), .inl (k 0, 12, .inl f30)), ((o 31), .inl (k 0, 12, .inl f31))] H → va_D A [((o 11), .inr (5, [.ref (o 3), .ref (o 10), .ref (o 6), .ref (o 80), .int (nI m_100), .int squestion, .int sleft])), ((o 80), .inl (k 5, 12, .inr (.inr (.inr (.inr (fun i => if i < 12 then some (rh i) else none)))))), ((rh 0), .inl (k 0, 17, .inl g_101)), ((rh 1), .inl (k 0, 17, .inl g_102)), ((rh 2), .inl (k 0, 17, .inl g_103)), ((rh 3), .inl (k 0, 17, .inl g_104)), ((rh 4), .inl (k 0, 17, .inl g_105)), ((rh 5), .inl (k 0, 17, .inl g_106)), ((rh 6), .inl (k 0, 17, .inl g_107)), ((rh 7), .inl (k 0, 17, .inl g_108)), ((rh 8), .inl (k 0, 17, .inl g_109)), ((rh 9), .inl (k 0, 17, .inl g_110)), ((rh 10), .inl (k 0, 17, .inl g_111)), ((rh 11), .inl (k 0, 17, .inl g_112)), ((o 10), .inr (6, [.ref (o 77), .ref (o 78), .ref (o 79)])), ((o 77), .inl (k 6, 4, .inr (.inr (.inr (.inr (fun i => if i < 4 then some (rn i) else none)))))), ((rn j), .inl (k 2, 60, .inr (.inl fnj))), ((o 78), .inl (k 0, 4, .inl f78)), ((o 79), .inl (k 0, 4, .inl f79)), ((o 6), .inr (1, [.ref (o 3), .ref (o 4), .int x_93, .int x_94, .int x_95, .int x_96, .int x_97, .ref (o 73)])), ((o 73), .inl (k 0, 17, .inl g_98)), ((o 4), .inr (3, [.ref (o 69), .ref (o 70), .ref (o 71)])), ((o 69), .inl (k 0, 17, .inl f69)), ((o 70), .inl (k 0, 17, .inl f70)), ((o 71), .inl (k 0, 17, .inl f71)), ((o 3), .inr (2, [.int glines, .int (nI ghours), .int glaw, .int godds, .int (nI grows), .int (nI gheads), .int (nI gsayings), .int (nI gslugs), .int (nI gacts), .ref (o 26), .ref (o 27), .ref (o 28), .ref (o 29), .ref (o 30), .ref (o 31), .ref (o 32), .ref (o 33), .ref (o 34), .ref (o 35)])), ((o 26), .inl (k 0, 12, .inl f26)), ((o 30), .inl (k 0, 12, .inl f30)), ((o 31), .inl (k 0, 12, .inl f31))] → va_S A s.heap H locs → lv_has ls 5 [(4, .int (nI j_92)), (3, .int x_99), (0, .ref (o 11)), (1, .int (nI j)), (2, .int p0)] → W p l e (Rm 4 0 0) s m args below meth c H locs 0 0 Q (F0 m 10 ls []) := by
    intro nn
    induction nn with
    | zero => intro j_92 x_93 x_94 x_95 x_96 x_97 g_98 x_99 m_100 g_101 g_102 g_103 g_104 g_105 g_106 g_107 g_108 g_109 g_110 g_111 g_112 H locs ls hjj_92 hnj_92 hbm_100 hftj_92; exact absurd hnj_92 (by omega)
    | succ nn ihj_92 =>
      intro j_92 x_93 x_94 x_95 x_96 x_97 g_98 x_99 m_100 g_101 g_102 g_103 g_104 g_105 g_106 g_107 g_108 g_109 g_110 g_111 g_112 H locs ls hjj_92 hnj_92 hbm_100 hftj_92 hP hD hS hl
      refine lv_iload hx hb dX5_candidates_10 (lv_at hl 0 rfl) ?_
      refine lv_aload_n hx hb dX5_candidates_12 rfl (lv_at hl 2 rfl) ?_
      refine x_get S hK hP 0 rfl cfX5 0 lkX5_16 (by decide) rfl dX5_candidates_13 ?_
      refine x_get S hK hP 25 rfl cfX2 5 lkX5_38 (by decide) rfl dX5_candidates_16 ?_
      refine lv_icmp_ge (tgt := 95) hx hb dX5_candidates_19 (by decide) (fun c_114 => ?_) (fun c_114 => ?_)
      · skip
        have c_114 : gheads ≤ j_92 := (ni_le rfl rfl (by omega) (by omega)).mp c_114
        refine lv_iload_n hx hb dX5_candidates_95 rfl (lv_at hl 1 rfl) ?_
        exact x_reti S hr hlk hQ hS ((fun i => ([x_93, x_94, x_95, x_96, x_97] : List (Int32)).getD i 0), (fun i => ([m_100] : List (Nat)).getD i 0), (fun i => ([g_98, g_101, g_102, g_111, g_112, g_103, g_104, g_105, g_106, g_107, g_108, g_109, g_110] : List (Nat → Int32)).getD i (fun _ => 0)), (fun i => ([] : List (Nat → Int64)).getD i (fun _ => 0)), (fun i => ([] : List (Int64)).getD i 0)) (show m_100 ≤ 12 by omega) (x_B hP hD) dX5_candidates_96
      · skip
        have c_114 : ¬ gheads ≤ j_92 := fun q => c_114 ((ni_le rfl rfl (by omega) (by omega)).mpr q)
        refine lv_aload_n hx hb dX5_candidates_22 rfl (lv_at hl 2 rfl) ?_
        refine x_get S hK hP 0 rfl cfX5 2 lkX5_24 (by decide) rfl dX5_candidates_23 ?_
        refine lv_iload_n hx hb dX5_candidates_26 rfl (lv_at hl 4 rfl) ?_
        refine lv_iconst (v := 1) hx hb dX5_candidates_27 (by decide) ?_
        refine lv_iload hx hb dX5_candidates_28 (lv_at hl 0 rfl) ?_
        refine lv_ishl hx hb dX5_candidates_30 ?_
        refine lv_topi (fun v_115 ev_115 => ?_)
        refine x_muVv (wr := [((o 11), .inr (5, [.ref (o 3), .ref (o 10), .ref (o 6), .ref (o 80), .int (nI m_100), .int squestion, .int sleft])), ((o 80), .inl (k 5, 12, .inr (.inr (.inr (.inr (fun i => if i < 12 then some (rh i) else none)))))), ((rh 0), .inl (k 0, 17, .inl g_101)), ((rh 1), .inl (k 0, 17, .inl g_102)), ((rh 2), .inl (k 0, 17, .inl g_103)), ((rh 3), .inl (k 0, 17, .inl g_104)), ((rh 4), .inl (k 0, 17, .inl g_105)), ((rh 5), .inl (k 0, 17, .inl g_106)), ((rh 6), .inl (k 0, 17, .inl g_107)), ((rh 7), .inl (k 0, 17, .inl g_108)), ((rh 8), .inl (k 0, 17, .inl g_109)), ((rh 9), .inl (k 0, 17, .inl g_110)), ((rh 10), .inl (k 0, 17, .inl g_111)), ((rh 11), .inl (k 0, 17, .inl g_112)), ((o 10), .inr (6, [.ref (o 77), .ref (o 78), .ref (o 79)])), ((o 77), .inl (k 6, 4, .inr (.inr (.inr (.inr (fun i => if i < 4 then some (rn i) else none)))))), ((rn j), .inl (k 2, 60, .inr (.inl fnj))), ((o 78), .inl (k 0, 4, .inl f78)), ((o 79), .inl (k 0, 4, .inl f79))]) (As := [.int p0, .int v_115]) S hK hP hD hZ hS hA hl mwX1_asTold lkX5_58 (ctX1_asTold_c l D k z (fun i => ([0, 0, 0, (o 3), (o 4), (o 6), 0, 0, 0, 0, 0, 0, 0, 0, 0, 0, 0, 0, 0, 0, 0, 0, 0, 0, 0, 0, (o 26), (o 27), (o 28), (o 29), (o 30), (o 31), (o 32), (o 33), (o 34), (o 35), 0, 0, 0, 0, 0, 0, 0, 0, 0, 0, 0, 0, 0, 0, 0, 0, 0, 0, 0, 0, 0, 0, 0, 0, 0, 0, 0, 0, 0, 0, 0, 0, 0, (o 69), (o 70), (o 71), (o 73)] : List Nat).getD i 0) x_93 x_94 x_95 x_96 x_97 g_98 f69 f70 f71 glines ghours glaw godds grows gheads gsayings gslugs gacts f26 f30 f31 p0 v_115 (by omega) (by omega) (by omega) (by omega) (by omega) (by omega)) [19, 20, 21, 22, 23, 24, 25, 26, 27, 28] [0, 1, 2, 3, 4, 5, 6, 7, 8, 9, 10, 11, 12, 13, 14, 15, 16, 17, 18] rfl rfl (by decide) (by decide) (by decide) rfl rfl rfl rfl rfl ⟨Nat.le_of_ble_eq_true rfl, Nat.le_of_ble_eq_true rfl, Nat.le_of_ble_eq_true rfl⟩ dX5_candidates_31 ⟨Nat.le_of_ble_eq_true rfl, Nat.le_of_ble_eq_true rfl⟩ (fun u_117 H locs hr_116 hP hD hS => ?_)
        have hP : va_P D vwCl [((o 11), .inr (5, [.ref (o 3), .ref (o 10), .ref (o 6), .ref (o 80), .int (nI m_100), .int squestion, .int sleft])), ((o 80), .inl (k 5, 12, .inr (.inr (.inr (.inr (fun i => if i < 12 then some (rh i) else none)))))), ((rh 0), .inl (k 0, 17, .inl g_101)), ((rh 1), .inl (k 0, 17, .inl g_102)), ((rh 2), .inl (k 0, 17, .inl g_103)), ((rh 3), .inl (k 0, 17, .inl g_104)), ((rh 4), .inl (k 0, 17, .inl g_105)), ((rh 5), .inl (k 0, 17, .inl g_106)), ((rh 6), .inl (k 0, 17, .inl g_107)), ((rh 7), .inl (k 0, 17, .inl g_108)), ((rh 8), .inl (k 0, 17, .inl g_109)), ((rh 9), .inl (k 0, 17, .inl g_110)), ((rh 10), .inl (k 0, 17, .inl g_111)), ((rh 11), .inl (k 0, 17, .inl g_112)), ((o 10), .inr (6, [.ref (o 77), .ref (o 78), .ref (o 79)])), ((o 77), .inl (k 6, 4, .inr (.inr (.inr (.inr (fun i => if i < 4 then some (rn i) else none)))))), ((rn j), .inl (k 2, 60, .inr (.inl fnj))), ((o 78), .inl (k 0, 4, .inl f78)), ((o 79), .inl (k 0, 4, .inl f79)), ((o 6), .inr (1, [.ref (o 3), .ref (o 4), .int (u_117.1 0), .int (u_117.1 1), .int (u_117.1 2), .int (u_117.1 3), .int (u_117.1 4), .ref (o 73)])), ((o 73), .inl (k 0, 17, .inl g_98)), ((o 4), .inr (3, [.ref (o 69), .ref (o 70), .ref (o 71)])), ((o 69), .inl (k 0, 17, .inl f69)), ((o 70), .inl (k 0, 17, .inl f70)), ((o 71), .inl (k 0, 17, .inl f71)), ((o 3), .inr (2, [.int glines, .int (nI ghours), .int glaw, .int godds, .int (nI grows), .int (nI gheads), .int (nI gsayings), .int (nI gslugs), .int (nI gacts), .ref (o 26), .ref (o 27), .ref (o 28), .ref (o 29), .ref (o 30), .ref (o 31), .ref (o 32), .ref (o 33), .ref (o 34), .ref (o 35)])), ((o 26), .inl (k 0, 12, .inl f26)), ((o 30), .inl (k 0, 12, .inl f30)), ((o 31), .inl (k 0, 12, .inl f31))] H := hP.sub [0, 1, 2, 3, 4, 5, 6, 7, 8, 9, 10, 11, 12, 13, 14, 15, 16, 17, 18, 19, 20, 21, 22, 23, 24, 25, 26, 27, 28] rfl
        have hD : va_D A [((o 11), .inr (5, [.ref (o 3), .ref (o 10), .ref (o 6), .ref (o 80), .int (nI m_100), .int squestion, .int sleft])), ((o 80), .inl (k 5, 12, .inr (.inr (.inr (.inr (fun i => if i < 12 then some (rh i) else none)))))), ((rh 0), .inl (k 0, 17, .inl g_101)), ((rh 1), .inl (k 0, 17, .inl g_102)), ((rh 2), .inl (k 0, 17, .inl g_103)), ((rh 3), .inl (k 0, 17, .inl g_104)), ((rh 4), .inl (k 0, 17, .inl g_105)), ((rh 5), .inl (k 0, 17, .inl g_106)), ((rh 6), .inl (k 0, 17, .inl g_107)), ((rh 7), .inl (k 0, 17, .inl g_108)), ((rh 8), .inl (k 0, 17, .inl g_109)), ((rh 9), .inl (k 0, 17, .inl g_110)), ((rh 10), .inl (k 0, 17, .inl g_111)), ((rh 11), .inl (k 0, 17, .inl g_112)), ((o 10), .inr (6, [.ref (o 77), .ref (o 78), .ref (o 79)])), ((o 77), .inl (k 6, 4, .inr (.inr (.inr (.inr (fun i => if i < 4 then some (rn i) else none)))))), ((rn j), .inl (k 2, 60, .inr (.inl fnj))), ((o 78), .inl (k 0, 4, .inl f78)), ((o 79), .inl (k 0, 4, .inl f79)), ((o 6), .inr (1, [.ref (o 3), .ref (o 4), .int (u_117.1 0), .int (u_117.1 1), .int (u_117.1 2), .int (u_117.1 3), .int (u_117.1 4), .ref (o 73)])), ((o 73), .inl (k 0, 17, .inl g_98)), ((o 4), .inr (3, [.ref (o 69), .ref (o 70), .ref (o 71)])), ((o 69), .inl (k 0, 17, .inl f69)), ((o 70), .inl (k 0, 17, .inl f70)), ((o 71), .inl (k 0, 17, .inl f71)), ((o 3), .inr (2, [.int glines, .int (nI ghours), .int glaw, .int godds, .int (nI grows), .int (nI gheads), .int (nI gsayings), .int (nI gslugs), .int (nI gacts), .ref (o 26), .ref (o 27), .ref (o 28), .ref (o 29), .ref (o 30), .ref (o 31), .ref (o 32), .ref (o 33), .ref (o 34), .ref (o 35)])), ((o 26), .inl (k 0, 12, .inl f26)), ((o 30), .inl (k 0, 12, .inl f30)), ((o 31), .inl (k 0, 12, .inl f31))] := hD.sub [0, 1, 2, 3, 4, 5, 6, 7, 8, 9, 10, 11, 12, 13, 14, 15, 16, 17, 18, 19, 20, 21, 22, 23, 24, 25, 26, 27, 28] (by decide) rfl
        refine lv_aload_n hx hb dX5_candidates_34 rfl (lv_at hl 2 rfl) ?_
        refine x_get S hK hP 0 rfl cfX5 2 lkX5_24 (by decide) rfl dX5_candidates_35 ?_
        refine x_muVv (wr := [((o 11), .inr (5, [.ref (o 3), .ref (o 10), .ref (o 6), .ref (o 80), .int (nI m_100), .int squestion, .int sleft])), ((o 80), .inl (k 5, 12, .inr (.inr (.inr (.inr (fun i => if i < 12 then some (rh i) else none)))))), ((rh 0), .inl (k 0, 17, .inl g_101)), ((rh 1), .inl (k 0, 17, .inl g_102)), ((rh 2), .inl (k 0, 17, .inl g_103)), ((rh 3), .inl (k 0, 17, .inl g_104)), ((rh 4), .inl (k 0, 17, .inl g_105)), ((rh 5), .inl (k 0, 17, .inl g_106)), ((rh 6), .inl (k 0, 17, .inl g_107)), ((rh 7), .inl (k 0, 17, .inl g_108)), ((rh 8), .inl (k 0, 17, .inl g_109)), ((rh 9), .inl (k 0, 17, .inl g_110)), ((rh 10), .inl (k 0, 17, .inl g_111)), ((rh 11), .inl (k 0, 17, .inl g_112)), ((o 10), .inr (6, [.ref (o 77), .ref (o 78), .ref (o 79)])), ((o 77), .inl (k 6, 4, .inr (.inr (.inr (.inr (fun i => if i < 4 then some (rn i) else none)))))), ((rn j), .inl (k 2, 60, .inr (.inl fnj))), ((o 78), .inl (k 0, 4, .inl f78)), ((o 79), .inl (k 0, 4, .inl f79))]) (As := []) S hK hP hD hZ hS hA hl mwX1_run lkX5_62 (ctX1_run_c l D k z (fun i => ([0, 0, 0, (o 3), (o 4), (o 6), 0, 0, 0, 0, 0, 0, 0, 0, 0, 0, 0, 0, 0, 0, 0, 0, 0, 0, 0, 0, (o 26), (o 27), (o 28), (o 29), (o 30), (o 31), (o 32), (o 33), (o 34), (o 35), 0, 0, 0, 0, 0, 0, 0, 0, 0, 0, 0, 0, 0, 0, 0, 0, 0, 0, 0, 0, 0, 0, 0, 0, 0, 0, 0, 0, 0, 0, 0, 0, 0, (o 69), (o 70), (o 71), (o 73)] : List Nat).getD i 0) (u_117.1 0) (u_117.1 1) (u_117.1 2) (u_117.1 3) (u_117.1 4) g_98 f69 f70 f71 glines ghours glaw godds grows gheads gsayings gslugs gacts f26 f30 f31 (by omega) (by omega) (by omega) (by omega) (by omega) (by omega)) [19, 20, 21, 22, 23, 24, 25, 26, 27, 28] [0, 1, 2, 3, 4, 5, 6, 7, 8, 9, 10, 11, 12, 13, 14, 15, 16, 17, 18] rfl rfl (by decide) (by decide) (by decide) rfl rfl rfl rfl rfl ⟨Nat.le_of_ble_eq_true rfl, Nat.le_of_ble_eq_true rfl, Nat.le_of_ble_eq_true rfl⟩ dX5_candidates_38 ⟨Nat.le_of_ble_eq_true rfl, Nat.le_of_ble_eq_true rfl⟩ (fun u_119 H locs hr_118 hP hD hS => ?_)
        have hP : va_P D vwCl [((o 11), .inr (5, [.ref (o 3), .ref (o 10), .ref (o 6), .ref (o 80), .int (nI m_100), .int squestion, .int sleft])), ((o 80), .inl (k 5, 12, .inr (.inr (.inr (.inr (fun i => if i < 12 then some (rh i) else none)))))), ((rh 0), .inl (k 0, 17, .inl g_101)), ((rh 1), .inl (k 0, 17, .inl g_102)), ((rh 2), .inl (k 0, 17, .inl g_103)), ((rh 3), .inl (k 0, 17, .inl g_104)), ((rh 4), .inl (k 0, 17, .inl g_105)), ((rh 5), .inl (k 0, 17, .inl g_106)), ((rh 6), .inl (k 0, 17, .inl g_107)), ((rh 7), .inl (k 0, 17, .inl g_108)), ((rh 8), .inl (k 0, 17, .inl g_109)), ((rh 9), .inl (k 0, 17, .inl g_110)), ((rh 10), .inl (k 0, 17, .inl g_111)), ((rh 11), .inl (k 0, 17, .inl g_112)), ((o 10), .inr (6, [.ref (o 77), .ref (o 78), .ref (o 79)])), ((o 77), .inl (k 6, 4, .inr (.inr (.inr (.inr (fun i => if i < 4 then some (rn i) else none)))))), ((rn j), .inl (k 2, 60, .inr (.inl fnj))), ((o 78), .inl (k 0, 4, .inl f78)), ((o 79), .inl (k 0, 4, .inl f79)), ((o 6), .inr (1, [.ref (o 3), .ref (o 4), .int (u_117.1 0), .int (u_117.1 1), .int (u_117.1 2), .int (u_117.1 3), .int (u_117.1 4), .ref (o 73)])), ((o 73), .inl (k 0, 17, .inl (u_119.2.2.1 0))), ((o 4), .inr (3, [.ref (o 69), .ref (o 70), .ref (o 71)])), ((o 69), .inl (k 0, 17, .inl f69)), ((o 70), .inl (k 0, 17, .inl f70)), ((o 71), .inl (k 0, 17, .inl f71)), ((o 3), .inr (2, [.int glines, .int (nI ghours), .int glaw, .int godds, .int (nI grows), .int (nI gheads), .int (nI gsayings), .int (nI gslugs), .int (nI gacts), .ref (o 26), .ref (o 27), .ref (o 28), .ref (o 29), .ref (o 30), .ref (o 31), .ref (o 32), .ref (o 33), .ref (o 34), .ref (o 35)])), ((o 26), .inl (k 0, 12, .inl f26)), ((o 30), .inl (k 0, 12, .inl f30)), ((o 31), .inl (k 0, 12, .inl f31))] H := hP.sub [0, 1, 2, 3, 4, 5, 6, 7, 8, 9, 10, 11, 12, 13, 14, 15, 16, 17, 18, 19, 20, 21, 22, 23, 24, 25, 26, 27, 28] rfl
        have hD : va_D A [((o 11), .inr (5, [.ref (o 3), .ref (o 10), .ref (o 6), .ref (o 80), .int (nI m_100), .int squestion, .int sleft])), ((o 80), .inl (k 5, 12, .inr (.inr (.inr (.inr (fun i => if i < 12 then some (rh i) else none)))))), ((rh 0), .inl (k 0, 17, .inl g_101)), ((rh 1), .inl (k 0, 17, .inl g_102)), ((rh 2), .inl (k 0, 17, .inl g_103)), ((rh 3), .inl (k 0, 17, .inl g_104)), ((rh 4), .inl (k 0, 17, .inl g_105)), ((rh 5), .inl (k 0, 17, .inl g_106)), ((rh 6), .inl (k 0, 17, .inl g_107)), ((rh 7), .inl (k 0, 17, .inl g_108)), ((rh 8), .inl (k 0, 17, .inl g_109)), ((rh 9), .inl (k 0, 17, .inl g_110)), ((rh 10), .inl (k 0, 17, .inl g_111)), ((rh 11), .inl (k 0, 17, .inl g_112)), ((o 10), .inr (6, [.ref (o 77), .ref (o 78), .ref (o 79)])), ((o 77), .inl (k 6, 4, .inr (.inr (.inr (.inr (fun i => if i < 4 then some (rn i) else none)))))), ((rn j), .inl (k 2, 60, .inr (.inl fnj))), ((o 78), .inl (k 0, 4, .inl f78)), ((o 79), .inl (k 0, 4, .inl f79)), ((o 6), .inr (1, [.ref (o 3), .ref (o 4), .int (u_117.1 0), .int (u_117.1 1), .int (u_117.1 2), .int (u_117.1 3), .int (u_117.1 4), .ref (o 73)])), ((o 73), .inl (k 0, 17, .inl (u_119.2.2.1 0))), ((o 4), .inr (3, [.ref (o 69), .ref (o 70), .ref (o 71)])), ((o 69), .inl (k 0, 17, .inl f69)), ((o 70), .inl (k 0, 17, .inl f70)), ((o 71), .inl (k 0, 17, .inl f71)), ((o 3), .inr (2, [.int glines, .int (nI ghours), .int glaw, .int godds, .int (nI grows), .int (nI gheads), .int (nI gsayings), .int (nI gslugs), .int (nI gacts), .ref (o 26), .ref (o 27), .ref (o 28), .ref (o 29), .ref (o 30), .ref (o 31), .ref (o 32), .ref (o 33), .ref (o 34), .ref (o 35)])), ((o 26), .inl (k 0, 12, .inl f26)), ((o 30), .inl (k 0, 12, .inl f30)), ((o 31), .inl (k 0, 12, .inl f31))] := hD.sub [0, 1, 2, 3, 4, 5, 6, 7, 8, 9, 10, 11, 12, 13, 14, 15, 16, 17, 18, 19, 20, 21, 22, 23, 24, 25, 26, 27, 28] (by decide) rfl
        refine lv_aload_n hx hb dX5_candidates_41 rfl (lv_at hl 2 rfl) ?_
        refine lv_iload_n hx hb dX5_candidates_42 rfl (lv_at hl 3 rfl) ?_
        refine x_roVi (As := [.int (nI j)]) S hK hP hD hZ (fun _ h => h) hA hS hA hl mwX5_fits lkX5_65 (ctX5_fits l D k z o m_100 squestion sleft rn fnj f78 f79 (u_117.1 0) (u_117.1 1) (u_117.1 2) (u_117.1 3) (u_117.1 4) (u_119.2.2.1 0) f69 f70 f71 glines ghours glaw godds grows gheads gsayings gslugs gacts f26 f30 f31 j q (by omega) (hok) (by omega) (by omega) (by omega) (by omega) (by omega) (by omega) (by omega) (by omega) (hlen) (hso)) [0, 14, 15, 16, 17, 18, 19, 20, 21, 22, 23, 24, 25, 26, 27, 28] rfl (by decide) rfl rfl rfl rfl rfl ⟨Nat.le_of_ble_eq_true rfl, Nat.le_of_ble_eq_true rfl, Nat.le_of_ble_eq_true rfl⟩ dX5_candidates_43 ⟨Nat.le_of_ble_eq_true rfl, Nat.le_of_ble_eq_true rfl⟩ (fun r_120 H locs hr_120 hP hS => ?_)
        refine lv_if_eq (tgt := 89) hx hb dX5_candidates_46 (by decide) (fun c_122 => ?_) (fun c_122 => ?_)
        · skip
          refine lv_iinc (v := (nI (j_92 + 1))) (lv' := [(4, .int (nI (j_92 + 1))), (3, .int x_99), (0, .ref (o 11)), (1, .int (nI j)), (2, .int p0)]) hx hb dX5_candidates_89 hl (k := 0) rfl (ni_inc _) (by decide) rfl (fun ls hl => ?_)
          refine lv_goto (tgt := 10) hx hb dX5_candidates_92 (by decide) ?_
          exact ihj_92 (j_92 + 1) (u_117.1 0) (u_117.1 1) (u_117.1 2) (u_117.1 3) (u_117.1 4) (u_119.2.2.1 0) x_99 m_100 g_101 g_102 g_103 g_104 g_105 g_106 g_107 g_108 g_109 g_110 g_111 g_112 _ _ _ (by omega) (by omega) (by omega) (by omega) hP hD hS (lv_sub hl [0, 1, 2, 3, 4] rfl)
        · skip
          refine lv_iload_n hx hb dX5_candidates_49 rfl (lv_at hl 1 rfl) ?_
          refine lv_iconst (v := 1) hx hb dX5_candidates_50 (by decide) ?_
          refine lv_iload hx hb dX5_candidates_51 (lv_at hl 0 rfl) ?_
          refine lv_ishl hx hb dX5_candidates_53 ?_
          refine lv_topi (fun v_123 ev_123 => ?_)
          refine lv_ior hx hb dX5_candidates_54 ?_
          refine lv_topi (fun v_124 ev_124 => ?_)
          refine lv_istore_n (lv' := [(3, .int v_124), (4, .int (nI j_92)), (0, .ref (o 11)), (1, .int (nI j)), (2, .int p0)]) hx hb dX5_candidates_55 rfl hl (by decide) rfl (fun ls hl => ?_)
          refine lv_aload_n hx hb dX5_candidates_56 rfl (lv_at hl 2 rfl) ?_
          refine x_get S hK hP 0 rfl cfX5 2 lkX5_24 (by decide) rfl dX5_candidates_57 ?_
          refine x_get S hK hP 19 rfl cfX1 7 lkX5_69 (by decide) rfl dX5_candidates_60 ?_
          refine lv_iconst (v := 0) hx hb dX5_candidates_63 (by decide) ?_
          rcases (show m_100 = 0 ∨ m_100 = 1 ∨ m_100 = 2 ∨ m_100 = 3 ∨ m_100 = 4 ∨ m_100 = 5 ∨ m_100 = 6 ∨ m_100 = 7 ∨ m_100 = 8 ∨ m_100 = 9 ∨ m_100 = 10 ∨ m_100 = 11 by omega) with rfl | rfl | rfl | rfl | rfl | rfl | rfl | rfl | rfl | rfl | rfl | rfl
          · skip
            have hP : va_P D vwCl [((o 11), .inr (5, [.ref (o 3), .ref (o 10), .ref (o 6), .ref (o 80), .int (nI 0), .int squestion, .int sleft])), ((o 80), .inl (k 5, 12, .inr (.inr (.inr (.inr (fun i => if i < 12 then some (rh i) else none)))))), ((rh 0), .inl (k 0, 17, .inl g_101)), ((rh 1), .inl (k 0, 17, .inl g_102)), ((rh 2), .inl (k 0, 17, .inl g_103)), ((rh 3), .inl (k 0, 17, .inl g_104)), ((rh 4), .inl (k 0, 17, .inl g_105)), ((rh 5), .inl (k 0, 17, .inl g_106)), ((rh 6), .inl (k 0, 17, .inl g_107)), ((rh 7), .inl (k 0, 17, .inl g_108)), ((rh 8), .inl (k 0, 17, .inl g_109)), ((rh 9), .inl (k 0, 17, .inl g_110)), ((rh 10), .inl (k 0, 17, .inl g_111)), ((rh 11), .inl (k 0, 17, .inl g_112)), ((o 10), .inr (6, [.ref (o 77), .ref (o 78), .ref (o 79)])), ((o 77), .inl (k 6, 4, .inr (.inr (.inr (.inr (fun i => if i < 4 then some (rn i) else none)))))), ((rn j), .inl (k 2, 60, .inr (.inl fnj))), ((o 78), .inl (k 0, 4, .inl f78)), ((o 79), .inl (k 0, 4, .inl f79)), ((o 6), .inr (1, [.ref (o 3), .ref (o 4), .int (u_117.1 0), .int (u_117.1 1), .int (u_117.1 2), .int (u_117.1 3), .int (u_117.1 4), .ref (o 73)])), ((o 73), .inl (k 0, 17, .inl (u_119.2.2.1 0))), ((o 4), .inr (3, [.ref (o 69), .ref (o 70), .ref (o 71)])), ((o 69), .inl (k 0, 17, .inl f69)), ((o 70), .inl (k 0, 17, .inl f70)), ((o 71), .inl (k 0, 17, .inl f71)), ((o 3), .inr (2, [.int glines, .int (nI ghours), .int glaw, .int godds, .int (nI grows), .int (nI gheads), .int (nI gsayings), .int (nI gslugs), .int (nI gacts), .ref (o 26), .ref (o 27), .ref (o 28), .ref (o 29), .ref (o 30), .ref (o 31), .ref (o 32), .ref (o 33), .ref (o 34), .ref (o 35)])), ((o 26), .inl (k 0, 12, .inl f26)), ((o 30), .inl (k 0, 12, .inl f30)), ((o 31), .inl (k 0, 12, .inl f31))] H := hP
            have hD : va_D A [((o 11), .inr (5, [.ref (o 3), .ref (o 10), .ref (o 6), .ref (o 80), .int (nI 0), .int squestion, .int sleft])), ((o 80), .inl (k 5, 12, .inr (.inr (.inr (.inr (fun i => if i < 12 then some (rh i) else none)))))), ((rh 0), .inl (k 0, 17, .inl g_101)), ((rh 1), .inl (k 0, 17, .inl g_102)), ((rh 2), .inl (k 0, 17, .inl g_103)), ((rh 3), .inl (k 0, 17, .inl g_104)), ((rh 4), .inl (k 0, 17, .inl g_105)), ((rh 5), .inl (k 0, 17, .inl g_106)), ((rh 6), .inl (k 0, 17, .inl g_107)), ((rh 7), .inl (k 0, 17, .inl g_108)), ((rh 8), .inl (k 0, 17, .inl g_109)), ((rh 9), .inl (k 0, 17, .inl g_110)), ((rh 10), .inl (k 0, 17, .inl g_111)), ((rh 11), .inl (k 0, 17, .inl g_112)), ((o 10), .inr (6, [.ref (o 77), .ref (o 78), .ref (o 79)])), ((o 77), .inl (k 6, 4, .inr (.inr (.inr (.inr (fun i => if i < 4 then some (rn i) else none)))))), ((rn j), .inl (k 2, 60, .inr (.inl fnj))), ((o 78), .inl (k 0, 4, .inl f78)), ((o 79), .inl (k 0, 4, .inl f79)), ((o 6), .inr (1, [.ref (o 3), .ref (o 4), .int (u_117.1 0), .int (u_117.1 1), .int (u_117.1 2), .int (u_117.1 3), .int (u_117.1 4), .ref (o 73)])), ((o 73), .inl (k 0, 17, .inl (u_119.2.2.1 0))), ((o 4), .inr (3, [.ref (o 69), .ref (o 70), .ref (o 71)])), ((o 69), .inl (k 0, 17, .inl f69)), ((o 70), .inl (k 0, 17, .inl f70)), ((o 71), .inl (k 0, 17, .inl f71)), ((o 3), .inr (2, [.int glines, .int (nI ghours), .int glaw, .int godds, .int (nI grows), .int (nI gheads), .int (nI gsayings), .int (nI gslugs), .int (nI gacts), .ref (o 26), .ref (o 27), .ref (o 28), .ref (o 29), .ref (o 30), .ref (o 31), .ref (o 32), .ref (o 33), .ref (o 34), .ref (o 35)])), ((o 26), .inl (k 0, 12, .inl f26)), ((o 30), .inl (k 0, 12, .inl f30)), ((o 31), .inl (k 0, 12, .inl f31))] := hD
            have hl : lv_has ls 5 [(3, .int v_124), (4, .int (nI j_92)), (0, .ref (o 11)), (1, .int (nI j)), (2, .int p0)] := hl
            refine lv_aload_n hx hb dX5_candidates_64 rfl (lv_at hl 2 rfl) ?_
            refine x_get S hK hP 0 rfl cfX5 3 lkX5_11 (by decide) rfl dX5_candidates_65 ?_
            refine lv_aload_n hx hb dX5_candidates_68 rfl (lv_at hl 2 rfl) ?_
            refine x_get S hK hP 0 rfl cfX5 4 lkX5_55 (by decide) rfl dX5_candidates_69 ?_
            refine x_Iald (v := (rh 0)) S hK hP 1 rfl (vp_lit (by decide)) rfl dX5_candidates_72 ?_
            refine lv_iconst (v := 0) hx hb dX5_candidates_73 (by decide) ?_
            refine lv_bipush (v := 17) hx hb dX5_candidates_74 (by decide) ?_
            refine x_copyi (ws' := fun f_125 => [((o 11), .inr (5, [.ref (o 3), .ref (o 10), .ref (o 6), .ref (o 80), .int (nI 0), .int squestion, .int sleft])), ((o 80), .inl (k 5, 12, .inr (.inr (.inr (.inr (fun i => if i < 12 then some (rh i) else none)))))), ((rh 0), .inl (k 0, 17, .inl f_125)), ((rh 1), .inl (k 0, 17, .inl g_102)), ((rh 2), .inl (k 0, 17, .inl g_103)), ((rh 3), .inl (k 0, 17, .inl g_104)), ((rh 4), .inl (k 0, 17, .inl g_105)), ((rh 5), .inl (k 0, 17, .inl g_106)), ((rh 6), .inl (k 0, 17, .inl g_107)), ((rh 7), .inl (k 0, 17, .inl g_108)), ((rh 8), .inl (k 0, 17, .inl g_109)), ((rh 9), .inl (k 0, 17, .inl g_110)), ((rh 10), .inl (k 0, 17, .inl g_111)), ((rh 11), .inl (k 0, 17, .inl g_112)), ((o 10), .inr (6, [.ref (o 77), .ref (o 78), .ref (o 79)])), ((o 77), .inl (k 6, 4, .inr (.inr (.inr (.inr (fun i => if i < 4 then some (rn i) else none)))))), ((rn j), .inl (k 2, 60, .inr (.inl fnj))), ((o 78), .inl (k 0, 4, .inl f78)), ((o 79), .inl (k 0, 4, .inl f79)), ((o 6), .inr (1, [.ref (o 3), .ref (o 4), .int (u_117.1 0), .int (u_117.1 1), .int (u_117.1 2), .int (u_117.1 3), .int (u_117.1 4), .ref (o 73)])), ((o 73), .inl (k 0, 17, .inl (u_119.2.2.1 0))), ((o 4), .inr (3, [.ref (o 69), .ref (o 70), .ref (o 71)])), ((o 69), .inl (k 0, 17, .inl f69)), ((o 70), .inl (k 0, 17, .inl f70)), ((o 71), .inl (k 0, 17, .inl f71)), ((o 3), .inr (2, [.int glines, .int (nI ghours), .int glaw, .int godds, .int (nI grows), .int (nI gheads), .int (nI gsayings), .int (nI gslugs), .int (nI gacts), .ref (o 26), .ref (o 27), .ref (o 28), .ref (o 29), .ref (o 30), .ref (o 31), .ref (o 32), .ref (o 33), .ref (o 34), .ref (o 35)])), ((o 26), .inl (k 0, 12, .inl f26)), ((o 30), .inl (k 0, 12, .inl f30)), ((o 31), .inl (k 0, 12, .inl f31))]) S hK hP hD hS hl lkX5_72 20 2 rfl rfl (ni_nn (a := 0) (by decide) (by omega)) (ni_nn (a := 0) (by decide) (by omega)) (ni_nn (a := 17) (by decide) (by omega)) (ni_cp (a := 0) (b := 17) (by decide) (by decide) (by omega) (by omega) (by omega)) (ni_cp (a := 0) (b := 17) (by decide) (by decide) (by omega) (by omega) (by omega)) ⟨Nat.le_of_ble_eq_true rfl, Nat.le_of_ble_eq_true rfl⟩ (fun _ => rfl) dX5_candidates_76 (fun f_125 H locs ef_125 hP hD hS => ?_)
            refine lv_aload_n hx hb dX5_candidates_79 rfl (lv_at hl 2 rfl) ?_
            refine lv_dup hx hb dX5_candidates_80 rfl ?_
            refine x_get S hK hP 0 rfl cfX5 4 lkX5_55 (by decide) rfl dX5_candidates_81 ?_
            refine lv_iconst (v := 1) hx hb dX5_candidates_84 (by decide) ?_
            refine lv_iadd hx hb dX5_candidates_85 ?_
            refine x_is 1 (by decide) ?_
            refine x_put (ws' := [((o 11), .inr (5, [.ref (o 3), .ref (o 10), .ref (o 6), .ref (o 80), .int 1, .int squestion, .int sleft])), ((o 80), .inl (k 5, 12, .inr (.inr (.inr (.inr (fun i => if i < 12 then some (rh i) else none)))))), ((rh 0), .inl (k 0, 17, .inl f_125)), ((rh 1), .inl (k 0, 17, .inl g_102)), ((rh 2), .inl (k 0, 17, .inl g_103)), ((rh 3), .inl (k 0, 17, .inl g_104)), ((rh 4), .inl (k 0, 17, .inl g_105)), ((rh 5), .inl (k 0, 17, .inl g_106)), ((rh 6), .inl (k 0, 17, .inl g_107)), ((rh 7), .inl (k 0, 17, .inl g_108)), ((rh 8), .inl (k 0, 17, .inl g_109)), ((rh 9), .inl (k 0, 17, .inl g_110)), ((rh 10), .inl (k 0, 17, .inl g_111)), ((rh 11), .inl (k 0, 17, .inl g_112)), ((o 10), .inr (6, [.ref (o 77), .ref (o 78), .ref (o 79)])), ((o 77), .inl (k 6, 4, .inr (.inr (.inr (.inr (fun i => if i < 4 then some (rn i) else none)))))), ((rn j), .inl (k 2, 60, .inr (.inl fnj))), ((o 78), .inl (k 0, 4, .inl f78)), ((o 79), .inl (k 0, 4, .inl f79)), ((o 6), .inr (1, [.ref (o 3), .ref (o 4), .int (u_117.1 0), .int (u_117.1 1), .int (u_117.1 2), .int (u_117.1 3), .int (u_117.1 4), .ref (o 73)])), ((o 73), .inl (k 0, 17, .inl (u_119.2.2.1 0))), ((o 4), .inr (3, [.ref (o 69), .ref (o 70), .ref (o 71)])), ((o 69), .inl (k 0, 17, .inl f69)), ((o 70), .inl (k 0, 17, .inl f70)), ((o 71), .inl (k 0, 17, .inl f71)), ((o 3), .inr (2, [.int glines, .int (nI ghours), .int glaw, .int godds, .int (nI grows), .int (nI gheads), .int (nI gsayings), .int (nI gslugs), .int (nI gacts), .ref (o 26), .ref (o 27), .ref (o 28), .ref (o 29), .ref (o 30), .ref (o 31), .ref (o 32), .ref (o 33), .ref (o 34), .ref (o 35)])), ((o 26), .inl (k 0, 12, .inl f26)), ((o 30), .inl (k 0, 12, .inl f30)), ((o 31), .inl (k 0, 12, .inl f31))]) S hK hP hD hS 0 rfl cfX5 4 lkX5_55 (by decide) rfl rfl rfl (Nat.le_of_ble_eq_true rfl) rfl dX5_candidates_86 (fun H locs hP hD hS => ?_)
            refine lv_iinc (v := (nI (j_92 + 1))) (lv' := [(4, .int (nI (j_92 + 1))), (3, .int v_124), (0, .ref (o 11)), (1, .int (nI j)), (2, .int p0)]) hx hb dX5_candidates_89 hl (k := 1) rfl (ni_inc _) (by decide) rfl (fun ls hl => ?_)
            refine lv_goto (tgt := 10) hx hb dX5_candidates_92 (by decide) ?_
            exact ihj_92 (j_92 + 1) (u_117.1 0) (u_117.1 1) (u_117.1 2) (u_117.1 3) (u_117.1 4) (u_119.2.2.1 0) v_124 1 f_125 g_102 g_103 g_104 g_105 g_106 g_107 g_108 g_109 g_110 g_111 g_112 _ _ _ (by omega) (by omega) (by omega) (by omega) hP hD hS (lv_sub hl [0, 1, 2, 3, 4] rfl)
          · skip
            have hP : va_P D vwCl [((o 11), .inr (5, [.ref (o 3), .ref (o 10), .ref (o 6), .ref (o 80), .int (nI 1), .int squestion, .int sleft])), ((o 80), .inl (k 5, 12, .inr (.inr (.inr (.inr (fun i => if i < 12 then some (rh i) else none)))))), ((rh 0), .inl (k 0, 17, .inl g_101)), ((rh 1), .inl (k 0, 17, .inl g_102)), ((rh 2), .inl (k 0, 17, .inl g_103)), ((rh 3), .inl (k 0, 17, .inl g_104)), ((rh 4), .inl (k 0, 17, .inl g_105)), ((rh 5), .inl (k 0, 17, .inl g_106)), ((rh 6), .inl (k 0, 17, .inl g_107)), ((rh 7), .inl (k 0, 17, .inl g_108)), ((rh 8), .inl (k 0, 17, .inl g_109)), ((rh 9), .inl (k 0, 17, .inl g_110)), ((rh 10), .inl (k 0, 17, .inl g_111)), ((rh 11), .inl (k 0, 17, .inl g_112)), ((o 10), .inr (6, [.ref (o 77), .ref (o 78), .ref (o 79)])), ((o 77), .inl (k 6, 4, .inr (.inr (.inr (.inr (fun i => if i < 4 then some (rn i) else none)))))), ((rn j), .inl (k 2, 60, .inr (.inl fnj))), ((o 78), .inl (k 0, 4, .inl f78)), ((o 79), .inl (k 0, 4, .inl f79)), ((o 6), .inr (1, [.ref (o 3), .ref (o 4), .int (u_117.1 0), .int (u_117.1 1), .int (u_117.1 2), .int (u_117.1 3), .int (u_117.1 4), .ref (o 73)])), ((o 73), .inl (k 0, 17, .inl (u_119.2.2.1 0))), ((o 4), .inr (3, [.ref (o 69), .ref (o 70), .ref (o 71)])), ((o 69), .inl (k 0, 17, .inl f69)), ((o 70), .inl (k 0, 17, .inl f70)), ((o 71), .inl (k 0, 17, .inl f71)), ((o 3), .inr (2, [.int glines, .int (nI ghours), .int glaw, .int godds, .int (nI grows), .int (nI gheads), .int (nI gsayings), .int (nI gslugs), .int (nI gacts), .ref (o 26), .ref (o 27), .ref (o 28), .ref (o 29), .ref (o 30), .ref (o 31), .ref (o 32), .ref (o 33), .ref (o 34), .ref (o 35)])), ((o 26), .inl (k 0, 12, .inl f26)), ((o 30), .inl (k 0, 12, .inl f30)), ((o 31), .inl (k 0, 12, .inl f31))] H := hP
            have hD : va_D A [((o 11), .inr (5, [.ref (o 3), .ref (o 10), .ref (o 6), .ref (o 80), .int (nI 1), .int squestion, .int sleft])), ((o 80), .inl (k 5, 12, .inr (.inr (.inr (.inr (fun i => if i < 12 then some (rh i) else none)))))), ((rh 0), .inl (k 0, 17, .inl g_101)), ((rh 1), .inl (k 0, 17, .inl g_102)), ((rh 2), .inl (k 0, 17, .inl g_103)), ((rh 3), .inl (k 0, 17, .inl g_104)), ((rh 4), .inl (k 0, 17, .inl g_105)), ((rh 5), .inl (k 0, 17, .inl g_106)), ((rh 6), .inl (k 0, 17, .inl g_107)), ((rh 7), .inl (k 0, 17, .inl g_108)), ((rh 8), .inl (k 0, 17, .inl g_109)), ((rh 9), .inl (k 0, 17, .inl g_110)), ((rh 10), .inl (k 0, 17, .inl g_111)), ((rh 11), .inl (k 0, 17, .inl g_112)), ((o 10), .inr (6, [.ref (o 77), .ref (o 78), .ref (o 79)])), ((o 77), .inl (k 6, 4, .inr (.inr (.inr (.inr (fun i => if i < 4 then some (rn i) else none)))))), ((rn j), .inl (k 2, 60, .inr (.inl fnj))), ((o 78), .inl (k 0, 4, .inl f78)), ((o 79), .inl (k 0, 4, .inl f79)), ((o 6), .inr (1, [.ref (o 3), .ref (o 4), .int (u_117.1 0), .int (u_117.1 1), .int (u_117.1 2), .int (u_117.1 3), .int (u_117.1 4), .ref (o 73)])), ((o 73), .inl (k 0, 17, .inl (u_119.2.2.1 0))), ((o 4), .inr (3, [.ref (o 69), .ref (o 70), .ref (o 71)])), ((o 69), .inl (k 0, 17, .inl f69)), ((o 70), .inl (k 0, 17, .inl f70)), ((o 71), .inl (k 0, 17, .inl f71)), ((o 3), .inr (2, [.int glines, .int (nI ghours), .int glaw, .int godds, .int (nI grows), .int (nI gheads), .int (nI gsayings), .int (nI gslugs), .int (nI gacts), .ref (o 26), .ref (o 27), .ref (o 28), .ref (o 29), .ref (o 30), .ref (o 31), .ref (o 32), .ref (o 33), .ref (o 34), .ref (o 35)])), ((o 26), .inl (k 0, 12, .inl f26)), ((o 30), .inl (k 0, 12, .inl f30)), ((o 31), .inl (k 0, 12, .inl f31))] := hD
            have hl : lv_has ls 5 [(3, .int v_124), (4, .int (nI j_92)), (0, .ref (o 11)), (1, .int (nI j)), (2, .int p0)] := hl
            refine lv_aload_n hx hb dX5_candidates_64 rfl (lv_at hl 2 rfl) ?_
            refine x_get S hK hP 0 rfl cfX5 3 lkX5_11 (by decide) rfl dX5_candidates_65 ?_
            refine lv_aload_n hx hb dX5_candidates_68 rfl (lv_at hl 2 rfl) ?_
            refine x_get S hK hP 0 rfl cfX5 4 lkX5_55 (by decide) rfl dX5_candidates_69 ?_
            refine x_Iald (v := (rh 1)) S hK hP 1 rfl (vp_lit (by decide)) rfl dX5_candidates_72 ?_
            refine lv_iconst (v := 0) hx hb dX5_candidates_73 (by decide) ?_
            refine lv_bipush (v := 17) hx hb dX5_candidates_74 (by decide) ?_
            refine x_copyi (ws' := fun f_126 => [((o 11), .inr (5, [.ref (o 3), .ref (o 10), .ref (o 6), .ref (o 80), .int (nI 1), .int squestion, .int sleft])), ((o 80), .inl (k 5, 12, .inr (.inr (.inr (.inr (fun i => if i < 12 then some (rh i) else none)))))), ((rh 0), .inl (k 0, 17, .inl g_101)), ((rh 1), .inl (k 0, 17, .inl f_126)), ((rh 2), .inl (k 0, 17, .inl g_103)), ((rh 3), .inl (k 0, 17, .inl g_104)), ((rh 4), .inl (k 0, 17, .inl g_105)), ((rh 5), .inl (k 0, 17, .inl g_106)), ((rh 6), .inl (k 0, 17, .inl g_107)), ((rh 7), .inl (k 0, 17, .inl g_108)), ((rh 8), .inl (k 0, 17, .inl g_109)), ((rh 9), .inl (k 0, 17, .inl g_110)), ((rh 10), .inl (k 0, 17, .inl g_111)), ((rh 11), .inl (k 0, 17, .inl g_112)), ((o 10), .inr (6, [.ref (o 77), .ref (o 78), .ref (o 79)])), ((o 77), .inl (k 6, 4, .inr (.inr (.inr (.inr (fun i => if i < 4 then some (rn i) else none)))))), ((rn j), .inl (k 2, 60, .inr (.inl fnj))), ((o 78), .inl (k 0, 4, .inl f78)), ((o 79), .inl (k 0, 4, .inl f79)), ((o 6), .inr (1, [.ref (o 3), .ref (o 4), .int (u_117.1 0), .int (u_117.1 1), .int (u_117.1 2), .int (u_117.1 3), .int (u_117.1 4), .ref (o 73)])), ((o 73), .inl (k 0, 17, .inl (u_119.2.2.1 0))), ((o 4), .inr (3, [.ref (o 69), .ref (o 70), .ref (o 71)])), ((o 69), .inl (k 0, 17, .inl f69)), ((o 70), .inl (k 0, 17, .inl f70)), ((o 71), .inl (k 0, 17, .inl f71)), ((o 3), .inr (2, [.int glines, .int (nI ghours), .int glaw, .int godds, .int (nI grows), .int (nI gheads), .int (nI gsayings), .int (nI gslugs), .int (nI gacts), .ref (o 26), .ref (o 27), .ref (o 28), .ref (o 29), .ref (o 30), .ref (o 31), .ref (o 32), .ref (o 33), .ref (o 34), .ref (o 35)])), ((o 26), .inl (k 0, 12, .inl f26)), ((o 30), .inl (k 0, 12, .inl f30)), ((o 31), .inl (k 0, 12, .inl f31))]) S hK hP hD hS hl lkX5_72 20 3 rfl rfl (ni_nn (a := 0) (by decide) (by omega)) (ni_nn (a := 0) (by decide) (by omega)) (ni_nn (a := 17) (by decide) (by omega)) (ni_cp (a := 0) (b := 17) (by decide) (by decide) (by omega) (by omega) (by omega)) (ni_cp (a := 0) (b := 17) (by decide) (by decide) (by omega) (by omega) (by omega)) ⟨Nat.le_of_ble_eq_true rfl, Nat.le_of_ble_eq_true rfl⟩ (fun _ => rfl) dX5_candidates_76 (fun f_126 H locs ef_126 hP hD hS => ?_)
            refine lv_aload_n hx hb dX5_candidates_79 rfl (lv_at hl 2 rfl) ?_
            refine lv_dup hx hb dX5_candidates_80 rfl ?_
            refine x_get S hK hP 0 rfl cfX5 4 lkX5_55 (by decide) rfl dX5_candidates_81 ?_
            refine lv_iconst (v := 1) hx hb dX5_candidates_84 (by decide) ?_
            refine lv_iadd hx hb dX5_candidates_85 ?_
            refine x_is 2 (by decide) ?_
            refine x_put (ws' := [((o 11), .inr (5, [.ref (o 3), .ref (o 10), .ref (o 6), .ref (o 80), .int 2, .int squestion, .int sleft])), ((o 80), .inl (k 5, 12, .inr (.inr (.inr (.inr (fun i => if i < 12 then some (rh i) else none)))))), ((rh 0), .inl (k 0, 17, .inl g_101)), ((rh 1), .inl (k 0, 17, .inl f_126)), ((rh 2), .inl (k 0, 17, .inl g_103)), ((rh 3), .inl (k 0, 17, .inl g_104)), ((rh 4), .inl (k 0, 17, .inl g_105)), ((rh 5), .inl (k 0, 17, .inl g_106)), ((rh 6), .inl (k 0, 17, .inl g_107)), ((rh 7), .inl (k 0, 17, .inl g_108)), ((rh 8), .inl (k 0, 17, .inl g_109)), ((rh 9), .inl (k 0, 17, .inl g_110)), ((rh 10), .inl (k 0, 17, .inl g_111)), ((rh 11), .inl (k 0, 17, .inl g_112)), ((o 10), .inr (6, [.ref (o 77), .ref (o 78), .ref (o 79)])), ((o 77), .inl (k 6, 4, .inr (.inr (.inr (.inr (fun i => if i < 4 then some (rn i) else none)))))), ((rn j), .inl (k 2, 60, .inr (.inl fnj))), ((o 78), .inl (k 0, 4, .inl f78)), ((o 79), .inl (k 0, 4, .inl f79)), ((o 6), .inr (1, [.ref (o 3), .ref (o 4), .int (u_117.1 0), .int (u_117.1 1), .int (u_117.1 2), .int (u_117.1 3), .int (u_117.1 4), .ref (o 73)])), ((o 73), .inl (k 0, 17, .inl (u_119.2.2.1 0))), ((o 4), .inr (3, [.ref (o 69), .ref (o 70), .ref (o 71)])), ((o 69), .inl (k 0, 17, .inl f69)), ((o 70), .inl (k 0, 17, .inl f70)), ((o 71), .inl (k 0, 17, .inl f71)), ((o 3), .inr (2, [.int glines, .int (nI ghours), .int glaw, .int godds, .int (nI grows), .int (nI gheads), .int (nI gsayings), .int (nI gslugs), .int (nI gacts), .ref (o 26), .ref (o 27), .ref (o 28), .ref (o 29), .ref (o 30), .ref (o 31), .ref (o 32), .ref (o 33), .ref (o 34), .ref (o 35)])), ((o 26), .inl (k 0, 12, .inl f26)), ((o 30), .inl (k 0, 12, .inl f30)), ((o 31), .inl (k 0, 12, .inl f31))]) S hK hP hD hS 0 rfl cfX5 4 lkX5_55 (by decide) rfl rfl rfl (Nat.le_of_ble_eq_true rfl) rfl dX5_candidates_86 (fun H locs hP hD hS => ?_)
            refine lv_iinc (v := (nI (j_92 + 1))) (lv' := [(4, .int (nI (j_92 + 1))), (3, .int v_124), (0, .ref (o 11)), (1, .int (nI j)), (2, .int p0)]) hx hb dX5_candidates_89 hl (k := 1) rfl (ni_inc _) (by decide) rfl (fun ls hl => ?_)
            refine lv_goto (tgt := 10) hx hb dX5_candidates_92 (by decide) ?_
            exact ihj_92 (j_92 + 1) (u_117.1 0) (u_117.1 1) (u_117.1 2) (u_117.1 3) (u_117.1 4) (u_119.2.2.1 0) v_124 2 g_101 f_126 g_103 g_104 g_105 g_106 g_107 g_108 g_109 g_110 g_111 g_112 _ _ _ (by omega) (by omega) (by omega) (by omega) hP hD hS (lv_sub hl [0, 1, 2, 3, 4] rfl)
          · skip
            have hP : va_P D vwCl [((o 11), .inr (5, [.ref (o 3), .ref (o 10), .ref (o 6), .ref (o 80), .int (nI 2), .int squestion, .int sleft])), ((o 80), .inl (k 5, 12, .inr (.inr (.inr (.inr (fun i => if i < 12 then some (rh i) else none)))))), ((rh 0), .inl (k 0, 17, .inl g_101)), ((rh 1), .inl (k 0, 17, .inl g_102)), ((rh 2), .inl (k 0, 17, .inl g_103)), ((rh 3), .inl (k 0, 17, .inl g_104)), ((rh 4), .inl (k 0, 17, .inl g_105)), ((rh 5), .inl (k 0, 17, .inl g_106)), ((rh 6), .inl (k 0, 17, .inl g_107)), ((rh 7), .inl (k 0, 17, .inl g_108)), ((rh 8), .inl (k 0, 17, .inl g_109)), ((rh 9), .inl (k 0, 17, .inl g_110)), ((rh 10), .inl (k 0, 17, .inl g_111)), ((rh 11), .inl (k 0, 17, .inl g_112)), ((o 10), .inr (6, [.ref (o 77), .ref (o 78), .ref (o 79)])), ((o 77), .inl (k 6, 4, .inr (.inr (.inr (.inr (fun i => if i < 4 then some (rn i) else none)))))), ((rn j), .inl (k 2, 60, .inr (.inl fnj))), ((o 78), .inl (k 0, 4, .inl f78)), ((o 79), .inl (k 0, 4, .inl f79)), ((o 6), .inr (1, [.ref (o 3), .ref (o 4), .int (u_117.1 0), .int (u_117.1 1), .int (u_117.1 2), .int (u_117.1 3), .int (u_117.1 4), .ref (o 73)])), ((o 73), .inl (k 0, 17, .inl (u_119.2.2.1 0))), ((o 4), .inr (3, [.ref (o 69), .ref (o 70), .ref (o 71)])), ((o 69), .inl (k 0, 17, .inl f69)), ((o 70), .inl (k 0, 17, .inl f70)), ((o 71), .inl (k 0, 17, .inl f71)), ((o 3), .inr (2, [.int glines, .int (nI ghours), .int glaw, .int godds, .int (nI grows), .int (nI gheads), .int (nI gsayings), .int (nI gslugs), .int (nI gacts), .ref (o 26), .ref (o 27), .ref (o 28), .ref (o 29), .ref (o 30), .ref (o 31), .ref (o 32), .ref (o 33), .ref (o 34), .ref (o 35)])), ((o 26), .inl (k 0, 12, .inl f26)), ((o 30), .inl (k 0, 12, .inl f30)), ((o 31), .inl (k 0, 12, .inl f31))] H := hP
            have hD : va_D A [((o 11), .inr (5, [.ref (o 3), .ref (o 10), .ref (o 6), .ref (o 80), .int (nI 2), .int squestion, .int sleft])), ((o 80), .inl (k 5, 12, .inr (.inr (.inr (.inr (fun i => if i < 12 then some (rh i) else none)))))), ((rh 0), .inl (k 0, 17, .inl g_101)), ((rh 1), .inl (k 0, 17, .inl g_102)), ((rh 2), .inl (k 0, 17, .inl g_103)), ((rh 3), .inl (k 0, 17, .inl g_104)), ((rh 4), .inl (k 0, 17, .inl g_105)), ((rh 5), .inl (k 0, 17, .inl g_106)), ((rh 6), .inl (k 0, 17, .inl g_107)), ((rh 7), .inl (k 0, 17, .inl g_108)), ((rh 8), .inl (k 0, 17, .inl g_109)), ((rh 9), .inl (k 0, 17, .inl g_110)), ((rh 10), .inl (k 0, 17, .inl g_111)), ((rh 11), .inl (k 0, 17, .inl g_112)), ((o 10), .inr (6, [.ref (o 77), .ref (o 78), .ref (o 79)])), ((o 77), .inl (k 6, 4, .inr (.inr (.inr (.inr (fun i => if i < 4 then some (rn i) else none)))))), ((rn j), .inl (k 2, 60, .inr (.inl fnj))), ((o 78), .inl (k 0, 4, .inl f78)), ((o 79), .inl (k 0, 4, .inl f79)), ((o 6), .inr (1, [.ref (o 3), .ref (o 4), .int (u_117.1 0), .int (u_117.1 1), .int (u_117.1 2), .int (u_117.1 3), .int (u_117.1 4), .ref (o 73)])), ((o 73), .inl (k 0, 17, .inl (u_119.2.2.1 0))), ((o 4), .inr (3, [.ref (o 69), .ref (o 70), .ref (o 71)])), ((o 69), .inl (k 0, 17, .inl f69)), ((o 70), .inl (k 0, 17, .inl f70)), ((o 71), .inl (k 0, 17, .inl f71)), ((o 3), .inr (2, [.int glines, .int (nI ghours), .int glaw, .int godds, .int (nI grows), .int (nI gheads), .int (nI gsayings), .int (nI gslugs), .int (nI gacts), .ref (o 26), .ref (o 27), .ref (o 28), .ref (o 29), .ref (o 30), .ref (o 31), .ref (o 32), .ref (o 33), .ref (o 34), .ref (o 35)])), ((o 26), .inl (k 0, 12, .inl f26)), ((o 30), .inl (k 0, 12, .inl f30)), ((o 31), .inl (k 0, 12, .inl f31))] := hD
            have hl : lv_has ls 5 [(3, .int v_124), (4, .int (nI j_92)), (0, .ref (o 11)), (1, .int (nI j)), (2, .int p0)] := hl
            refine lv_aload_n hx hb dX5_candidates_64 rfl (lv_at hl 2 rfl) ?_
            refine x_get S hK hP 0 rfl cfX5 3 lkX5_11 (by decide) rfl dX5_candidates_65 ?_
            refine lv_aload_n hx hb dX5_candidates_68 rfl (lv_at hl 2 rfl) ?_
            refine x_get S hK hP 0 rfl cfX5 4 lkX5_55 (by decide) rfl dX5_candidates_69 ?_
            refine x_Iald (v := (rh 2)) S hK hP 1 rfl (vp_lit (by decide)) rfl dX5_candidates_72 ?_
            refine lv_iconst (v := 0) hx hb dX5_candidates_73 (by decide) ?_
            refine lv_bipush (v := 17) hx hb dX5_candidates_74 (by decide) ?_
            refine x_copyi (ws' := fun f_127 => [((o 11), .inr (5, [.ref (o 3), .ref (o 10), .ref (o 6), .ref (o 80), .int (nI 2), .int squestion, .int sleft])), ((o 80), .inl (k 5, 12, .inr (.inr (.inr (.inr (fun i => if i < 12 then some (rh i) else none)))))), ((rh 0), .inl (k 0, 17, .inl g_101)), ((rh 1), .inl (k 0, 17, .inl g_102)), ((rh 2), .inl (k 0, 17, .inl f_127)), ((rh 3), .inl (k 0, 17, .inl g_104)), ((rh 4), .inl (k 0, 17, .inl g_105)), ((rh 5), .inl (k 0, 17, .inl g_106)), ((rh 6), .inl (k 0, 17, .inl g_107)), ((rh 7), .inl (k 0, 17, .inl g_108)), ((rh 8), .inl (k 0, 17, .inl g_109)), ((rh 9), .inl (k 0, 17, .inl g_110)), ((rh 10), .inl (k 0, 17, .inl g_111)), ((rh 11), .inl (k 0, 17, .inl g_112)), ((o 10), .inr (6, [.ref (o 77), .ref (o 78), .ref (o 79)])), ((o 77), .inl (k 6, 4, .inr (.inr (.inr (.inr (fun i => if i < 4 then some (rn i) else none)))))), ((rn j), .inl (k 2, 60, .inr (.inl fnj))), ((o 78), .inl (k 0, 4, .inl f78)), ((o 79), .inl (k 0, 4, .inl f79)), ((o 6), .inr (1, [.ref (o 3), .ref (o 4), .int (u_117.1 0), .int (u_117.1 1), .int (u_117.1 2), .int (u_117.1 3), .int (u_117.1 4), .ref (o 73)])), ((o 73), .inl (k 0, 17, .inl (u_119.2.2.1 0))), ((o 4), .inr (3, [.ref (o 69), .ref (o 70), .ref (o 71)])), ((o 69), .inl (k 0, 17, .inl f69)), ((o 70), .inl (k 0, 17, .inl f70)), ((o 71), .inl (k 0, 17, .inl f71)), ((o 3), .inr (2, [.int glines, .int (nI ghours), .int glaw, .int godds, .int (nI grows), .int (nI gheads), .int (nI gsayings), .int (nI gslugs), .int (nI gacts), .ref (o 26), .ref (o 27), .ref (o 28), .ref (o 29), .ref (o 30), .ref (o 31), .ref (o 32), .ref (o 33), .ref (o 34), .ref (o 35)])), ((o 26), .inl (k 0, 12, .inl f26)), ((o 30), .inl (k 0, 12, .inl f30)), ((o 31), .inl (k 0, 12, .inl f31))]) S hK hP hD hS hl lkX5_72 20 4 rfl rfl (ni_nn (a := 0) (by decide) (by omega)) (ni_nn (a := 0) (by decide) (by omega)) (ni_nn (a := 17) (by decide) (by omega)) (ni_cp (a := 0) (b := 17) (by decide) (by decide) (by omega) (by omega) (by omega)) (ni_cp (a := 0) (b := 17) (by decide) (by decide) (by omega) (by omega) (by omega)) ⟨Nat.le_of_ble_eq_true rfl, Nat.le_of_ble_eq_true rfl⟩ (fun _ => rfl) dX5_candidates_76 (fun f_127 H locs ef_127 hP hD hS => ?_)
            refine lv_aload_n hx hb dX5_candidates_79 rfl (lv_at hl 2 rfl) ?_
            refine lv_dup hx hb dX5_candidates_80 rfl ?_
            refine x_get S hK hP 0 rfl cfX5 4 lkX5_55 (by decide) rfl dX5_candidates_81 ?_
            refine lv_iconst (v := 1) hx hb dX5_candidates_84 (by decide) ?_
            refine lv_iadd hx hb dX5_candidates_85 ?_
            refine x_is 3 (by decide) ?_
            refine x_put (ws' := [((o 11), .inr (5, [.ref (o 3), .ref (o 10), .ref (o 6), .ref (o 80), .int 3, .int squestion, .int sleft])), ((o 80), .inl (k 5, 12, .inr (.inr (.inr (.inr (fun i => if i < 12 then some (rh i) else none)))))), ((rh 0), .inl (k 0, 17, .inl g_101)), ((rh 1), .inl (k 0, 17, .inl g_102)), ((rh 2), .inl (k 0, 17, .inl f_127)), ((rh 3), .inl (k 0, 17, .inl g_104)), ((rh 4), .inl (k 0, 17, .inl g_105)), ((rh 5), .inl (k 0, 17, .inl g_106)), ((rh 6), .inl (k 0, 17, .inl g_107)), ((rh 7), .inl (k 0, 17, .inl g_108)), ((rh 8), .inl (k 0, 17, .inl g_109)), ((rh 9), .inl (k 0, 17, .inl g_110)), ((rh 10), .inl (k 0, 17, .inl g_111)), ((rh 11), .inl (k 0, 17, .inl g_112)), ((o 10), .inr (6, [.ref (o 77), .ref (o 78), .ref (o 79)])), ((o 77), .inl (k 6, 4, .inr (.inr (.inr (.inr (fun i => if i < 4 then some (rn i) else none)))))), ((rn j), .inl (k 2, 60, .inr (.inl fnj))), ((o 78), .inl (k 0, 4, .inl f78)), ((o 79), .inl (k 0, 4, .inl f79)), ((o 6), .inr (1, [.ref (o 3), .ref (o 4), .int (u_117.1 0), .int (u_117.1 1), .int (u_117.1 2), .int (u_117.1 3), .int (u_117.1 4), .ref (o 73)])), ((o 73), .inl (k 0, 17, .inl (u_119.2.2.1 0))), ((o 4), .inr (3, [.ref (o 69), .ref (o 70), .ref (o 71)])), ((o 69), .inl (k 0, 17, .inl f69)), ((o 70), .inl (k 0, 17, .inl f70)), ((o 71), .inl (k 0, 17, .inl f71)), ((o 3), .inr (2, [.int glines, .int (nI ghours), .int glaw, .int godds, .int (nI grows), .int (nI gheads), .int (nI gsayings), .int (nI gslugs), .int (nI gacts), .ref (o 26), .ref (o 27), .ref (o 28), .ref (o 29), .ref (o 30), .ref (o 31), .ref (o 32), .ref (o 33), .ref (o 34), .ref (o 35)])), ((o 26), .inl (k 0, 12, .inl f26)), ((o 30), .inl (k 0, 12, .inl f30)), ((o 31), .inl (k 0, 12, .inl f31))]) S hK hP hD hS 0 rfl cfX5 4 lkX5_55 (by decide) rfl rfl rfl (Nat.le_of_ble_eq_true rfl) rfl dX5_candidates_86 (fun H locs hP hD hS => ?_)
            refine lv_iinc (v := (nI (j_92 + 1))) (lv' := [(4, .int (nI (j_92 + 1))), (3, .int v_124), (0, .ref (o 11)), (1, .int (nI j)), (2, .int p0)]) hx hb dX5_candidates_89 hl (k := 1) rfl (ni_inc _) (by decide) rfl (fun ls hl => ?_)
            refine lv_goto (tgt := 10) hx hb dX5_candidates_92 (by decide) ?_
            exact ihj_92 (j_92 + 1) (u_117.1 0) (u_117.1 1) (u_117.1 2) (u_117.1 3) (u_117.1 4) (u_119.2.2.1 0) v_124 3 g_101 g_102 f_127 g_104 g_105 g_106 g_107 g_108 g_109 g_110 g_111 g_112 _ _ _ (by omega) (by omega) (by omega) (by omega) hP hD hS (lv_sub hl [0, 1, 2, 3, 4] rfl)
          · skip
            have hP : va_P D vwCl [((o 11), .inr (5, [.ref (o 3), .ref (o 10), .ref (o 6), .ref (o 80), .int (nI 3), .int squestion, .int sleft])), ((o 80), .inl (k 5, 12, .inr (.inr (.inr (.inr (fun i => if i < 12 then some (rh i) else none)))))), ((rh 0), .inl (k 0, 17, .inl g_101)), ((rh 1), .inl (k 0, 17, .inl g_102)), ((rh 2), .inl (k 0, 17, .inl g_103)), ((rh 3), .inl (k 0, 17, .inl g_104)), ((rh 4), .inl (k 0, 17, .inl g_105)), ((rh 5), .inl (k 0, 17, .inl g_106)), ((rh 6), .inl (k 0, 17, .inl g_107)), ((rh 7), .inl (k 0, 17, .inl g_108)), ((rh 8), .inl (k 0, 17, .inl g_109)), ((rh 9), .inl (k 0, 17, .inl g_110)), ((rh 10), .inl (k 0, 17, .inl g_111)), ((rh 11), .inl (k 0, 17, .inl g_112)), ((o 10), .inr (6, [.ref (o 77), .ref (o 78), .ref (o 79)])), ((o 77), .inl (k 6, 4, .inr (.inr (.inr (.inr (fun i => if i < 4 then some (rn i) else none)))))), ((rn j), .inl (k 2, 60, .inr (.inl fnj))), ((o 78), .inl (k 0, 4, .inl f78)), ((o 79), .inl (k 0, 4, .inl f79)), ((o 6), .inr (1, [.ref (o 3), .ref (o 4), .int (u_117.1 0), .int (u_117.1 1), .int (u_117.1 2), .int (u_117.1 3), .int (u_117.1 4), .ref (o 73)])), ((o 73), .inl (k 0, 17, .inl (u_119.2.2.1 0))), ((o 4), .inr (3, [.ref (o 69), .ref (o 70), .ref (o 71)])), ((o 69), .inl (k 0, 17, .inl f69)), ((o 70), .inl (k 0, 17, .inl f70)), ((o 71), .inl (k 0, 17, .inl f71)), ((o 3), .inr (2, [.int glines, .int (nI ghours), .int glaw, .int godds, .int (nI grows), .int (nI gheads), .int (nI gsayings), .int (nI gslugs), .int (nI gacts), .ref (o 26), .ref (o 27), .ref (o 28), .ref (o 29), .ref (o 30), .ref (o 31), .ref (o 32), .ref (o 33), .ref (o 34), .ref (o 35)])), ((o 26), .inl (k 0, 12, .inl f26)), ((o 30), .inl (k 0, 12, .inl f30)), ((o 31), .inl (k 0, 12, .inl f31))] H := hP
            have hD : va_D A [((o 11), .inr (5, [.ref (o 3), .ref (o 10), .ref (o 6), .ref (o 80), .int (nI 3), .int squestion, .int sleft])), ((o 80), .inl (k 5, 12, .inr (.inr (.inr (.inr (fun i => if i < 12 then some (rh i) else none)))))), ((rh 0), .inl (k 0, 17, .inl g_101)), ((rh 1), .inl (k 0, 17, .inl g_102)), ((rh 2), .inl (k 0, 17, .inl g_103)), ((rh 3), .inl (k 0, 17, .inl g_104)), ((rh 4), .inl (k 0, 17, .inl g_105)), ((rh 5), .inl (k 0, 17, .inl g_106)), ((rh 6), .inl (k 0, 17, .inl g_107)), ((rh 7), .inl (k 0, 17, .inl g_108)), ((rh 8), .inl (k 0, 17, .inl g_109)), ((rh 9), .inl (k 0, 17, .inl g_110)), ((rh 10), .inl (k 0, 17, .inl g_111)), ((rh 11), .inl (k 0, 17, .inl g_112)), ((o 10), .inr (6, [.ref (o 77), .ref (o 78), .ref (o 79)])), ((o 77), .inl (k 6, 4, .inr (.inr (.inr (.inr (fun i => if i < 4 then some (rn i) else none)))))), ((rn j), .inl (k 2, 60, .inr (.inl fnj))), ((o 78), .inl (k 0, 4, .inl f78)), ((o 79), .inl (k 0, 4, .inl f79)), ((o 6), .inr (1, [.ref (o 3), .ref (o 4), .int (u_117.1 0), .int (u_117.1 1), .int (u_117.1 2), .int (u_117.1 3), .int (u_117.1 4), .ref (o 73)])), ((o 73), .inl (k 0, 17, .inl (u_119.2.2.1 0))), ((o 4), .inr (3, [.ref (o 69), .ref (o 70), .ref (o 71)])), ((o 69), .inl (k 0, 17, .inl f69)), ((o 70), .inl (k 0, 17, .inl f70)), ((o 71), .inl (k 0, 17, .inl f71)), ((o 3), .inr (2, [.int glines, .int (nI ghours), .int glaw, .int godds, .int (nI grows), .int (nI gheads), .int (nI gsayings), .int (nI gslugs), .int (nI gacts), .ref (o 26), .ref (o 27), .ref (o 28), .ref (o 29), .ref (o 30), .ref (o 31), .ref (o 32), .ref (o 33), .ref (o 34), .ref (o 35)])), ((o 26), .inl (k 0, 12, .inl f26)), ((o 30), .inl (k 0, 12, .inl f30)), ((o 31), .inl (k 0, 12, .inl f31))] := hD
            have hl : lv_has ls 5 [(3, .int v_124), (4, .int (nI j_92)), (0, .ref (o 11)), (1, .int (nI j)), (2, .int p0)] := hl
            refine lv_aload_n hx hb dX5_candidates_64 rfl (lv_at hl 2 rfl) ?_
            refine x_get S hK hP 0 rfl cfX5 3 lkX5_11 (by decide) rfl dX5_candidates_65 ?_
            refine lv_aload_n hx hb dX5_candidates_68 rfl (lv_at hl 2 rfl) ?_
            refine x_get S hK hP 0 rfl cfX5 4 lkX5_55 (by decide) rfl dX5_candidates_69 ?_
            refine x_Iald (v := (rh 3)) S hK hP 1 rfl (vp_lit (by decide)) rfl dX5_candidates_72 ?_
            refine lv_iconst (v := 0) hx hb dX5_candidates_73 (by decide) ?_
            refine lv_bipush (v := 17) hx hb dX5_candidates_74 (by decide) ?_
            refine x_copyi (ws' := fun f_128 => [((o 11), .inr (5, [.ref (o 3), .ref (o 10), .ref (o 6), .ref (o 80), .int (nI 3), .int squestion, .int sleft])), ((o 80), .inl (k 5, 12, .inr (.inr (.inr (.inr (fun i => if i < 12 then some (rh i) else none)))))), ((rh 0), .inl (k 0, 17, .inl g_101)), ((rh 1), .inl (k 0, 17, .inl g_102)), ((rh 2), .inl (k 0, 17, .inl g_103)), ((rh 3), .inl (k 0, 17, .inl f_128)), ((rh 4), .inl (k 0, 17, .inl g_105)), ((rh 5), .inl (k 0, 17, .inl g_106)), ((rh 6), .inl (k 0, 17, .inl g_107)), ((rh 7), .inl (k 0, 17, .inl g_108)), ((rh 8), .inl (k 0, 17, .inl g_109)), ((rh 9), .inl (k 0, 17, .inl g_110)), ((rh 10), .inl (k 0, 17, .inl g_111)), ((rh 11), .inl (k 0, 17, .inl g_112)), ((o 10), .inr (6, [.ref (o 77), .ref (o 78), .ref (o 79)])), ((o 77), .inl (k 6, 4, .inr (.inr (.inr (.inr (fun i => if i < 4 then some (rn i) else none)))))), ((rn j), .inl (k 2, 60, .inr (.inl fnj))), ((o 78), .inl (k 0, 4, .inl f78)), ((o 79), .inl (k 0, 4, .inl f79)), ((o 6), .inr (1, [.ref (o 3), .ref (o 4), .int (u_117.1 0), .int (u_117.1 1), .int (u_117.1 2), .int (u_117.1 3), .int (u_117.1 4), .ref (o 73)])), ((o 73), .inl (k 0, 17, .inl (u_119.2.2.1 0))), ((o 4), .inr (3, [.ref (o 69), .ref (o 70), .ref (o 71)])), ((o 69), .inl (k 0, 17, .inl f69)), ((o 70), .inl (k 0, 17, .inl f70)), ((o 71), .inl (k 0, 17, .inl f71)), ((o 3), .inr (2, [.int glines, .int (nI ghours), .int glaw, .int godds, .int (nI grows), .int (nI gheads), .int (nI gsayings), .int (nI gslugs), .int (nI gacts), .ref (o 26), .ref (o 27), .ref (o 28), .ref (o 29), .ref (o 30), .ref (o 31), .ref (o 32), .ref (o 33), .ref (o 34), .ref (o 35)])), ((o 26), .inl (k 0, 12, .inl f26)), ((o 30), .inl (k 0, 12, .inl f30)), ((o 31), .inl (k 0, 12, .inl f31))]) S hK hP hD hS hl lkX5_72 20 5 rfl rfl (ni_nn (a := 0) (by decide) (by omega)) (ni_nn (a := 0) (by decide) (by omega)) (ni_nn (a := 17) (by decide) (by omega)) (ni_cp (a := 0) (b := 17) (by decide) (by decide) (by omega) (by omega) (by omega)) (ni_cp (a := 0) (b := 17) (by decide) (by decide) (by omega) (by omega) (by omega)) ⟨Nat.le_of_ble_eq_true rfl, Nat.le_of_ble_eq_true rfl⟩ (fun _ => rfl) dX5_candidates_76 (fun f_128 H locs ef_128 hP hD hS => ?_)
            refine lv_aload_n hx hb dX5_candidates_79 rfl (lv_at hl 2 rfl) ?_
            refine lv_dup hx hb dX5_candidates_80 rfl ?_
            refine x_get S hK hP 0 rfl cfX5 4 lkX5_55 (by decide) rfl dX5_candidates_81 ?_
            refine lv_iconst (v := 1) hx hb dX5_candidates_84 (by decide) ?_
            refine lv_iadd hx hb dX5_candidates_85 ?_
            refine x_is 4 (by decide) ?_
            refine x_put (ws' := [((o 11), .inr (5, [.ref (o 3), .ref (o 10), .ref (o 6), .ref (o 80), .int 4, .int squestion, .int sleft])), ((o 80), .inl (k 5, 12, .inr (.inr (.inr (.inr (fun i => if i < 12 then some (rh i) else none)))))), ((rh 0), .inl (k 0, 17, .inl g_101)), ((rh 1), .inl (k 0, 17, .inl g_102)), ((rh 2), .inl (k 0, 17, .inl g_103)), ((rh 3), .inl (k 0, 17, .inl f_128)), ((rh 4), .inl (k 0, 17, .inl g_105)), ((rh 5), .inl (k 0, 17, .inl g_106)), ((rh 6), .inl (k 0, 17, .inl g_107)), ((rh 7), .inl (k 0, 17, .inl g_108)), ((rh 8), .inl (k 0, 17, .inl g_109)), ((rh 9), .inl (k 0, 17, .inl g_110)), ((rh 10), .inl (k 0, 17, .inl g_111)), ((rh 11), .inl (k 0, 17, .inl g_112)), ((o 10), .inr (6, [.ref (o 77), .ref (o 78), .ref (o 79)])), ((o 77), .inl (k 6, 4, .inr (.inr (.inr (.inr (fun i => if i < 4 then some (rn i) else none)))))), ((rn j), .inl (k 2, 60, .inr (.inl fnj))), ((o 78), .inl (k 0, 4, .inl f78)), ((o 79), .inl (k 0, 4, .inl f79)), ((o 6), .inr (1, [.ref (o 3), .ref (o 4), .int (u_117.1 0), .int (u_117.1 1), .int (u_117.1 2), .int (u_117.1 3), .int (u_117.1 4), .ref (o 73)])), ((o 73), .inl (k 0, 17, .inl (u_119.2.2.1 0))), ((o 4), .inr (3, [.ref (o 69), .ref (o 70), .ref (o 71)])), ((o 69), .inl (k 0, 17, .inl f69)), ((o 70), .inl (k 0, 17, .inl f70)), ((o 71), .inl (k 0, 17, .inl f71)), ((o 3), .inr (2, [.int glines, .int (nI ghours), .int glaw, .int godds, .int (nI grows), .int (nI gheads), .int (nI gsayings), .int (nI gslugs), .int (nI gacts), .ref (o 26), .ref (o 27), .ref (o 28), .ref (o 29), .ref (o 30), .ref (o 31), .ref (o 32), .ref (o 33), .ref (o 34), .ref (o 35)])), ((o 26), .inl (k 0, 12, .inl f26)), ((o 30), .inl (k 0, 12, .inl f30)), ((o 31), .inl (k 0, 12, .inl f31))]) S hK hP hD hS 0 rfl cfX5 4 lkX5_55 (by decide) rfl rfl rfl (Nat.le_of_ble_eq_true rfl) rfl dX5_candidates_86 (fun H locs hP hD hS => ?_)
            refine lv_iinc (v := (nI (j_92 + 1))) (lv' := [(4, .int (nI (j_92 + 1))), (3, .int v_124), (0, .ref (o 11)), (1, .int (nI j)), (2, .int p0)]) hx hb dX5_candidates_89 hl (k := 1) rfl (ni_inc _) (by decide) rfl (fun ls hl => ?_)
            refine lv_goto (tgt := 10) hx hb dX5_candidates_92 (by decide) ?_
            exact ihj_92 (j_92 + 1) (u_117.1 0) (u_117.1 1) (u_117.1 2) (u_117.1 3) (u_117.1 4) (u_119.2.2.1 0) v_124 4 g_101 g_102 g_103 f_128 g_105 g_106 g_107 g_108 g_109 g_110 g_111 g_112 _ _ _ (by omega) (by omega) (by omega) (by omega) hP hD hS (lv_sub hl [0, 1, 2, 3, 4] rfl)
          · skip
            have hP : va_P D vwCl [((o 11), .inr (5, [.ref (o 3), .ref (o 10), .ref (o 6), .ref (o 80), .int (nI 4), .int squestion, .int sleft])), ((o 80), .inl (k 5, 12, .inr (.inr (.inr (.inr (fun i => if i < 12 then some (rh i) else none)))))), ((rh 0), .inl (k 0, 17, .inl g_101)), ((rh 1), .inl (k 0, 17, .inl g_102)), ((rh 2), .inl (k 0, 17, .inl g_103)), ((rh 3), .inl (k 0, 17, .inl g_104)), ((rh 4), .inl (k 0, 17, .inl g_105)), ((rh 5), .inl (k 0, 17, .inl g_106)), ((rh 6), .inl (k 0, 17, .inl g_107)), ((rh 7), .inl (k 0, 17, .inl g_108)), ((rh 8), .inl (k 0, 17, .inl g_109)), ((rh 9), .inl (k 0, 17, .inl g_110)), ((rh 10), .inl (k 0, 17, .inl g_111)), ((rh 11), .inl (k 0, 17, .inl g_112)), ((o 10), .inr (6, [.ref (o 77), .ref (o 78), .ref (o 79)])), ((o 77), .inl (k 6, 4, .inr (.inr (.inr (.inr (fun i => if i < 4 then some (rn i) else none)))))), ((rn j), .inl (k 2, 60, .inr (.inl fnj))), ((o 78), .inl (k 0, 4, .inl f78)), ((o 79), .inl (k 0, 4, .inl f79)), ((o 6), .inr (1, [.ref (o 3), .ref (o 4), .int (u_117.1 0), .int (u_117.1 1), .int (u_117.1 2), .int (u_117.1 3), .int (u_117.1 4), .ref (o 73)])), ((o 73), .inl (k 0, 17, .inl (u_119.2.2.1 0))), ((o 4), .inr (3, [.ref (o 69), .ref (o 70), .ref (o 71)])), ((o 69), .inl (k 0, 17, .inl f69)), ((o 70), .inl (k 0, 17, .inl f70)), ((o 71), .inl (k 0, 17, .inl f71)), ((o 3), .inr (2, [.int glines, .int (nI ghours), .int glaw, .int godds, .int (nI grows), .int (nI gheads), .int (nI gsayings), .int (nI gslugs), .int (nI gacts), .ref (o 26), .ref (o 27), .ref (o 28), .ref (o 29), .ref (o 30), .ref (o 31), .ref (o 32), .ref (o 33), .ref (o 34), .ref (o 35)])), ((o 26), .inl (k 0, 12, .inl f26)), ((o 30), .inl (k 0, 12, .inl f30)), ((o 31), .inl (k 0, 12, .inl f31))] H := hP
            have hD : va_D A [((o 11), .inr (5, [.ref (o 3), .ref (o 10), .ref (o 6), .ref (o 80), .int (nI 4), .int squestion, .int sleft])), ((o 80), .inl (k 5, 12, .inr (.inr (.inr (.inr (fun i => if i < 12 then some (rh i) else none)))))), ((rh 0), .inl (k 0, 17, .inl g_101)), ((rh 1), .inl (k 0, 17, .inl g_102)), ((rh 2), .inl (k 0, 17, .inl g_103)), ((rh 3), .inl (k 0, 17, .inl g_104)), ((rh 4), .inl (k 0, 17, .inl g_105)), ((rh 5), .inl (k 0, 17, .inl g_106)), ((rh 6), .inl (k 0, 17, .inl g_107)), ((rh 7), .inl (k 0, 17, .inl g_108)), ((rh 8), .inl (k 0, 17, .inl g_109)), ((rh 9), .inl (k 0, 17, .inl g_110)), ((rh 10), .inl (k 0, 17, .inl g_111)), ((rh 11), .inl (k 0, 17, .inl g_112)), ((o 10), .inr (6, [.ref (o 77), .ref (o 78), .ref (o 79)])), ((o 77), .inl (k 6, 4, .inr (.inr (.inr (.inr (fun i => if i < 4 then some (rn i) else none)))))), ((rn j), .inl (k 2, 60, .inr (.inl fnj))), ((o 78), .inl (k 0, 4, .inl f78)), ((o 79), .inl (k 0, 4, .inl f79)), ((o 6), .inr (1, [.ref (o 3), .ref (o 4), .int (u_117.1 0), .int (u_117.1 1), .int (u_117.1 2), .int (u_117.1 3), .int (u_117.1 4), .ref (o 73)])), ((o 73), .inl (k 0, 17, .inl (u_119.2.2.1 0))), ((o 4), .inr (3, [.ref (o 69), .ref (o 70), .ref (o 71)])), ((o 69), .inl (k 0, 17, .inl f69)), ((o 70), .inl (k 0, 17, .inl f70)), ((o 71), .inl (k 0, 17, .inl f71)), ((o 3), .inr (2, [.int glines, .int (nI ghours), .int glaw, .int godds, .int (nI grows), .int (nI gheads), .int (nI gsayings), .int (nI gslugs), .int (nI gacts), .ref (o 26), .ref (o 27), .ref (o 28), .ref (o 29), .ref (o 30), .ref (o 31), .ref (o 32), .ref (o 33), .ref (o 34), .ref (o 35)])), ((o 26), .inl (k 0, 12, .inl f26)), ((o 30), .inl (k 0, 12, .inl f30)), ((o 31), .inl (k 0, 12, .inl f31))] := hD
            have hl : lv_has ls 5 [(3, .int v_124), (4, .int (nI j_92)), (0, .ref (o 11)), (1, .int (nI j)), (2, .int p0)] := hl
            refine lv_aload_n hx hb dX5_candidates_64 rfl (lv_at hl 2 rfl) ?_
            refine x_get S hK hP 0 rfl cfX5 3 lkX5_11 (by decide) rfl dX5_candidates_65 ?_
            refine lv_aload_n hx hb dX5_candidates_68 rfl (lv_at hl 2 rfl) ?_
            refine x_get S hK hP 0 rfl cfX5 4 lkX5_55 (by decide) rfl dX5_candidates_69 ?_
            refine x_Iald (v := (rh 4)) S hK hP 1 rfl (vp_lit (by decide)) rfl dX5_candidates_72 ?_
            refine lv_iconst (v := 0) hx hb dX5_candidates_73 (by decide) ?_
            refine lv_bipush (v := 17) hx hb dX5_candidates_74 (by decide) ?_
            refine x_copyi (ws' := fun f_129 => [((o 11), .inr (5, [.ref (o 3), .ref (o 10), .ref (o 6), .ref (o 80), .int (nI 4), .int squestion, .int sleft])), ((o 80), .inl (k 5, 12, .inr (.inr (.inr (.inr (fun i => if i < 12 then some (rh i) else none)))))), ((rh 0), .inl (k 0, 17, .inl g_101)), ((rh 1), .inl (k 0, 17, .inl g_102)), ((rh 2), .inl (k 0, 17, .inl g_103)), ((rh 3), .inl (k 0, 17, .inl g_104)), ((rh 4), .inl (k 0, 17, .inl f_129)), ((rh 5), .inl (k 0, 17, .inl g_106)), ((rh 6), .inl (k 0, 17, .inl g_107)), ((rh 7), .inl (k 0, 17, .inl g_108)), ((rh 8), .inl (k 0, 17, .inl g_109)), ((rh 9), .inl (k 0, 17, .inl g_110)), ((rh 10), .inl (k 0, 17, .inl g_111)), ((rh 11), .inl (k 0, 17, .inl g_112)), ((o 10), .inr (6, [.ref (o 77), .ref (o 78), .ref (o 79)])), ((o 77), .inl (k 6, 4, .inr (.inr (.inr (.inr (fun i => if i < 4 then some (rn i) else none)))))), ((rn j), .inl (k 2, 60, .inr (.inl fnj))), ((o 78), .inl (k 0, 4, .inl f78)), ((o 79), .inl (k 0, 4, .inl f79)), ((o 6), .inr (1, [.ref (o 3), .ref (o 4), .int (u_117.1 0), .int (u_117.1 1), .int (u_117.1 2), .int (u_117.1 3), .int (u_117.1 4), .ref (o 73)])), ((o 73), .inl (k 0, 17, .inl (u_119.2.2.1 0))), ((o 4), .inr (3, [.ref (o 69), .ref (o 70), .ref (o 71)])), ((o 69), .inl (k 0, 17, .inl f69)), ((o 70), .inl (k 0, 17, .inl f70)), ((o 71), .inl (k 0, 17, .inl f71)), ((o 3), .inr (2, [.int glines, .int (nI ghours), .int glaw, .int godds, .int (nI grows), .int (nI gheads), .int (nI gsayings), .int (nI gslugs), .int (nI gacts), .ref (o 26), .ref (o 27), .ref (o 28), .ref (o 29), .ref (o 30), .ref (o 31), .ref (o 32), .ref (o 33), .ref (o 34), .ref (o 35)])), ((o 26), .inl (k 0, 12, .inl f26)), ((o 30), .inl (k 0, 12, .inl f30)), ((o 31), .inl (k 0, 12, .inl f31))]) S hK hP hD hS hl lkX5_72 20 6 rfl rfl (ni_nn (a := 0) (by decide) (by omega)) (ni_nn (a := 0) (by decide) (by omega)) (ni_nn (a := 17) (by decide) (by omega)) (ni_cp (a := 0) (b := 17) (by decide) (by decide) (by omega) (by omega) (by omega)) (ni_cp (a := 0) (b := 17) (by decide) (by decide) (by omega) (by omega) (by omega)) ⟨Nat.le_of_ble_eq_true rfl, Nat.le_of_ble_eq_true rfl⟩ (fun _ => rfl) dX5_candidates_76 (fun f_129 H locs ef_129 hP hD hS => ?_)
            refine lv_aload_n hx hb dX5_candidates_79 rfl (lv_at hl 2 rfl) ?_
            refine lv_dup hx hb dX5_candidates_80 rfl ?_
            refine x_get S hK hP 0 rfl cfX5 4 lkX5_55 (by decide) rfl dX5_candidates_81 ?_
            refine lv_iconst (v := 1) hx hb dX5_candidates_84 (by decide) ?_
            refine lv_iadd hx hb dX5_candidates_85 ?_
            refine x_is 5 (by decide) ?_
            refine x_put (ws' := [((o 11), .inr (5, [.ref (o 3), .ref (o 10), .ref (o 6), .ref (o 80), .int 5, .int squestion, .int sleft])), ((o 80), .inl (k 5, 12, .inr (.inr (.inr (.inr (fun i => if i < 12 then some (rh i) else none)))))), ((rh 0), .inl (k 0, 17, .inl g_101)), ((rh 1), .inl (k 0, 17, .inl g_102)), ((rh 2), .inl (k 0, 17, .inl g_103)), ((rh 3), .inl (k 0, 17, .inl g_104)), ((rh 4), .inl (k 0, 17, .inl f_129)), ((rh 5), .inl (k 0, 17, .inl g_106)), ((rh 6), .inl (k 0, 17, .inl g_107)), ((rh 7), .inl (k 0, 17, .inl g_108)), ((rh 8), .inl (k 0, 17, .inl g_109)), ((rh 9), .inl (k 0, 17, .inl g_110)), ((rh 10), .inl (k 0, 17, .inl g_111)), ((rh 11), .inl (k 0, 17, .inl g_112)), ((o 10), .inr (6, [.ref (o 77), .ref (o 78), .ref (o 79)])), ((o 77), .inl (k 6, 4, .inr (.inr (.inr (.inr (fun i => if i < 4 then some (rn i) else none)))))), ((rn j), .inl (k 2, 60, .inr (.inl fnj))), ((o 78), .inl (k 0, 4, .inl f78)), ((o 79), .inl (k 0, 4, .inl f79)), ((o 6), .inr (1, [.ref (o 3), .ref (o 4), .int (u_117.1 0), .int (u_117.1 1), .int (u_117.1 2), .int (u_117.1 3), .int (u_117.1 4), .ref (o 73)])), ((o 73), .inl (k 0, 17, .inl (u_119.2.2.1 0))), ((o 4), .inr (3, [.ref (o 69), .ref (o 70), .ref (o 71)])), ((o 69), .inl (k 0, 17, .inl f69)), ((o 70), .inl (k 0, 17, .inl f70)), ((o 71), .inl (k 0, 17, .inl f71)), ((o 3), .inr (2, [.int glines, .int (nI ghours), .int glaw, .int godds, .int (nI grows), .int (nI gheads), .int (nI gsayings), .int (nI gslugs), .int (nI gacts), .ref (o 26), .ref (o 27), .ref (o 28), .ref (o 29), .ref (o 30), .ref (o 31), .ref (o 32), .ref (o 33), .ref (o 34), .ref (o 35)])), ((o 26), .inl (k 0, 12, .inl f26)), ((o 30), .inl (k 0, 12, .inl f30)), ((o 31), .inl (k 0, 12, .inl f31))]) S hK hP hD hS 0 rfl cfX5 4 lkX5_55 (by decide) rfl rfl rfl (Nat.le_of_ble_eq_true rfl) rfl dX5_candidates_86 (fun H locs hP hD hS => ?_)
            refine lv_iinc (v := (nI (j_92 + 1))) (lv' := [(4, .int (nI (j_92 + 1))), (3, .int v_124), (0, .ref (o 11)), (1, .int (nI j)), (2, .int p0)]) hx hb dX5_candidates_89 hl (k := 1) rfl (ni_inc _) (by decide) rfl (fun ls hl => ?_)
            refine lv_goto (tgt := 10) hx hb dX5_candidates_92 (by decide) ?_
            exact ihj_92 (j_92 + 1) (u_117.1 0) (u_117.1 1) (u_117.1 2) (u_117.1 3) (u_117.1 4) (u_119.2.2.1 0) v_124 5 g_101 g_102 g_103 g_104 f_129 g_106 g_107 g_108 g_109 g_110 g_111 g_112 _ _ _ (by omega) (by omega) (by omega) (by omega) hP hD hS (lv_sub hl [0, 1, 2, 3, 4] rfl)
          · skip
            have hP : va_P D vwCl [((o 11), .inr (5, [.ref (o 3), .ref (o 10), .ref (o 6), .ref (o 80), .int (nI 5), .int squestion, .int sleft])), ((o 80), .inl (k 5, 12, .inr (.inr (.inr (.inr (fun i => if i < 12 then some (rh i) else none)))))), ((rh 0), .inl (k 0, 17, .inl g_101)), ((rh 1), .inl (k 0, 17, .inl g_102)), ((rh 2), .inl (k 0, 17, .inl g_103)), ((rh 3), .inl (k 0, 17, .inl g_104)), ((rh 4), .inl (k 0, 17, .inl g_105)), ((rh 5), .inl (k 0, 17, .inl g_106)), ((rh 6), .inl (k 0, 17, .inl g_107)), ((rh 7), .inl (k 0, 17, .inl g_108)), ((rh 8), .inl (k 0, 17, .inl g_109)), ((rh 9), .inl (k 0, 17, .inl g_110)), ((rh 10), .inl (k 0, 17, .inl g_111)), ((rh 11), .inl (k 0, 17, .inl g_112)), ((o 10), .inr (6, [.ref (o 77), .ref (o 78), .ref (o 79)])), ((o 77), .inl (k 6, 4, .inr (.inr (.inr (.inr (fun i => if i < 4 then some (rn i) else none)))))), ((rn j), .inl (k 2, 60, .inr (.inl fnj))), ((o 78), .inl (k 0, 4, .inl f78)), ((o 79), .inl (k 0, 4, .inl f79)), ((o 6), .inr (1, [.ref (o 3), .ref (o 4), .int (u_117.1 0), .int (u_117.1 1), .int (u_117.1 2), .int (u_117.1 3), .int (u_117.1 4), .ref (o 73)])), ((o 73), .inl (k 0, 17, .inl (u_119.2.2.1 0))), ((o 4), .inr (3, [.ref (o 69), .ref (o 70), .ref (o 71)])), ((o 69), .inl (k 0, 17, .inl f69)), ((o 70), .inl (k 0, 17, .inl f70)), ((o 71), .inl (k 0, 17, .inl f71)), ((o 3), .inr (2, [.int glines, .int (nI ghours), .int glaw, .int godds, .int (nI grows), .int (nI gheads), .int (nI gsayings), .int (nI gslugs), .int (nI gacts), .ref (o 26), .ref (o 27), .ref (o 28), .ref (o 29), .ref (o 30), .ref (o 31), .ref (o 32), .ref (o 33), .ref (o 34), .ref (o 35)])), ((o 26), .inl (k 0, 12, .inl f26)), ((o 30), .inl (k 0, 12, .inl f30)), ((o 31), .inl (k 0, 12, .inl f31))] H := hP
            have hD : va_D A [((o 11), .inr (5, [.ref (o 3), .ref (o 10), .ref (o 6), .ref (o 80), .int (nI 5), .int squestion, .int sleft])), ((o 80), .inl (k 5, 12, .inr (.inr (.inr (.inr (fun i => if i < 12 then some (rh i) else none)))))), ((rh 0), .inl (k 0, 17, .inl g_101)), ((rh 1), .inl (k 0, 17, .inl g_102)), ((rh 2), .inl (k 0, 17, .inl g_103)), ((rh 3), .inl (k 0, 17, .inl g_104)), ((rh 4), .inl (k 0, 17, .inl g_105)), ((rh 5), .inl (k 0, 17, .inl g_106)), ((rh 6), .inl (k 0, 17, .inl g_107)), ((rh 7), .inl (k 0, 17, .inl g_108)), ((rh 8), .inl (k 0, 17, .inl g_109)), ((rh 9), .inl (k 0, 17, .inl g_110)), ((rh 10), .inl (k 0, 17, .inl g_111)), ((rh 11), .inl (k 0, 17, .inl g_112)), ((o 10), .inr (6, [.ref (o 77), .ref (o 78), .ref (o 79)])), ((o 77), .inl (k 6, 4, .inr (.inr (.inr (.inr (fun i => if i < 4 then some (rn i) else none)))))), ((rn j), .inl (k 2, 60, .inr (.inl fnj))), ((o 78), .inl (k 0, 4, .inl f78)), ((o 79), .inl (k 0, 4, .inl f79)), ((o 6), .inr (1, [.ref (o 3), .ref (o 4), .int (u_117.1 0), .int (u_117.1 1), .int (u_117.1 2), .int (u_117.1 3), .int (u_117.1 4), .ref (o 73)])), ((o 73), .inl (k 0, 17, .inl (u_119.2.2.1 0))), ((o 4), .inr (3, [.ref (o 69), .ref (o 70), .ref (o 71)])), ((o 69), .inl (k 0, 17, .inl f69)), ((o 70), .inl (k 0, 17, .inl f70)), ((o 71), .inl (k 0, 17, .inl f71)), ((o 3), .inr (2, [.int glines, .int (nI ghours), .int glaw, .int godds, .int (nI grows), .int (nI gheads), .int (nI gsayings), .int (nI gslugs), .int (nI gacts), .ref (o 26), .ref (o 27), .ref (o 28), .ref (o 29), .ref (o 30), .ref (o 31), .ref (o 32), .ref (o 33), .ref (o 34), .ref (o 35)])), ((o 26), .inl (k 0, 12, .inl f26)), ((o 30), .inl (k 0, 12, .inl f30)), ((o 31), .inl (k 0, 12, .inl f31))] := hD
            have hl : lv_has ls 5 [(3, .int v_124), (4, .int (nI j_92)), (0, .ref (o 11)), (1, .int (nI j)), (2, .int p0)] := hl
            refine lv_aload_n hx hb dX5_candidates_64 rfl (lv_at hl 2 rfl) ?_
            refine x_get S hK hP 0 rfl cfX5 3 lkX5_11 (by decide) rfl dX5_candidates_65 ?_
            refine lv_aload_n hx hb dX5_candidates_68 rfl (lv_at hl 2 rfl) ?_
            refine x_get S hK hP 0 rfl cfX5 4 lkX5_55 (by decide) rfl dX5_candidates_69 ?_
            refine x_Iald (v := (rh 5)) S hK hP 1 rfl (vp_lit (by decide)) rfl dX5_candidates_72 ?_
            refine lv_iconst (v := 0) hx hb dX5_candidates_73 (by decide) ?_
            refine lv_bipush (v := 17) hx hb dX5_candidates_74 (by decide) ?_
            refine x_copyi (ws' := fun f_130 => [((o 11), .inr (5, [.ref (o 3), .ref (o 10), .ref (o 6), .ref (o 80), .int (nI 5), .int squestion, .int sleft])), ((o 80), .inl (k 5, 12, .inr (.inr (.inr (.inr (fun i => if i < 12 then some (rh i) else none)))))), ((rh 0), .inl (k 0, 17, .inl g_101)), ((rh 1), .inl (k 0, 17, .inl g_102)), ((rh 2), .inl (k 0, 17, .inl g_103)), ((rh 3), .inl (k 0, 17, .inl g_104)), ((rh 4), .inl (k 0, 17, .inl g_105)), ((rh 5), .inl (k 0, 17, .inl f_130)), ((rh 6), .inl (k 0, 17, .inl g_107)), ((rh 7), .inl (k 0, 17, .inl g_108)), ((rh 8), .inl (k 0, 17, .inl g_109)), ((rh 9), .inl (k 0, 17, .inl g_110)), ((rh 10), .inl (k 0, 17, .inl g_111)), ((rh 11), .inl (k 0, 17, .inl g_112)), ((o 10), .inr (6, [.ref (o 77), .ref (o 78), .ref (o 79)])), ((o 77), .inl (k 6, 4, .inr (.inr (.inr (.inr (fun i => if i < 4 then some (rn i) else none)))))), ((rn j), .inl (k 2, 60, .inr (.inl fnj))), ((o 78), .inl (k 0, 4, .inl f78)), ((o 79), .inl (k 0, 4, .inl f79)), ((o 6), .inr (1, [.ref (o 3), .ref (o 4), .int (u_117.1 0), .int (u_117.1 1), .int (u_117.1 2), .int (u_117.1 3), .int (u_117.1 4), .ref (o 73)])), ((o 73), .inl (k 0, 17, .inl (u_119.2.2.1 0))), ((o 4), .inr (3, [.ref (o 69), .ref (o 70), .ref (o 71)])), ((o 69), .inl (k 0, 17, .inl f69)), ((o 70), .inl (k 0, 17, .inl f70)), ((o 71), .inl (k 0, 17, .inl f71)), ((o 3), .inr (2, [.int glines, .int (nI ghours), .int glaw, .int godds, .int (nI grows), .int (nI gheads), .int (nI gsayings), .int (nI gslugs), .int (nI gacts), .ref (o 26), .ref (o 27), .ref (o 28), .ref (o 29), .ref (o 30), .ref (o 31), .ref (o 32), .ref (o 33), .ref (o 34), .ref (o 35)])), ((o 26), .inl (k 0, 12, .inl f26)), ((o 30), .inl (k 0, 12, .inl f30)), ((o 31), .inl (k 0, 12, .inl f31))]) S hK hP hD hS hl lkX5_72 20 7 rfl rfl (ni_nn (a := 0) (by decide) (by omega)) (ni_nn (a := 0) (by decide) (by omega)) (ni_nn (a := 17) (by decide) (by omega)) (ni_cp (a := 0) (b := 17) (by decide) (by decide) (by omega) (by omega) (by omega)) (ni_cp (a := 0) (b := 17) (by decide) (by decide) (by omega) (by omega) (by omega)) ⟨Nat.le_of_ble_eq_true rfl, Nat.le_of_ble_eq_true rfl⟩ (fun _ => rfl) dX5_candidates_76 (fun f_130 H locs ef_130 hP hD hS => ?_)
            refine lv_aload_n hx hb dX5_candidates_79 rfl (lv_at hl 2 rfl) ?_
            refine lv_dup hx hb dX5_candidates_80 rfl ?_
            refine x_get S hK hP 0 rfl cfX5 4 lkX5_55 (by decide) rfl dX5_candidates_81 ?_
            refine lv_iconst (v := 1) hx hb dX5_candidates_84 (by decide) ?_
            refine lv_iadd hx hb dX5_candidates_85 ?_
            refine x_is 6 (by decide) ?_
            refine x_put (ws' := [((o 11), .inr (5, [.ref (o 3), .ref (o 10), .ref (o 6), .ref (o 80), .int 6, .int squestion, .int sleft])), ((o 80), .inl (k 5, 12, .inr (.inr (.inr (.inr (fun i => if i < 12 then some (rh i) else none)))))), ((rh 0), .inl (k 0, 17, .inl g_101)), ((rh 1), .inl (k 0, 17, .inl g_102)), ((rh 2), .inl (k 0, 17, .inl g_103)), ((rh 3), .inl (k 0, 17, .inl g_104)), ((rh 4), .inl (k 0, 17, .inl g_105)), ((rh 5), .inl (k 0, 17, .inl f_130)), ((rh 6), .inl (k 0, 17, .inl g_107)), ((rh 7), .inl (k 0, 17, .inl g_108)), ((rh 8), .inl (k 0, 17, .inl g_109)), ((rh 9), .inl (k 0, 17, .inl g_110)), ((rh 10), .inl (k 0, 17, .inl g_111)), ((rh 11), .inl (k 0, 17, .inl g_112)), ((o 10), .inr (6, [.ref (o 77), .ref (o 78), .ref (o 79)])), ((o 77), .inl (k 6, 4, .inr (.inr (.inr (.inr (fun i => if i < 4 then some (rn i) else none)))))), ((rn j), .inl (k 2, 60, .inr (.inl fnj))), ((o 78), .inl (k 0, 4, .inl f78)), ((o 79), .inl (k 0, 4, .inl f79)), ((o 6), .inr (1, [.ref (o 3), .ref (o 4), .int (u_117.1 0), .int (u_117.1 1), .int (u_117.1 2), .int (u_117.1 3), .int (u_117.1 4), .ref (o 73)])), ((o 73), .inl (k 0, 17, .inl (u_119.2.2.1 0))), ((o 4), .inr (3, [.ref (o 69), .ref (o 70), .ref (o 71)])), ((o 69), .inl (k 0, 17, .inl f69)), ((o 70), .inl (k 0, 17, .inl f70)), ((o 71), .inl (k 0, 17, .inl f71)), ((o 3), .inr (2, [.int glines, .int (nI ghours), .int glaw, .int godds, .int (nI grows), .int (nI gheads), .int (nI gsayings), .int (nI gslugs), .int (nI gacts), .ref (o 26), .ref (o 27), .ref (o 28), .ref (o 29), .ref (o 30), .ref (o 31), .ref (o 32), .ref (o 33), .ref (o 34), .ref (o 35)])), ((o 26), .inl (k 0, 12, .inl f26)), ((o 30), .inl (k 0, 12, .inl f30)), ((o 31), .inl (k 0, 12, .inl f31))]) S hK hP hD hS 0 rfl cfX5 4 lkX5_55 (by decide) rfl rfl rfl (Nat.le_of_ble_eq_true rfl) rfl dX5_candidates_86 (fun H locs hP hD hS => ?_)
            refine lv_iinc (v := (nI (j_92 + 1))) (lv' := [(4, .int (nI (j_92 + 1))), (3, .int v_124), (0, .ref (o 11)), (1, .int (nI j)), (2, .int p0)]) hx hb dX5_candidates_89 hl (k := 1) rfl (ni_inc _) (by decide) rfl (fun ls hl => ?_)
            refine lv_goto (tgt := 10) hx hb dX5_candidates_92 (by decide) ?_
            exact ihj_92 (j_92 + 1) (u_117.1 0) (u_117.1 1) (u_117.1 2) (u_117.1 3) (u_117.1 4) (u_119.2.2.1 0) v_124 6 g_101 g_102 g_103 g_104 g_105 f_130 g_107 g_108 g_109 g_110 g_111 g_112 _ _ _ (by omega) (by omega) (by omega) (by omega) hP hD hS (lv_sub hl [0, 1, 2, 3, 4] rfl)
          · skip
            have hP : va_P D vwCl [((o 11), .inr (5, [.ref (o 3), .ref (o 10), .ref (o 6), .ref (o 80), .int (nI 6), .int squestion, .int sleft])), ((o 80), .inl (k 5, 12, .inr (.inr (.inr (.inr (fun i => if i < 12 then some (rh i) else none)))))), ((rh 0), .inl (k 0, 17, .inl g_101)), ((rh 1), .inl (k 0, 17, .inl g_102)), ((rh 2), .inl (k 0, 17, .inl g_103)), ((rh 3), .inl (k 0, 17, .inl g_104)), ((rh 4), .inl (k 0, 17, .inl g_105)), ((rh 5), .inl (k 0, 17, .inl g_106)), ((rh 6), .inl (k 0, 17, .inl g_107)), ((rh 7), .inl (k 0, 17, .inl g_108)), ((rh 8), .inl (k 0, 17, .inl g_109)), ((rh 9), .inl (k 0, 17, .inl g_110)), ((rh 10), .inl (k 0, 17, .inl g_111)), ((rh 11), .inl (k 0, 17, .inl g_112)), ((o 10), .inr (6, [.ref (o 77), .ref (o 78), .ref (o 79)])), ((o 77), .inl (k 6, 4, .inr (.inr (.inr (.inr (fun i => if i < 4 then some (rn i) else none)))))), ((rn j), .inl (k 2, 60, .inr (.inl fnj))), ((o 78), .inl (k 0, 4, .inl f78)), ((o 79), .inl (k 0, 4, .inl f79)), ((o 6), .inr (1, [.ref (o 3), .ref (o 4), .int (u_117.1 0), .int (u_117.1 1), .int (u_117.1 2), .int (u_117.1 3), .int (u_117.1 4), .ref (o 73)])), ((o 73), .inl (k 0, 17, .inl (u_119.2.2.1 0))), ((o 4), .inr (3, [.ref (o 69), .ref (o 70), .ref (o 71)])), ((o 69), .inl (k 0, 17, .inl f69)), ((o 70), .inl (k 0, 17, .inl f70)), ((o 71), .inl (k 0, 17, .inl f71)), ((o 3), .inr (2, [.int glines, .int (nI ghours), .int glaw, .int godds, .int (nI grows), .int (nI gheads), .int (nI gsayings), .int (nI gslugs), .int (nI gacts), .ref (o 26), .ref (o 27), .ref (o 28), .ref (o 29), .ref (o 30), .ref (o 31), .ref (o 32), .ref (o 33), .ref (o 34), .ref (o 35)])), ((o 26), .inl (k 0, 12, .inl f26)), ((o 30), .inl (k 0, 12, .inl f30)), ((o 31), .inl (k 0, 12, .inl f31))] H := hP
            have hD : va_D A [((o 11), .inr (5, [.ref (o 3), .ref (o 10), .ref (o 6), .ref (o 80), .int (nI 6), .int squestion, .int sleft])), ((o 80), .inl (k 5, 12, .inr (.inr (.inr (.inr (fun i => if i < 12 then some (rh i) else none)))))), ((rh 0), .inl (k 0, 17, .inl g_101)), ((rh 1), .inl (k 0, 17, .inl g_102)), ((rh 2), .inl (k 0, 17, .inl g_103)), ((rh 3), .inl (k 0, 17, .inl g_104)), ((rh 4), .inl (k 0, 17, .inl g_105)), ((rh 5), .inl (k 0, 17, .inl g_106)), ((rh 6), .inl (k 0, 17, .inl g_107)), ((rh 7), .inl (k 0, 17, .inl g_108)), ((rh 8), .inl (k 0, 17, .inl g_109)), ((rh 9), .inl (k 0, 17, .inl g_110)), ((rh 10), .inl (k 0, 17, .inl g_111)), ((rh 11), .inl (k 0, 17, .inl g_112)), ((o 10), .inr (6, [.ref (o 77), .ref (o 78), .ref (o 79)])), ((o 77), .inl (k 6, 4, .inr (.inr (.inr (.inr (fun i => if i < 4 then some (rn i) else none)))))), ((rn j), .inl (k 2, 60, .inr (.inl fnj))), ((o 78), .inl (k 0, 4, .inl f78)), ((o 79), .inl (k 0, 4, .inl f79)), ((o 6), .inr (1, [.ref (o 3), .ref (o 4), .int (u_117.1 0), .int (u_117.1 1), .int (u_117.1 2), .int (u_117.1 3), .int (u_117.1 4), .ref (o 73)])), ((o 73), .inl (k 0, 17, .inl (u_119.2.2.1 0))), ((o 4), .inr (3, [.ref (o 69), .ref (o 70), .ref (o 71)])), ((o 69), .inl (k 0, 17, .inl f69)), ((o 70), .inl (k 0, 17, .inl f70)), ((o 71), .inl (k 0, 17, .inl f71)), ((o 3), .inr (2, [.int glines, .int (nI ghours), .int glaw, .int godds, .int (nI grows), .int (nI gheads), .int (nI gsayings), .int (nI gslugs), .int (nI gacts), .ref (o 26), .ref (o 27), .ref (o 28), .ref (o 29), .ref (o 30), .ref (o 31), .ref (o 32), .ref (o 33), .ref (o 34), .ref (o 35)])), ((o 26), .inl (k 0, 12, .inl f26)), ((o 30), .inl (k 0, 12, .inl f30)), ((o 31), .inl (k 0, 12, .inl f31))] := hD
            have hl : lv_has ls 5 [(3, .int v_124), (4, .int (nI j_92)), (0, .ref (o 11)), (1, .int (nI j)), (2, .int p0)] := hl
            refine lv_aload_n hx hb dX5_candidates_64 rfl (lv_at hl 2 rfl) ?_
            refine x_get S hK hP 0 rfl cfX5 3 lkX5_11 (by decide) rfl dX5_candidates_65 ?_
            refine lv_aload_n hx hb dX5_candidates_68 rfl (lv_at hl 2 rfl) ?_
            refine x_get S hK hP 0 rfl cfX5 4 lkX5_55 (by decide) rfl dX5_candidates_69 ?_
            refine x_Iald (v := (rh 6)) S hK hP 1 rfl (vp_lit (by decide)) rfl dX5_candidates_72 ?_
            refine lv_iconst (v := 0) hx hb dX5_candidates_73 (by decide) ?_
            refine lv_bipush (v := 17) hx hb dX5_candidates_74 (by decide) ?_
            refine x_copyi (ws' := fun f_131 => [((o 11), .inr (5, [.ref (o 3), .ref (o 10), .ref (o 6), .ref (o 80), .int (nI 6), .int squestion, .int sleft])), ((o 80), .inl (k 5, 12, .inr (.inr (.inr (.inr (fun i => if i < 12 then some (rh i) else none)))))), ((rh 0), .inl (k 0, 17, .inl g_101)), ((rh 1), .inl (k 0, 17, .inl g_102)), ((rh 2), .inl (k 0, 17, .inl g_103)), ((rh 3), .inl (k 0, 17, .inl g_104)), ((rh 4), .inl (k 0, 17, .inl g_105)), ((rh 5), .inl (k 0, 17, .inl g_106)), ((rh 6), .inl (k 0, 17, .inl f_131)), ((rh 7), .inl (k 0, 17, .inl g_108)), ((rh 8), .inl (k 0, 17, .inl g_109)), ((rh 9), .inl (k 0, 17, .inl g_110)), ((rh 10), .inl (k 0, 17, .inl g_111)), ((rh 11), .inl (k 0, 17, .inl g_112)), ((o 10), .inr (6, [.ref (o 77), .ref (o 78), .ref (o 79)])), ((o 77), .inl (k 6, 4, .inr (.inr (.inr (.inr (fun i => if i < 4 then some (rn i) else none)))))), ((rn j), .inl (k 2, 60, .inr (.inl fnj))), ((o 78), .inl (k 0, 4, .inl f78)), ((o 79), .inl (k 0, 4, .inl f79)), ((o 6), .inr (1, [.ref (o 3), .ref (o 4), .int (u_117.1 0), .int (u_117.1 1), .int (u_117.1 2), .int (u_117.1 3), .int (u_117.1 4), .ref (o 73)])), ((o 73), .inl (k 0, 17, .inl (u_119.2.2.1 0))), ((o 4), .inr (3, [.ref (o 69), .ref (o 70), .ref (o 71)])), ((o 69), .inl (k 0, 17, .inl f69)), ((o 70), .inl (k 0, 17, .inl f70)), ((o 71), .inl (k 0, 17, .inl f71)), ((o 3), .inr (2, [.int glines, .int (nI ghours), .int glaw, .int godds, .int (nI grows), .int (nI gheads), .int (nI gsayings), .int (nI gslugs), .int (nI gacts), .ref (o 26), .ref (o 27), .ref (o 28), .ref (o 29), .ref (o 30), .ref (o 31), .ref (o 32), .ref (o 33), .ref (o 34), .ref (o 35)])), ((o 26), .inl (k 0, 12, .inl f26)), ((o 30), .inl (k 0, 12, .inl f30)), ((o 31), .inl (k 0, 12, .inl f31))]) S hK hP hD hS hl lkX5_72 20 8 rfl rfl (ni_nn (a := 0) (by decide) (by omega)) (ni_nn (a := 0) (by decide) (by omega)) (ni_nn (a := 17) (by decide) (by omega)) (ni_cp (a := 0) (b := 17) (by decide) (by decide) (by omega) (by omega) (by omega)) (ni_cp (a := 0) (b := 17) (by decide) (by decide) (by omega) (by omega) (by omega)) ⟨Nat.le_of_ble_eq_true rfl, Nat.le_of_ble_eq_true rfl⟩ (fun _ => rfl) dX5_candidates_76 (fun f_131 H locs ef_131 hP hD hS => ?_)
            refine lv_aload_n hx hb dX5_candidates_79 rfl (lv_at hl 2 rfl) ?_
            refine lv_dup hx hb dX5_candidates_80 rfl ?_
            refine x_get S hK hP 0 rfl cfX5 4 lkX5_55 (by decide) rfl dX5_candidates_81 ?_
            refine lv_iconst (v := 1) hx hb dX5_candidates_84 (by decide) ?_
            refine lv_iadd hx hb dX5_candidates_85 ?_
            refine x_is 7 (by decide) ?_
            refine x_put (ws' := [((o 11), .inr (5, [.ref (o 3), .ref (o 10), .ref (o 6), .ref (o 80), .int 7, .int squestion, .int sleft])), ((o 80), .inl (k 5, 12, .inr (.inr (.inr (.inr (fun i => if i < 12 then some (rh i) else none)))))), ((rh 0), .inl (k 0, 17, .inl g_101)), ((rh 1), .inl (k 0, 17, .inl g_102)), ((rh 2), .inl (k 0, 17, .inl g_103)), ((rh 3), .inl (k 0, 17, .inl g_104)), ((rh 4), .inl (k 0, 17, .inl g_105)), ((rh 5), .inl (k 0, 17, .inl g_106)), ((rh 6), .inl (k 0, 17, .inl f_131)), ((rh 7), .inl (k 0, 17, .inl g_108)), ((rh 8), .inl (k 0, 17, .inl g_109)), ((rh 9), .inl (k 0, 17, .inl g_110)), ((rh 10), .inl (k 0, 17, .inl g_111)), ((rh 11), .inl (k 0, 17, .inl g_112)), ((o 10), .inr (6, [.ref (o 77), .ref (o 78), .ref (o 79)])), ((o 77), .inl (k 6, 4, .inr (.inr (.inr (.inr (fun i => if i < 4 then some (rn i) else none)))))), ((rn j), .inl (k 2, 60, .inr (.inl fnj))), ((o 78), .inl (k 0, 4, .inl f78)), ((o 79), .inl (k 0, 4, .inl f79)), ((o 6), .inr (1, [.ref (o 3), .ref (o 4), .int (u_117.1 0), .int (u_117.1 1), .int (u_117.1 2), .int (u_117.1 3), .int (u_117.1 4), .ref (o 73)])), ((o 73), .inl (k 0, 17, .inl (u_119.2.2.1 0))), ((o 4), .inr (3, [.ref (o 69), .ref (o 70), .ref (o 71)])), ((o 69), .inl (k 0, 17, .inl f69)), ((o 70), .inl (k 0, 17, .inl f70)), ((o 71), .inl (k 0, 17, .inl f71)), ((o 3), .inr (2, [.int glines, .int (nI ghours), .int glaw, .int godds, .int (nI grows), .int (nI gheads), .int (nI gsayings), .int (nI gslugs), .int (nI gacts), .ref (o 26), .ref (o 27), .ref (o 28), .ref (o 29), .ref (o 30), .ref (o 31), .ref (o 32), .ref (o 33), .ref (o 34), .ref (o 35)])), ((o 26), .inl (k 0, 12, .inl f26)), ((o 30), .inl (k 0, 12, .inl f30)), ((o 31), .inl (k 0, 12, .inl f31))]) S hK hP hD hS 0 rfl cfX5 4 lkX5_55 (by decide) rfl rfl rfl (Nat.le_of_ble_eq_true rfl) rfl dX5_candidates_86 (fun H locs hP hD hS => ?_)
            refine lv_iinc (v := (nI (j_92 + 1))) (lv' := [(4, .int (nI (j_92 + 1))), (3, .int v_124), (0, .ref (o 11)), (1, .int (nI j)), (2, .int p0)]) hx hb dX5_candidates_89 hl (k := 1) rfl (ni_inc _) (by decide) rfl (fun ls hl => ?_)
            refine lv_goto (tgt := 10) hx hb dX5_candidates_92 (by decide) ?_
            exact ihj_92 (j_92 + 1) (u_117.1 0) (u_117.1 1) (u_117.1 2) (u_117.1 3) (u_117.1 4) (u_119.2.2.1 0) v_124 7 g_101 g_102 g_103 g_104 g_105 g_106 f_131 g_108 g_109 g_110 g_111 g_112 _ _ _ (by omega) (by omega) (by omega) (by omega) hP hD hS (lv_sub hl [0, 1, 2, 3, 4] rfl)
          · skip
            have hP : va_P D vwCl [((o 11), .inr (5, [.ref (o 3), .ref (o 10), .ref (o 6), .ref (o 80), .int (nI 7), .int squestion, .int sleft])), ((o 80), .inl (k 5, 12, .inr (.inr (.inr (.inr (fun i => if i < 12 then some (rh i) else none)))))), ((rh 0), .inl (k 0, 17, .inl g_101)), ((rh 1), .inl (k 0, 17, .inl g_102)), ((rh 2), .inl (k 0, 17, .inl g_103)), ((rh 3), .inl (k 0, 17, .inl g_104)), ((rh 4), .inl (k 0, 17, .inl g_105)), ((rh 5), .inl (k 0, 17, .inl g_106)), ((rh 6), .inl (k 0, 17, .inl g_107)), ((rh 7), .inl (k 0, 17, .inl g_108)), ((rh 8), .inl (k 0, 17, .inl g_109)), ((rh 9), .inl (k 0, 17, .inl g_110)), ((rh 10), .inl (k 0, 17, .inl g_111)), ((rh 11), .inl (k 0, 17, .inl g_112)), ((o 10), .inr (6, [.ref (o 77), .ref (o 78), .ref (o 79)])), ((o 77), .inl (k 6, 4, .inr (.inr (.inr (.inr (fun i => if i < 4 then some (rn i) else none)))))), ((rn j), .inl (k 2, 60, .inr (.inl fnj))), ((o 78), .inl (k 0, 4, .inl f78)), ((o 79), .inl (k 0, 4, .inl f79)), ((o 6), .inr (1, [.ref (o 3), .ref (o 4), .int (u_117.1 0), .int (u_117.1 1), .int (u_117.1 2), .int (u_117.1 3), .int (u_117.1 4), .ref (o 73)])), ((o 73), .inl (k 0, 17, .inl (u_119.2.2.1 0))), ((o 4), .inr (3, [.ref (o 69), .ref (o 70), .ref (o 71)])), ((o 69), .inl (k 0, 17, .inl f69)), ((o 70), .inl (k 0, 17, .inl f70)), ((o 71), .inl (k 0, 17, .inl f71)), ((o 3), .inr (2, [.int glines, .int (nI ghours), .int glaw, .int godds, .int (nI grows), .int (nI gheads), .int (nI gsayings), .int (nI gslugs), .int (nI gacts), .ref (o 26), .ref (o 27), .ref (o 28), .ref (o 29), .ref (o 30), .ref (o 31), .ref (o 32), .ref (o 33), .ref (o 34), .ref (o 35)])), ((o 26), .inl (k 0, 12, .inl f26)), ((o 30), .inl (k 0, 12, .inl f30)), ((o 31), .inl (k 0, 12, .inl f31))] H := hP
            have hD : va_D A [((o 11), .inr (5, [.ref (o 3), .ref (o 10), .ref (o 6), .ref (o 80), .int (nI 7), .int squestion, .int sleft])), ((o 80), .inl (k 5, 12, .inr (.inr (.inr (.inr (fun i => if i < 12 then some (rh i) else none)))))), ((rh 0), .inl (k 0, 17, .inl g_101)), ((rh 1), .inl (k 0, 17, .inl g_102)), ((rh 2), .inl (k 0, 17, .inl g_103)), ((rh 3), .inl (k 0, 17, .inl g_104)), ((rh 4), .inl (k 0, 17, .inl g_105)), ((rh 5), .inl (k 0, 17, .inl g_106)), ((rh 6), .inl (k 0, 17, .inl g_107)), ((rh 7), .inl (k 0, 17, .inl g_108)), ((rh 8), .inl (k 0, 17, .inl g_109)), ((rh 9), .inl (k 0, 17, .inl g_110)), ((rh 10), .inl (k 0, 17, .inl g_111)), ((rh 11), .inl (k 0, 17, .inl g_112)), ((o 10), .inr (6, [.ref (o 77), .ref (o 78), .ref (o 79)])), ((o 77), .inl (k 6, 4, .inr (.inr (.inr (.inr (fun i => if i < 4 then some (rn i) else none)))))), ((rn j), .inl (k 2, 60, .inr (.inl fnj))), ((o 78), .inl (k 0, 4, .inl f78)), ((o 79), .inl (k 0, 4, .inl f79)), ((o 6), .inr (1, [.ref (o 3), .ref (o 4), .int (u_117.1 0), .int (u_117.1 1), .int (u_117.1 2), .int (u_117.1 3), .int (u_117.1 4), .ref (o 73)])), ((o 73), .inl (k 0, 17, .inl (u_119.2.2.1 0))), ((o 4), .inr (3, [.ref (o 69), .ref (o 70), .ref (o 71)])), ((o 69), .inl (k 0, 17, .inl f69)), ((o 70), .inl (k 0, 17, .inl f70)), ((o 71), .inl (k 0, 17, .inl f71)), ((o 3), .inr (2, [.int glines, .int (nI ghours), .int glaw, .int godds, .int (nI grows), .int (nI gheads), .int (nI gsayings), .int (nI gslugs), .int (nI gacts), .ref (o 26), .ref (o 27), .ref (o 28), .ref (o 29), .ref (o 30), .ref (o 31), .ref (o 32), .ref (o 33), .ref (o 34), .ref (o 35)])), ((o 26), .inl (k 0, 12, .inl f26)), ((o 30), .inl (k 0, 12, .inl f30)), ((o 31), .inl (k 0, 12, .inl f31))] := hD
            have hl : lv_has ls 5 [(3, .int v_124), (4, .int (nI j_92)), (0, .ref (o 11)), (1, .int (nI j)), (2, .int p0)] := hl
            refine lv_aload_n hx hb dX5_candidates_64 rfl (lv_at hl 2 rfl) ?_
            refine x_get S hK hP 0 rfl cfX5 3 lkX5_11 (by decide) rfl dX5_candidates_65 ?_
            refine lv_aload_n hx hb dX5_candidates_68 rfl (lv_at hl 2 rfl) ?_
            refine x_get S hK hP 0 rfl cfX5 4 lkX5_55 (by decide) rfl dX5_candidates_69 ?_
            refine x_Iald (v := (rh 7)) S hK hP 1 rfl (vp_lit (by decide)) rfl dX5_candidates_72 ?_
            refine lv_iconst (v := 0) hx hb dX5_candidates_73 (by decide) ?_
            refine lv_bipush (v := 17) hx hb dX5_candidates_74 (by decide) ?_
            refine x_copyi (ws' := fun f_132 => [((o 11), .inr (5, [.ref (o 3), .ref (o 10), .ref (o 6), .ref (o 80), .int (nI 7), .int squestion, .int sleft])), ((o 80), .inl (k 5, 12, .inr (.inr (.inr (.inr (fun i => if i < 12 then some (rh i) else none)))))), ((rh 0), .inl (k 0, 17, .inl g_101)), ((rh 1), .inl (k 0, 17, .inl g_102)), ((rh 2), .inl (k 0, 17, .inl g_103)), ((rh 3), .inl (k 0, 17, .inl g_104)), ((rh 4), .inl (k 0, 17, .inl g_105)), ((rh 5), .inl (k 0, 17, .inl g_106)), ((rh 6), .inl (k 0, 17, .inl g_107)), ((rh 7), .inl (k 0, 17, .inl f_132)), ((rh 8), .inl (k 0, 17, .inl g_109)), ((rh 9), .inl (k 0, 17, .inl g_110)), ((rh 10), .inl (k 0, 17, .inl g_111)), ((rh 11), .inl (k 0, 17, .inl g_112)), ((o 10), .inr (6, [.ref (o 77), .ref (o 78), .ref (o 79)])), ((o 77), .inl (k 6, 4, .inr (.inr (.inr (.inr (fun i => if i < 4 then some (rn i) else none)))))), ((rn j), .inl (k 2, 60, .inr (.inl fnj))), ((o 78), .inl (k 0, 4, .inl f78)), ((o 79), .inl (k 0, 4, .inl f79)), ((o 6), .inr (1, [.ref (o 3), .ref (o 4), .int (u_117.1 0), .int (u_117.1 1), .int (u_117.1 2), .int (u_117.1 3), .int (u_117.1 4), .ref (o 73)])), ((o 73), .inl (k 0, 17, .inl (u_119.2.2.1 0))), ((o 4), .inr (3, [.ref (o 69), .ref (o 70), .ref (o 71)])), ((o 69), .inl (k 0, 17, .inl f69)), ((o 70), .inl (k 0, 17, .inl f70)), ((o 71), .inl (k 0, 17, .inl f71)), ((o 3), .inr (2, [.int glines, .int (nI ghours), .int glaw, .int godds, .int (nI grows), .int (nI gheads), .int (nI gsayings), .int (nI gslugs), .int (nI gacts), .ref (o 26), .ref (o 27), .ref (o 28), .ref (o 29), .ref (o 30), .ref (o 31), .ref (o 32), .ref (o 33), .ref (o 34), .ref (o 35)])), ((o 26), .inl (k 0, 12, .inl f26)), ((o 30), .inl (k 0, 12, .inl f30)), ((o 31), .inl (k 0, 12, .inl f31))]) S hK hP hD hS hl lkX5_72 20 9 rfl rfl (ni_nn (a := 0) (by decide) (by omega)) (ni_nn (a := 0) (by decide) (by omega)) (ni_nn (a := 17) (by decide) (by omega)) (ni_cp (a := 0) (b := 17) (by decide) (by decide) (by omega) (by omega) (by omega)) (ni_cp (a := 0) (b := 17) (by decide) (by decide) (by omega) (by omega) (by omega)) ⟨Nat.le_of_ble_eq_true rfl, Nat.le_of_ble_eq_true rfl⟩ (fun _ => rfl) dX5_candidates_76 (fun f_132 H locs ef_132 hP hD hS => ?_)
            refine lv_aload_n hx hb dX5_candidates_79 rfl (lv_at hl 2 rfl) ?_
            refine lv_dup hx hb dX5_candidates_80 rfl ?_
            refine x_get S hK hP 0 rfl cfX5 4 lkX5_55 (by decide) rfl dX5_candidates_81 ?_
            refine lv_iconst (v := 1) hx hb dX5_candidates_84 (by decide) ?_
            refine lv_iadd hx hb dX5_candidates_85 ?_
            refine x_is 8 (by decide) ?_
            refine x_put (ws' := [((o 11), .inr (5, [.ref (o 3), .ref (o 10), .ref (o 6), .ref (o 80), .int 8, .int squestion, .int sleft])), ((o 80), .inl (k 5, 12, .inr (.inr (.inr (.inr (fun i => if i < 12 then some (rh i) else none)))))), ((rh 0), .inl (k 0, 17, .inl g_101)), ((rh 1), .inl (k 0, 17, .inl g_102)), ((rh 2), .inl (k 0, 17, .inl g_103)), ((rh 3), .inl (k 0, 17, .inl g_104)), ((rh 4), .inl (k 0, 17, .inl g_105)), ((rh 5), .inl (k 0, 17, .inl g_106)), ((rh 6), .inl (k 0, 17, .inl g_107)), ((rh 7), .inl (k 0, 17, .inl f_132)), ((rh 8), .inl (k 0, 17, .inl g_109)), ((rh 9), .inl (k 0, 17, .inl g_110)), ((rh 10), .inl (k 0, 17, .inl g_111)), ((rh 11), .inl (k 0, 17, .inl g_112)), ((o 10), .inr (6, [.ref (o 77), .ref (o 78), .ref (o 79)])), ((o 77), .inl (k 6, 4, .inr (.inr (.inr (.inr (fun i => if i < 4 then some (rn i) else none)))))), ((rn j), .inl (k 2, 60, .inr (.inl fnj))), ((o 78), .inl (k 0, 4, .inl f78)), ((o 79), .inl (k 0, 4, .inl f79)), ((o 6), .inr (1, [.ref (o 3), .ref (o 4), .int (u_117.1 0), .int (u_117.1 1), .int (u_117.1 2), .int (u_117.1 3), .int (u_117.1 4), .ref (o 73)])), ((o 73), .inl (k 0, 17, .inl (u_119.2.2.1 0))), ((o 4), .inr (3, [.ref (o 69), .ref (o 70), .ref (o 71)])), ((o 69), .inl (k 0, 17, .inl f69)), ((o 70), .inl (k 0, 17, .inl f70)), ((o 71), .inl (k 0, 17, .inl f71)), ((o 3), .inr (2, [.int glines, .int (nI ghours), .int glaw, .int godds, .int (nI grows), .int (nI gheads), .int (nI gsayings), .int (nI gslugs), .int (nI gacts), .ref (o 26), .ref (o 27), .ref (o 28), .ref (o 29), .ref (o 30), .ref (o 31), .ref (o 32), .ref (o 33), .ref (o 34), .ref (o 35)])), ((o 26), .inl (k 0, 12, .inl f26)), ((o 30), .inl (k 0, 12, .inl f30)), ((o 31), .inl (k 0, 12, .inl f31))]) S hK hP hD hS 0 rfl cfX5 4 lkX5_55 (by decide) rfl rfl rfl (Nat.le_of_ble_eq_true rfl) rfl dX5_candidates_86 (fun H locs hP hD hS => ?_)
            refine lv_iinc (v := (nI (j_92 + 1))) (lv' := [(4, .int (nI (j_92 + 1))), (3, .int v_124), (0, .ref (o 11)), (1, .int (nI j)), (2, .int p0)]) hx hb dX5_candidates_89 hl (k := 1) rfl (ni_inc _) (by decide) rfl (fun ls hl => ?_)
            refine lv_goto (tgt := 10) hx hb dX5_candidates_92 (by decide) ?_
            exact ihj_92 (j_92 + 1) (u_117.1 0) (u_117.1 1) (u_117.1 2) (u_117.1 3) (u_117.1 4) (u_119.2.2.1 0) v_124 8 g_101 g_102 g_103 g_104 g_105 g_106 g_107 f_132 g_109 g_110 g_111 g_112 _ _ _ (by omega) (by omega) (by omega) (by omega) hP hD hS (lv_sub hl [0, 1, 2, 3, 4] rfl)
          · skip
            have hP : va_P D vwCl [((o 11), .inr (5, [.ref (o 3), .ref (o 10), .ref (o 6), .ref (o 80), .int (nI 8), .int squestion, .int sleft])), ((o 80), .inl (k 5, 12, .inr (.inr (.inr (.inr (fun i => if i < 12 then some (rh i) else none)))))), ((rh 0), .inl (k 0, 17, .inl g_101)), ((rh 1), .inl (k 0, 17, .inl g_102)), ((rh 2), .inl (k 0, 17, .inl g_103)), ((rh 3), .inl (k 0, 17, .inl g_104)), ((rh 4), .inl (k 0, 17, .inl g_105)), ((rh 5), .inl (k 0, 17, .inl g_106)), ((rh 6), .inl (k 0, 17, .inl g_107)), ((rh 7), .inl (k 0, 17, .inl g_108)), ((rh 8), .inl (k 0, 17, .inl g_109)), ((rh 9), .inl (k 0, 17, .inl g_110)), ((rh 10), .inl (k 0, 17, .inl g_111)), ((rh 11), .inl (k 0, 17, .inl g_112)), ((o 10), .inr (6, [.ref (o 77), .ref (o 78), .ref (o 79)])), ((o 77), .inl (k 6, 4, .inr (.inr (.inr (.inr (fun i => if i < 4 then some (rn i) else none)))))), ((rn j), .inl (k 2, 60, .inr (.inl fnj))), ((o 78), .inl (k 0, 4, .inl f78)), ((o 79), .inl (k 0, 4, .inl f79)), ((o 6), .inr (1, [.ref (o 3), .ref (o 4), .int (u_117.1 0), .int (u_117.1 1), .int (u_117.1 2), .int (u_117.1 3), .int (u_117.1 4), .ref (o 73)])), ((o 73), .inl (k 0, 17, .inl (u_119.2.2.1 0))), ((o 4), .inr (3, [.ref (o 69), .ref (o 70), .ref (o 71)])), ((o 69), .inl (k 0, 17, .inl f69)), ((o 70), .inl (k 0, 17, .inl f70)), ((o 71), .inl (k 0, 17, .inl f71)), ((o 3), .inr (2, [.int glines, .int (nI ghours), .int glaw, .int godds, .int (nI grows), .int (nI gheads), .int (nI gsayings), .int (nI gslugs), .int (nI gacts), .ref (o 26), .ref (o 27), .ref (o 28), .ref (o 29), .ref (o 30), .ref (o 31), .ref (o 32), .ref (o 33), .ref (o 34), .ref (o 35)])), ((o 26), .inl (k 0, 12, .inl f26)), ((o 30), .inl (k 0, 12, .inl f30)), ((o 31), .inl (k 0, 12, .inl f31))] H := hP
            have hD : va_D A [((o 11), .inr (5, [.ref (o 3), .ref (o 10), .ref (o 6), .ref (o 80), .int (nI 8), .int squestion, .int sleft])), ((o 80), .inl (k 5, 12, .inr (.inr (.inr (.inr (fun i => if i < 12 then some (rh i) else none)))))), ((rh 0), .inl (k 0, 17, .inl g_101)), ((rh 1), .inl (k 0, 17, .inl g_102)), ((rh 2), .inl (k 0, 17, .inl g_103)), ((rh 3), .inl (k 0, 17, .inl g_104)), ((rh 4), .inl (k 0, 17, .inl g_105)), ((rh 5), .inl (k 0, 17, .inl g_106)), ((rh 6), .inl (k 0, 17, .inl g_107)), ((rh 7), .inl (k 0, 17, .inl g_108)), ((rh 8), .inl (k 0, 17, .inl g_109)), ((rh 9), .inl (k 0, 17, .inl g_110)), ((rh 10), .inl (k 0, 17, .inl g_111)), ((rh 11), .inl (k 0, 17, .inl g_112)), ((o 10), .inr (6, [.ref (o 77), .ref (o 78), .ref (o 79)])), ((o 77), .inl (k 6, 4, .inr (.inr (.inr (.inr (fun i => if i < 4 then some (rn i) else none)))))), ((rn j), .inl (k 2, 60, .inr (.inl fnj))), ((o 78), .inl (k 0, 4, .inl f78)), ((o 79), .inl (k 0, 4, .inl f79)), ((o 6), .inr (1, [.ref (o 3), .ref (o 4), .int (u_117.1 0), .int (u_117.1 1), .int (u_117.1 2), .int (u_117.1 3), .int (u_117.1 4), .ref (o 73)])), ((o 73), .inl (k 0, 17, .inl (u_119.2.2.1 0))), ((o 4), .inr (3, [.ref (o 69), .ref (o 70), .ref (o 71)])), ((o 69), .inl (k 0, 17, .inl f69)), ((o 70), .inl (k 0, 17, .inl f70)), ((o 71), .inl (k 0, 17, .inl f71)), ((o 3), .inr (2, [.int glines, .int (nI ghours), .int glaw, .int godds, .int (nI grows), .int (nI gheads), .int (nI gsayings), .int (nI gslugs), .int (nI gacts), .ref (o 26), .ref (o 27), .ref (o 28), .ref (o 29), .ref (o 30), .ref (o 31), .ref (o 32), .ref (o 33), .ref (o 34), .ref (o 35)])), ((o 26), .inl (k 0, 12, .inl f26)), ((o 30), .inl (k 0, 12, .inl f30)), ((o 31), .inl (k 0, 12, .inl f31))] := hD
            have hl : lv_has ls 5 [(3, .int v_124), (4, .int (nI j_92)), (0, .ref (o 11)), (1, .int (nI j)), (2, .int p0)] := hl
            refine lv_aload_n hx hb dX5_candidates_64 rfl (lv_at hl 2 rfl) ?_
            refine x_get S hK hP 0 rfl cfX5 3 lkX5_11 (by decide) rfl dX5_candidates_65 ?_
            refine lv_aload_n hx hb dX5_candidates_68 rfl (lv_at hl 2 rfl) ?_
            refine x_get S hK hP 0 rfl cfX5 4 lkX5_55 (by decide) rfl dX5_candidates_69 ?_
            refine x_Iald (v := (rh 8)) S hK hP 1 rfl (vp_lit (by decide)) rfl dX5_candidates_72 ?_
            refine lv_iconst (v := 0) hx hb dX5_candidates_73 (by decide) ?_
            refine lv_bipush (v := 17) hx hb dX5_candidates_74 (by decide) ?_
            refine x_copyi (ws' := fun f_133 => [((o 11), .inr (5, [.ref (o 3), .ref (o 10), .ref (o 6), .ref (o 80), .int (nI 8), .int squestion, .int sleft])), ((o 80), .inl (k 5, 12, .inr (.inr (.inr (.inr (fun i => if i < 12 then some (rh i) else none)))))), ((rh 0), .inl (k 0, 17, .inl g_101)), ((rh 1), .inl (k 0, 17, .inl g_102)), ((rh 2), .inl (k 0, 17, .inl g_103)), ((rh 3), .inl (k 0, 17, .inl g_104)), ((rh 4), .inl (k 0, 17, .inl g_105)), ((rh 5), .inl (k 0, 17, .inl g_106)), ((rh 6), .inl (k 0, 17, .inl g_107)), ((rh 7), .inl (k 0, 17, .inl g_108)), ((rh 8), .inl (k 0, 17, .inl f_133)), ((rh 9), .inl (k 0, 17, .inl g_110)), ((rh 10), .inl (k 0, 17, .inl g_111)), ((rh 11), .inl (k 0, 17, .inl g_112)), ((o 10), .inr (6, [.ref (o 77), .ref (o 78), .ref (o 79)])), ((o 77), .inl (k 6, 4, .inr (.inr (.inr (.inr (fun i => if i < 4 then some (rn i) else none)))))), ((rn j), .inl (k 2, 60, .inr (.inl fnj))), ((o 78), .inl (k 0, 4, .inl f78)), ((o 79), .inl (k 0, 4, .inl f79)), ((o 6), .inr (1, [.ref (o 3), .ref (o 4), .int (u_117.1 0), .int (u_117.1 1), .int (u_117.1 2), .int (u_117.1 3), .int (u_117.1 4), .ref (o 73)])), ((o 73), .inl (k 0, 17, .inl (u_119.2.2.1 0))), ((o 4), .inr (3, [.ref (o 69), .ref (o 70), .ref (o 71)])), ((o 69), .inl (k 0, 17, .inl f69)), ((o 70), .inl (k 0, 17, .inl f70)), ((o 71), .inl (k 0, 17, .inl f71)), ((o 3), .inr (2, [.int glines, .int (nI ghours), .int glaw, .int godds, .int (nI grows), .int (nI gheads), .int (nI gsayings), .int (nI gslugs), .int (nI gacts), .ref (o 26), .ref (o 27), .ref (o 28), .ref (o 29), .ref (o 30), .ref (o 31), .ref (o 32), .ref (o 33), .ref (o 34), .ref (o 35)])), ((o 26), .inl (k 0, 12, .inl f26)), ((o 30), .inl (k 0, 12, .inl f30)), ((o 31), .inl (k 0, 12, .inl f31))]) S hK hP hD hS hl lkX5_72 20 10 rfl rfl (ni_nn (a := 0) (by decide) (by omega)) (ni_nn (a := 0) (by decide) (by omega)) (ni_nn (a := 17) (by decide) (by omega)) (ni_cp (a := 0) (b := 17) (by decide) (by decide) (by omega) (by omega) (by omega)) (ni_cp (a := 0) (b := 17) (by decide) (by decide) (by omega) (by omega) (by omega)) ⟨Nat.le_of_ble_eq_true rfl, Nat.le_of_ble_eq_true rfl⟩ (fun _ => rfl) dX5_candidates_76 (fun f_133 H locs ef_133 hP hD hS => ?_)
            refine lv_aload_n hx hb dX5_candidates_79 rfl (lv_at hl 2 rfl) ?_
            refine lv_dup hx hb dX5_candidates_80 rfl ?_
            refine x_get S hK hP 0 rfl cfX5 4 lkX5_55 (by decide) rfl dX5_candidates_81 ?_
            refine lv_iconst (v := 1) hx hb dX5_candidates_84 (by decide) ?_
            refine lv_iadd hx hb dX5_candidates_85 ?_
            refine x_is 9 (by decide) ?_
            refine x_put (ws' := [((o 11), .inr (5, [.ref (o 3), .ref (o 10), .ref (o 6), .ref (o 80), .int 9, .int squestion, .int sleft])), ((o 80), .inl (k 5, 12, .inr (.inr (.inr (.inr (fun i => if i < 12 then some (rh i) else none)))))), ((rh 0), .inl (k 0, 17, .inl g_101)), ((rh 1), .inl (k 0, 17, .inl g_102)), ((rh 2), .inl (k 0, 17, .inl g_103)), ((rh 3), .inl (k 0, 17, .inl g_104)), ((rh 4), .inl (k 0, 17, .inl g_105)), ((rh 5), .inl (k 0, 17, .inl g_106)), ((rh 6), .inl (k 0, 17, .inl g_107)), ((rh 7), .inl (k 0, 17, .inl g_108)), ((rh 8), .inl (k 0, 17, .inl f_133)), ((rh 9), .inl (k 0, 17, .inl g_110)), ((rh 10), .inl (k 0, 17, .inl g_111)), ((rh 11), .inl (k 0, 17, .inl g_112)), ((o 10), .inr (6, [.ref (o 77), .ref (o 78), .ref (o 79)])), ((o 77), .inl (k 6, 4, .inr (.inr (.inr (.inr (fun i => if i < 4 then some (rn i) else none)))))), ((rn j), .inl (k 2, 60, .inr (.inl fnj))), ((o 78), .inl (k 0, 4, .inl f78)), ((o 79), .inl (k 0, 4, .inl f79)), ((o 6), .inr (1, [.ref (o 3), .ref (o 4), .int (u_117.1 0), .int (u_117.1 1), .int (u_117.1 2), .int (u_117.1 3), .int (u_117.1 4), .ref (o 73)])), ((o 73), .inl (k 0, 17, .inl (u_119.2.2.1 0))), ((o 4), .inr (3, [.ref (o 69), .ref (o 70), .ref (o 71)])), ((o 69), .inl (k 0, 17, .inl f69)), ((o 70), .inl (k 0, 17, .inl f70)), ((o 71), .inl (k 0, 17, .inl f71)), ((o 3), .inr (2, [.int glines, .int (nI ghours), .int glaw, .int godds, .int (nI grows), .int (nI gheads), .int (nI gsayings), .int (nI gslugs), .int (nI gacts), .ref (o 26), .ref (o 27), .ref (o 28), .ref (o 29), .ref (o 30), .ref (o 31), .ref (o 32), .ref (o 33), .ref (o 34), .ref (o 35)])), ((o 26), .inl (k 0, 12, .inl f26)), ((o 30), .inl (k 0, 12, .inl f30)), ((o 31), .inl (k 0, 12, .inl f31))]) S hK hP hD hS 0 rfl cfX5 4 lkX5_55 (by decide) rfl rfl rfl (Nat.le_of_ble_eq_true rfl) rfl dX5_candidates_86 (fun H locs hP hD hS => ?_)
            refine lv_iinc (v := (nI (j_92 + 1))) (lv' := [(4, .int (nI (j_92 + 1))), (3, .int v_124), (0, .ref (o 11)), (1, .int (nI j)), (2, .int p0)]) hx hb dX5_candidates_89 hl (k := 1) rfl (ni_inc _) (by decide) rfl (fun ls hl => ?_)
            refine lv_goto (tgt := 10) hx hb dX5_candidates_92 (by decide) ?_
            exact ihj_92 (j_92 + 1) (u_117.1 0) (u_117.1 1) (u_117.1 2) (u_117.1 3) (u_117.1 4) (u_119.2.2.1 0) v_124 9 g_101 g_102 g_103 g_104 g_105 g_106 g_107 g_108 f_133 g_110 g_111 g_112 _ _ _ (by omega) (by omega) (by omega) (by omega) hP hD hS (lv_sub hl [0, 1, 2, 3, 4] rfl)
          · skip
            have hP : va_P D vwCl [((o 11), .inr (5, [.ref (o 3), .ref (o 10), .ref (o 6), .ref (o 80), .int (nI 9), .int squestion, .int sleft])), ((o 80), .inl (k 5, 12, .inr (.inr (.inr (.inr (fun i => if i < 12 then some (rh i) else none)))))), ((rh 0), .inl (k 0, 17, .inl g_101)), ((rh 1), .inl (k 0, 17, .inl g_102)), ((rh 2), .inl (k 0, 17, .inl g_103)), ((rh 3), .inl (k 0, 17, .inl g_104)), ((rh 4), .inl (k 0, 17, .inl g_105)), ((rh 5), .inl (k 0, 17, .inl g_106)), ((rh 6), .inl (k 0, 17, .inl g_107)), ((rh 7), .inl (k 0, 17, .inl g_108)), ((rh 8), .inl (k 0, 17, .inl g_109)), ((rh 9), .inl (k 0, 17, .inl g_110)), ((rh 10), .inl (k 0, 17, .inl g_111)), ((rh 11), .inl (k 0, 17, .inl g_112)), ((o 10), .inr (6, [.ref (o 77), .ref (o 78), .ref (o 79)])), ((o 77), .inl (k 6, 4, .inr (.inr (.inr (.inr (fun i => if i < 4 then some (rn i) else none)))))), ((rn j), .inl (k 2, 60, .inr (.inl fnj))), ((o 78), .inl (k 0, 4, .inl f78)), ((o 79), .inl (k 0, 4, .inl f79)), ((o 6), .inr (1, [.ref (o 3), .ref (o 4), .int (u_117.1 0), .int (u_117.1 1), .int (u_117.1 2), .int (u_117.1 3), .int (u_117.1 4), .ref (o 73)])), ((o 73), .inl (k 0, 17, .inl (u_119.2.2.1 0))), ((o 4), .inr (3, [.ref (o 69), .ref (o 70), .ref (o 71)])), ((o 69), .inl (k 0, 17, .inl f69)), ((o 70), .inl (k 0, 17, .inl f70)), ((o 71), .inl (k 0, 17, .inl f71)), ((o 3), .inr (2, [.int glines, .int (nI ghours), .int glaw, .int godds, .int (nI grows), .int (nI gheads), .int (nI gsayings), .int (nI gslugs), .int (nI gacts), .ref (o 26), .ref (o 27), .ref (o 28), .ref (o 29), .ref (o 30), .ref (o 31), .ref (o 32), .ref (o 33), .ref (o 34), .ref (o 35)])), ((o 26), .inl (k 0, 12, .inl f26)), ((o 30), .inl (k 0, 12, .inl f30)), ((o 31), .inl (k 0, 12, .inl f31))] H := hP
            have hD : va_D A [((o 11), .inr (5, [.ref (o 3), .ref (o 10), .ref (o 6), .ref (o 80), .int (nI 9), .int squestion, .int sleft])), ((o 80), .inl (k 5, 12, .inr (.inr (.inr (.inr (fun i => if i < 12 then some (rh i) else none)))))), ((rh 0), .inl (k 0, 17, .inl g_101)), ((rh 1), .inl (k 0, 17, .inl g_102)), ((rh 2), .inl (k 0, 17, .inl g_103)), ((rh 3), .inl (k 0, 17, .inl g_104)), ((rh 4), .inl (k 0, 17, .inl g_105)), ((rh 5), .inl (k 0, 17, .inl g_106)), ((rh 6), .inl (k 0, 17, .inl g_107)), ((rh 7), .inl (k 0, 17, .inl g_108)), ((rh 8), .inl (k 0, 17, .inl g_109)), ((rh 9), .inl (k 0, 17, .inl g_110)), ((rh 10), .inl (k 0, 17, .inl g_111)), ((rh 11), .inl (k 0, 17, .inl g_112)), ((o 10), .inr (6, [.ref (o 77), .ref (o 78), .ref (o 79)])), ((o 77), .inl (k 6, 4, .inr (.inr (.inr (.inr (fun i => if i < 4 then some (rn i) else none)))))), ((rn j), .inl (k 2, 60, .inr (.inl fnj))), ((o 78), .inl (k 0, 4, .inl f78)), ((o 79), .inl (k 0, 4, .inl f79)), ((o 6), .inr (1, [.ref (o 3), .ref (o 4), .int (u_117.1 0), .int (u_117.1 1), .int (u_117.1 2), .int (u_117.1 3), .int (u_117.1 4), .ref (o 73)])), ((o 73), .inl (k 0, 17, .inl (u_119.2.2.1 0))), ((o 4), .inr (3, [.ref (o 69), .ref (o 70), .ref (o 71)])), ((o 69), .inl (k 0, 17, .inl f69)), ((o 70), .inl (k 0, 17, .inl f70)), ((o 71), .inl (k 0, 17, .inl f71)), ((o 3), .inr (2, [.int glines, .int (nI ghours), .int glaw, .int godds, .int (nI grows), .int (nI gheads), .int (nI gsayings), .int (nI gslugs), .int (nI gacts), .ref (o 26), .ref (o 27), .ref (o 28), .ref (o 29), .ref (o 30), .ref (o 31), .ref (o 32), .ref (o 33), .ref (o 34), .ref (o 35)])), ((o 26), .inl (k 0, 12, .inl f26)), ((o 30), .inl (k 0, 12, .inl f30)), ((o 31), .inl (k 0, 12, .inl f31))] := hD
            have hl : lv_has ls 5 [(3, .int v_124), (4, .int (nI j_92)), (0, .ref (o 11)), (1, .int (nI j)), (2, .int p0)] := hl
            refine lv_aload_n hx hb dX5_candidates_64 rfl (lv_at hl 2 rfl) ?_
            refine x_get S hK hP 0 rfl cfX5 3 lkX5_11 (by decide) rfl dX5_candidates_65 ?_
            refine lv_aload_n hx hb dX5_candidates_68 rfl (lv_at hl 2 rfl) ?_
            refine x_get S hK hP 0 rfl cfX5 4 lkX5_55 (by decide) rfl dX5_candidates_69 ?_
            refine x_Iald (v := (rh 9)) S hK hP 1 rfl (vp_lit (by decide)) rfl dX5_candidates_72 ?_
            refine lv_iconst (v := 0) hx hb dX5_candidates_73 (by decide) ?_
            refine lv_bipush (v := 17) hx hb dX5_candidates_74 (by decide) ?_
            refine x_copyi (ws' := fun f_134 => [((o 11), .inr (5, [.ref (o 3), .ref (o 10), .ref (o 6), .ref (o 80), .int (nI 9), .int squestion, .int sleft])), ((o 80), .inl (k 5, 12, .inr (.inr (.inr (.inr (fun i => if i < 12 then some (rh i) else none)))))), ((rh 0), .inl (k 0, 17, .inl g_101)), ((rh 1), .inl (k 0, 17, .inl g_102)), ((rh 2), .inl (k 0, 17, .inl g_103)), ((rh 3), .inl (k 0, 17, .inl g_104)), ((rh 4), .inl (k 0, 17, .inl g_105)), ((rh 5), .inl (k 0, 17, .inl g_106)), ((rh 6), .inl (k 0, 17, .inl g_107)), ((rh 7), .inl (k 0, 17, .inl g_108)), ((rh 8), .inl (k 0, 17, .inl g_109)), ((rh 9), .inl (k 0, 17, .inl f_134)), ((rh 10), .inl (k 0, 17, .inl g_111)), ((rh 11), .inl (k 0, 17, .inl g_112)), ((o 10), .inr (6, [.ref (o 77), .ref (o 78), .ref (o 79)])), ((o 77), .inl (k 6, 4, .inr (.inr (.inr (.inr (fun i => if i < 4 then some (rn i) else none)))))), ((rn j), .inl (k 2, 60, .inr (.inl fnj))), ((o 78), .inl (k 0, 4, .inl f78)), ((o 79), .inl (k 0, 4, .inl f79)), ((o 6), .inr (1, [.ref (o 3), .ref (o 4), .int (u_117.1 0), .int (u_117.1 1), .int (u_117.1 2), .int (u_117.1 3), .int (u_117.1 4), .ref (o 73)])), ((o 73), .inl (k 0, 17, .inl (u_119.2.2.1 0))), ((o 4), .inr (3, [.ref (o 69), .ref (o 70), .ref (o 71)])), ((o 69), .inl (k 0, 17, .inl f69)), ((o 70), .inl (k 0, 17, .inl f70)), ((o 71), .inl (k 0, 17, .inl f71)), ((o 3), .inr (2, [.int glines, .int (nI ghours), .int glaw, .int godds, .int (nI grows), .int (nI gheads), .int (nI gsayings), .int (nI gslugs), .int (nI gacts), .ref (o 26), .ref (o 27), .ref (o 28), .ref (o 29), .ref (o 30), .ref (o 31), .ref (o 32), .ref (o 33), .ref (o 34), .ref (o 35)])), ((o 26), .inl (k 0, 12, .inl f26)), ((o 30), .inl (k 0, 12, .inl f30)), ((o 31), .inl (k 0, 12, .inl f31))]) S hK hP hD hS hl lkX5_72 20 11 rfl rfl (ni_nn (a := 0) (by decide) (by omega)) (ni_nn (a := 0) (by decide) (by omega)) (ni_nn (a := 17) (by decide) (by omega)) (ni_cp (a := 0) (b := 17) (by decide) (by decide) (by omega) (by omega) (by omega)) (ni_cp (a := 0) (b := 17) (by decide) (by decide) (by omega) (by omega) (by omega)) ⟨Nat.le_of_ble_eq_true rfl, Nat.le_of_ble_eq_true rfl⟩ (fun _ => rfl) dX5_candidates_76 (fun f_134 H locs ef_134 hP hD hS => ?_)
            refine lv_aload_n hx hb dX5_candidates_79 rfl (lv_at hl 2 rfl) ?_
            refine lv_dup hx hb dX5_candidates_80 rfl ?_
            refine x_get S hK hP 0 rfl cfX5 4 lkX5_55 (by decide) rfl dX5_candidates_81 ?_
            refine lv_iconst (v := 1) hx hb dX5_candidates_84 (by decide) ?_
            refine lv_iadd hx hb dX5_candidates_85 ?_
            refine x_is 10 (by decide) ?_
            refine x_put (ws' := [((o 11), .inr (5, [.ref (o 3), .ref (o 10), .ref (o 6), .ref (o 80), .int 10, .int squestion, .int sleft])), ((o 80), .inl (k 5, 12, .inr (.inr (.inr (.inr (fun i => if i < 12 then some (rh i) else none)))))), ((rh 0), .inl (k 0, 17, .inl g_101)), ((rh 1), .inl (k 0, 17, .inl g_102)), ((rh 2), .inl (k 0, 17, .inl g_103)), ((rh 3), .inl (k 0, 17, .inl g_104)), ((rh 4), .inl (k 0, 17, .inl g_105)), ((rh 5), .inl (k 0, 17, .inl g_106)), ((rh 6), .inl (k 0, 17, .inl g_107)), ((rh 7), .inl (k 0, 17, .inl g_108)), ((rh 8), .inl (k 0, 17, .inl g_109)), ((rh 9), .inl (k 0, 17, .inl f_134)), ((rh 10), .inl (k 0, 17, .inl g_111)), ((rh 11), .inl (k 0, 17, .inl g_112)), ((o 10), .inr (6, [.ref (o 77), .ref (o 78), .ref (o 79)])), ((o 77), .inl (k 6, 4, .inr (.inr (.inr (.inr (fun i => if i < 4 then some (rn i) else none)))))), ((rn j), .inl (k 2, 60, .inr (.inl fnj))), ((o 78), .inl (k 0, 4, .inl f78)), ((o 79), .inl (k 0, 4, .inl f79)), ((o 6), .inr (1, [.ref (o 3), .ref (o 4), .int (u_117.1 0), .int (u_117.1 1), .int (u_117.1 2), .int (u_117.1 3), .int (u_117.1 4), .ref (o 73)])), ((o 73), .inl (k 0, 17, .inl (u_119.2.2.1 0))), ((o 4), .inr (3, [.ref (o 69), .ref (o 70), .ref (o 71)])), ((o 69), .inl (k 0, 17, .inl f69)), ((o 70), .inl (k 0, 17, .inl f70)), ((o 71), .inl (k 0, 17, .inl f71)), ((o 3), .inr (2, [.int glines, .int (nI ghours), .int glaw, .int godds, .int (nI grows), .int (nI gheads), .int (nI gsayings), .int (nI gslugs), .int (nI gacts), .ref (o 26), .ref (o 27), .ref (o 28), .ref (o 29), .ref (o 30), .ref (o 31), .ref (o 32), .ref (o 33), .ref (o 34), .ref (o 35)])), ((o 26), .inl (k 0, 12, .inl f26)), ((o 30), .inl (k 0, 12, .inl f30)), ((o 31), .inl (k 0, 12, .inl f31))]) S hK hP hD hS 0 rfl cfX5 4 lkX5_55 (by decide) rfl rfl rfl (Nat.le_of_ble_eq_true rfl) rfl dX5_candidates_86 (fun H locs hP hD hS => ?_)
            refine lv_iinc (v := (nI (j_92 + 1))) (lv' := [(4, .int (nI (j_92 + 1))), (3, .int v_124), (0, .ref (o 11)), (1, .int (nI j)), (2, .int p0)]) hx hb dX5_candidates_89 hl (k := 1) rfl (ni_inc _) (by decide) rfl (fun ls hl => ?_)
            refine lv_goto (tgt := 10) hx hb dX5_candidates_92 (by decide) ?_
            exact ihj_92 (j_92 + 1) (u_117.1 0) (u_117.1 1) (u_117.1 2) (u_117.1 3) (u_117.1 4) (u_119.2.2.1 0) v_124 10 g_101 g_102 g_103 g_104 g_105 g_106 g_107 g_108 g_109 f_134 g_111 g_112 _ _ _ (by omega) (by omega) (by omega) (by omega) hP hD hS (lv_sub hl [0, 1, 2, 3, 4] rfl)
          · skip
            have hP : va_P D vwCl [((o 11), .inr (5, [.ref (o 3), .ref (o 10), .ref (o 6), .ref (o 80), .int (nI 10), .int squestion, .int sleft])), ((o 80), .inl (k 5, 12, .inr (.inr (.inr (.inr (fun i => if i < 12 then some (rh i) else none)))))), ((rh 0), .inl (k 0, 17, .inl g_101)), ((rh 1), .inl (k 0, 17, .inl g_102)), ((rh 2), .inl (k 0, 17, .inl g_103)), ((rh 3), .inl (k 0, 17, .inl g_104)), ((rh 4), .inl (k 0, 17, .inl g_105)), ((rh 5), .inl (k 0, 17, .inl g_106)), ((rh 6), .inl (k 0, 17, .inl g_107)), ((rh 7), .inl (k 0, 17, .inl g_108)), ((rh 8), .inl (k 0, 17, .inl g_109)), ((rh 9), .inl (k 0, 17, .inl g_110)), ((rh 10), .inl (k 0, 17, .inl g_111)), ((rh 11), .inl (k 0, 17, .inl g_112)), ((o 10), .inr (6, [.ref (o 77), .ref (o 78), .ref (o 79)])), ((o 77), .inl (k 6, 4, .inr (.inr (.inr (.inr (fun i => if i < 4 then some (rn i) else none)))))), ((rn j), .inl (k 2, 60, .inr (.inl fnj))), ((o 78), .inl (k 0, 4, .inl f78)), ((o 79), .inl (k 0, 4, .inl f79)), ((o 6), .inr (1, [.ref (o 3), .ref (o 4), .int (u_117.1 0), .int (u_117.1 1), .int (u_117.1 2), .int (u_117.1 3), .int (u_117.1 4), .ref (o 73)])), ((o 73), .inl (k 0, 17, .inl (u_119.2.2.1 0))), ((o 4), .inr (3, [.ref (o 69), .ref (o 70), .ref (o 71)])), ((o 69), .inl (k 0, 17, .inl f69)), ((o 70), .inl (k 0, 17, .inl f70)), ((o 71), .inl (k 0, 17, .inl f71)), ((o 3), .inr (2, [.int glines, .int (nI ghours), .int glaw, .int godds, .int (nI grows), .int (nI gheads), .int (nI gsayings), .int (nI gslugs), .int (nI gacts), .ref (o 26), .ref (o 27), .ref (o 28), .ref (o 29), .ref (o 30), .ref (o 31), .ref (o 32), .ref (o 33), .ref (o 34), .ref (o 35)])), ((o 26), .inl (k 0, 12, .inl f26)), ((o 30), .inl (k 0, 12, .inl f30)), ((o 31), .inl (k 0, 12, .inl f31))] H := hP
            have hD : va_D A [((o 11), .inr (5, [.ref (o 3), .ref (o 10), .ref (o 6), .ref (o 80), .int (nI 10), .int squestion, .int sleft])), ((o 80), .inl (k 5, 12, .inr (.inr (.inr (.inr (fun i => if i < 12 then some (rh i) else none)))))), ((rh 0), .inl (k 0, 17, .inl g_101)), ((rh 1), .inl (k 0, 17, .inl g_102)), ((rh 2), .inl (k 0, 17, .inl g_103)), ((rh 3), .inl (k 0, 17, .inl g_104)), ((rh 4), .inl (k 0, 17, .inl g_105)), ((rh 5), .inl (k 0, 17, .inl g_106)), ((rh 6), .inl (k 0, 17, .inl g_107)), ((rh 7), .inl (k 0, 17, .inl g_108)), ((rh 8), .inl (k 0, 17, .inl g_109)), ((rh 9), .inl (k 0, 17, .inl g_110)), ((rh 10), .inl (k 0, 17, .inl g_111)), ((rh 11), .inl (k 0, 17, .inl g_112)), ((o 10), .inr (6, [.ref (o 77), .ref (o 78), .ref (o 79)])), ((o 77), .inl (k 6, 4, .inr (.inr (.inr (.inr (fun i => if i < 4 then some (rn i) else none)))))), ((rn j), .inl (k 2, 60, .inr (.inl fnj))), ((o 78), .inl (k 0, 4, .inl f78)), ((o 79), .inl (k 0, 4, .inl f79)), ((o 6), .inr (1, [.ref (o 3), .ref (o 4), .int (u_117.1 0), .int (u_117.1 1), .int (u_117.1 2), .int (u_117.1 3), .int (u_117.1 4), .ref (o 73)])), ((o 73), .inl (k 0, 17, .inl (u_119.2.2.1 0))), ((o 4), .inr (3, [.ref (o 69), .ref (o 70), .ref (o 71)])), ((o 69), .inl (k 0, 17, .inl f69)), ((o 70), .inl (k 0, 17, .inl f70)), ((o 71), .inl (k 0, 17, .inl f71)), ((o 3), .inr (2, [.int glines, .int (nI ghours), .int glaw, .int godds, .int (nI grows), .int (nI gheads), .int (nI gsayings), .int (nI gslugs), .int (nI gacts), .ref (o 26), .ref (o 27), .ref (o 28), .ref (o 29), .ref (o 30), .ref (o 31), .ref (o 32), .ref (o 33), .ref (o 34), .ref (o 35)])), ((o 26), .inl (k 0, 12, .inl f26)), ((o 30), .inl (k 0, 12, .inl f30)), ((o 31), .inl (k 0, 12, .inl f31))] := hD
            have hl : lv_has ls 5 [(3, .int v_124), (4, .int (nI j_92)), (0, .ref (o 11)), (1, .int (nI j)), (2, .int p0)] := hl
            refine lv_aload_n hx hb dX5_candidates_64 rfl (lv_at hl 2 rfl) ?_
            refine x_get S hK hP 0 rfl cfX5 3 lkX5_11 (by decide) rfl dX5_candidates_65 ?_
            refine lv_aload_n hx hb dX5_candidates_68 rfl (lv_at hl 2 rfl) ?_
            refine x_get S hK hP 0 rfl cfX5 4 lkX5_55 (by decide) rfl dX5_candidates_69 ?_
            refine x_Iald (v := (rh 10)) S hK hP 1 rfl (vp_lit (by decide)) rfl dX5_candidates_72 ?_
            refine lv_iconst (v := 0) hx hb dX5_candidates_73 (by decide) ?_
            refine lv_bipush (v := 17) hx hb dX5_candidates_74 (by decide) ?_
            refine x_copyi (ws' := fun f_135 => [((o 11), .inr (5, [.ref (o 3), .ref (o 10), .ref (o 6), .ref (o 80), .int (nI 10), .int squestion, .int sleft])), ((o 80), .inl (k 5, 12, .inr (.inr (.inr (.inr (fun i => if i < 12 then some (rh i) else none)))))), ((rh 0), .inl (k 0, 17, .inl g_101)), ((rh 1), .inl (k 0, 17, .inl g_102)), ((rh 2), .inl (k 0, 17, .inl g_103)), ((rh 3), .inl (k 0, 17, .inl g_104)), ((rh 4), .inl (k 0, 17, .inl g_105)), ((rh 5), .inl (k 0, 17, .inl g_106)), ((rh 6), .inl (k 0, 17, .inl g_107)), ((rh 7), .inl (k 0, 17, .inl g_108)), ((rh 8), .inl (k 0, 17, .inl g_109)), ((rh 9), .inl (k 0, 17, .inl g_110)), ((rh 10), .inl (k 0, 17, .inl f_135)), ((rh 11), .inl (k 0, 17, .inl g_112)), ((o 10), .inr (6, [.ref (o 77), .ref (o 78), .ref (o 79)])), ((o 77), .inl (k 6, 4, .inr (.inr (.inr (.inr (fun i => if i < 4 then some (rn i) else none)))))), ((rn j), .inl (k 2, 60, .inr (.inl fnj))), ((o 78), .inl (k 0, 4, .inl f78)), ((o 79), .inl (k 0, 4, .inl f79)), ((o 6), .inr (1, [.ref (o 3), .ref (o 4), .int (u_117.1 0), .int (u_117.1 1), .int (u_117.1 2), .int (u_117.1 3), .int (u_117.1 4), .ref (o 73)])), ((o 73), .inl (k 0, 17, .inl (u_119.2.2.1 0))), ((o 4), .inr (3, [.ref (o 69), .ref (o 70), .ref (o 71)])), ((o 69), .inl (k 0, 17, .inl f69)), ((o 70), .inl (k 0, 17, .inl f70)), ((o 71), .inl (k 0, 17, .inl f71)), ((o 3), .inr (2, [.int glines, .int (nI ghours), .int glaw, .int godds, .int (nI grows), .int (nI gheads), .int (nI gsayings), .int (nI gslugs), .int (nI gacts), .ref (o 26), .ref (o 27), .ref (o 28), .ref (o 29), .ref (o 30), .ref (o 31), .ref (o 32), .ref (o 33), .ref (o 34), .ref (o 35)])), ((o 26), .inl (k 0, 12, .inl f26)), ((o 30), .inl (k 0, 12, .inl f30)), ((o 31), .inl (k 0, 12, .inl f31))]) S hK hP hD hS hl lkX5_72 20 12 rfl rfl (ni_nn (a := 0) (by decide) (by omega)) (ni_nn (a := 0) (by decide) (by omega)) (ni_nn (a := 17) (by decide) (by omega)) (ni_cp (a := 0) (b := 17) (by decide) (by decide) (by omega) (by omega) (by omega)) (ni_cp (a := 0) (b := 17) (by decide) (by decide) (by omega) (by omega) (by omega)) ⟨Nat.le_of_ble_eq_true rfl, Nat.le_of_ble_eq_true rfl⟩ (fun _ => rfl) dX5_candidates_76 (fun f_135 H locs ef_135 hP hD hS => ?_)
            refine lv_aload_n hx hb dX5_candidates_79 rfl (lv_at hl 2 rfl) ?_
            refine lv_dup hx hb dX5_candidates_80 rfl ?_
            refine x_get S hK hP 0 rfl cfX5 4 lkX5_55 (by decide) rfl dX5_candidates_81 ?_
            refine lv_iconst (v := 1) hx hb dX5_candidates_84 (by decide) ?_
            refine lv_iadd hx hb dX5_candidates_85 ?_
            refine x_is 11 (by decide) ?_
            refine x_put (ws' := [((o 11), .inr (5, [.ref (o 3), .ref (o 10), .ref (o 6), .ref (o 80), .int 11, .int squestion, .int sleft])), ((o 80), .inl (k 5, 12, .inr (.inr (.inr (.inr (fun i => if i < 12 then some (rh i) else none)))))), ((rh 0), .inl (k 0, 17, .inl g_101)), ((rh 1), .inl (k 0, 17, .inl g_102)), ((rh 2), .inl (k 0, 17, .inl g_103)), ((rh 3), .inl (k 0, 17, .inl g_104)), ((rh 4), .inl (k 0, 17, .inl g_105)), ((rh 5), .inl (k 0, 17, .inl g_106)), ((rh 6), .inl (k 0, 17, .inl g_107)), ((rh 7), .inl (k 0, 17, .inl g_108)), ((rh 8), .inl (k 0, 17, .inl g_109)), ((rh 9), .inl (k 0, 17, .inl g_110)), ((rh 10), .inl (k 0, 17, .inl f_135)), ((rh 11), .inl (k 0, 17, .inl g_112)), ((o 10), .inr (6, [.ref (o 77), .ref (o 78), .ref (o 79)])), ((o 77), .inl (k 6, 4, .inr (.inr (.inr (.inr (fun i => if i < 4 then some (rn i) else none)))))), ((rn j), .inl (k 2, 60, .inr (.inl fnj))), ((o 78), .inl (k 0, 4, .inl f78)), ((o 79), .inl (k 0, 4, .inl f79)), ((o 6), .inr (1, [.ref (o 3), .ref (o 4), .int (u_117.1 0), .int (u_117.1 1), .int (u_117.1 2), .int (u_117.1 3), .int (u_117.1 4), .ref (o 73)])), ((o 73), .inl (k 0, 17, .inl (u_119.2.2.1 0))), ((o 4), .inr (3, [.ref (o 69), .ref (o 70), .ref (o 71)])), ((o 69), .inl (k 0, 17, .inl f69)), ((o 70), .inl (k 0, 17, .inl f70)), ((o 71), .inl (k 0, 17, .inl f71)), ((o 3), .inr (2, [.int glines, .int (nI ghours), .int glaw, .int godds, .int (nI grows), .int (nI gheads), .int (nI gsayings), .int (nI gslugs), .int (nI gacts), .ref (o 26), .ref (o 27), .ref (o 28), .ref (o 29), .ref (o 30), .ref (o 31), .ref (o 32), .ref (o 33), .ref (o 34), .ref (o 35)])), ((o 26), .inl (k 0, 12, .inl f26)), ((o 30), .inl (k 0, 12, .inl f30)), ((o 31), .inl (k 0, 12, .inl f31))]) S hK hP hD hS 0 rfl cfX5 4 lkX5_55 (by decide) rfl rfl rfl (Nat.le_of_ble_eq_true rfl) rfl dX5_candidates_86 (fun H locs hP hD hS => ?_)
            refine lv_iinc (v := (nI (j_92 + 1))) (lv' := [(4, .int (nI (j_92 + 1))), (3, .int v_124), (0, .ref (o 11)), (1, .int (nI j)), (2, .int p0)]) hx hb dX5_candidates_89 hl (k := 1) rfl (ni_inc _) (by decide) rfl (fun ls hl => ?_)
            refine lv_goto (tgt := 10) hx hb dX5_candidates_92 (by decide) ?_
            exact ihj_92 (j_92 + 1) (u_117.1 0) (u_117.1 1) (u_117.1 2) (u_117.1 3) (u_117.1 4) (u_119.2.2.1 0) v_124 11 g_101 g_102 g_103 g_104 g_105 g_106 g_107 g_108 g_109 g_110 f_135 g_112 _ _ _ (by omega) (by omega) (by omega) (by omega) hP hD hS (lv_sub hl [0, 1, 2, 3, 4] rfl)
          · skip
            have hP : va_P D vwCl [((o 11), .inr (5, [.ref (o 3), .ref (o 10), .ref (o 6), .ref (o 80), .int (nI 11), .int squestion, .int sleft])), ((o 80), .inl (k 5, 12, .inr (.inr (.inr (.inr (fun i => if i < 12 then some (rh i) else none)))))), ((rh 0), .inl (k 0, 17, .inl g_101)), ((rh 1), .inl (k 0, 17, .inl g_102)), ((rh 2), .inl (k 0, 17, .inl g_103)), ((rh 3), .inl (k 0, 17, .inl g_104)), ((rh 4), .inl (k 0, 17, .inl g_105)), ((rh 5), .inl (k 0, 17, .inl g_106)), ((rh 6), .inl (k 0, 17, .inl g_107)), ((rh 7), .inl (k 0, 17, .inl g_108)), ((rh 8), .inl (k 0, 17, .inl g_109)), ((rh 9), .inl (k 0, 17, .inl g_110)), ((rh 10), .inl (k 0, 17, .inl g_111)), ((rh 11), .inl (k 0, 17, .inl g_112)), ((o 10), .inr (6, [.ref (o 77), .ref (o 78), .ref (o 79)])), ((o 77), .inl (k 6, 4, .inr (.inr (.inr (.inr (fun i => if i < 4 then some (rn i) else none)))))), ((rn j), .inl (k 2, 60, .inr (.inl fnj))), ((o 78), .inl (k 0, 4, .inl f78)), ((o 79), .inl (k 0, 4, .inl f79)), ((o 6), .inr (1, [.ref (o 3), .ref (o 4), .int (u_117.1 0), .int (u_117.1 1), .int (u_117.1 2), .int (u_117.1 3), .int (u_117.1 4), .ref (o 73)])), ((o 73), .inl (k 0, 17, .inl (u_119.2.2.1 0))), ((o 4), .inr (3, [.ref (o 69), .ref (o 70), .ref (o 71)])), ((o 69), .inl (k 0, 17, .inl f69)), ((o 70), .inl (k 0, 17, .inl f70)), ((o 71), .inl (k 0, 17, .inl f71)), ((o 3), .inr (2, [.int glines, .int (nI ghours), .int glaw, .int godds, .int (nI grows), .int (nI gheads), .int (nI gsayings), .int (nI gslugs), .int (nI gacts), .ref (o 26), .ref (o 27), .ref (o 28), .ref (o 29), .ref (o 30), .ref (o 31), .ref (o 32), .ref (o 33), .ref (o 34), .ref (o 35)])), ((o 26), .inl (k 0, 12, .inl f26)), ((o 30), .inl (k 0, 12, .inl f30)), ((o 31), .inl (k 0, 12, .inl f31))] H := hP
            have hD : va_D A [((o 11), .inr (5, [.ref (o 3), .ref (o 10), .ref (o 6), .ref (o 80), .int (nI 11), .int squestion, .int sleft])), ((o 80), .inl (k 5, 12, .inr (.inr (.inr (.inr (fun i => if i < 12 then some (rh i) else none)))))), ((rh 0), .inl (k 0, 17, .inl g_101)), ((rh 1), .inl (k 0, 17, .inl g_102)), ((rh 2), .inl (k 0, 17, .inl g_103)), ((rh 3), .inl (k 0, 17, .inl g_104)), ((rh 4), .inl (k 0, 17, .inl g_105)), ((rh 5), .inl (k 0, 17, .inl g_106)), ((rh 6), .inl (k 0, 17, .inl g_107)), ((rh 7), .inl (k 0, 17, .inl g_108)), ((rh 8), .inl (k 0, 17, .inl g_109)), ((rh 9), .inl (k 0, 17, .inl g_110)), ((rh 10), .inl (k 0, 17, .inl g_111)), ((rh 11), .inl (k 0, 17, .inl g_112)), ((o 10), .inr (6, [.ref (o 77), .ref (o 78), .ref (o 79)])), ((o 77), .inl (k 6, 4, .inr (.inr (.inr (.inr (fun i => if i < 4 then some (rn i) else none)))))), ((rn j), .inl (k 2, 60, .inr (.inl fnj))), ((o 78), .inl (k 0, 4, .inl f78)), ((o 79), .inl (k 0, 4, .inl f79)), ((o 6), .inr (1, [.ref (o 3), .ref (o 4), .int (u_117.1 0), .int (u_117.1 1), .int (u_117.1 2), .int (u_117.1 3), .int (u_117.1 4), .ref (o 73)])), ((o 73), .inl (k 0, 17, .inl (u_119.2.2.1 0))), ((o 4), .inr (3, [.ref (o 69), .ref (o 70), .ref (o 71)])), ((o 69), .inl (k 0, 17, .inl f69)), ((o 70), .inl (k 0, 17, .inl f70)), ((o 71), .inl (k 0, 17, .inl f71)), ((o 3), .inr (2, [.int glines, .int (nI ghours), .int glaw, .int godds, .int (nI grows), .int (nI gheads), .int (nI gsayings), .int (nI gslugs), .int (nI gacts), .ref (o 26), .ref (o 27), .ref (o 28), .ref (o 29), .ref (o 30), .ref (o 31), .ref (o 32), .ref (o 33), .ref (o 34), .ref (o 35)])), ((o 26), .inl (k 0, 12, .inl f26)), ((o 30), .inl (k 0, 12, .inl f30)), ((o 31), .inl (k 0, 12, .inl f31))] := hD
            have hl : lv_has ls 5 [(3, .int v_124), (4, .int (nI j_92)), (0, .ref (o 11)), (1, .int (nI j)), (2, .int p0)] := hl
            refine lv_aload_n hx hb dX5_candidates_64 rfl (lv_at hl 2 rfl) ?_
            refine x_get S hK hP 0 rfl cfX5 3 lkX5_11 (by decide) rfl dX5_candidates_65 ?_
            refine lv_aload_n hx hb dX5_candidates_68 rfl (lv_at hl 2 rfl) ?_
            refine x_get S hK hP 0 rfl cfX5 4 lkX5_55 (by decide) rfl dX5_candidates_69 ?_
            refine x_Iald (v := (rh 11)) S hK hP 1 rfl (vp_lit (by decide)) rfl dX5_candidates_72 ?_
            refine lv_iconst (v := 0) hx hb dX5_candidates_73 (by decide) ?_
            refine lv_bipush (v := 17) hx hb dX5_candidates_74 (by decide) ?_
            refine x_copyi (ws' := fun f_136 => [((o 11), .inr (5, [.ref (o 3), .ref (o 10), .ref (o 6), .ref (o 80), .int (nI 11), .int squestion, .int sleft])), ((o 80), .inl (k 5, 12, .inr (.inr (.inr (.inr (fun i => if i < 12 then some (rh i) else none)))))), ((rh 0), .inl (k 0, 17, .inl g_101)), ((rh 1), .inl (k 0, 17, .inl g_102)), ((rh 2), .inl (k 0, 17, .inl g_103)), ((rh 3), .inl (k 0, 17, .inl g_104)), ((rh 4), .inl (k 0, 17, .inl g_105)), ((rh 5), .inl (k 0, 17, .inl g_106)), ((rh 6), .inl (k 0, 17, .inl g_107)), ((rh 7), .inl (k 0, 17, .inl g_108)), ((rh 8), .inl (k 0, 17, .inl g_109)), ((rh 9), .inl (k 0, 17, .inl g_110)), ((rh 10), .inl (k 0, 17, .inl g_111)), ((rh 11), .inl (k 0, 17, .inl f_136)), ((o 10), .inr (6, [.ref (o 77), .ref (o 78), .ref (o 79)])), ((o 77), .inl (k 6, 4, .inr (.inr (.inr (.inr (fun i => if i < 4 then some (rn i) else none)))))), ((rn j), .inl (k 2, 60, .inr (.inl fnj))), ((o 78), .inl (k 0, 4, .inl f78)), ((o 79), .inl (k 0, 4, .inl f79)), ((o 6), .inr (1, [.ref (o 3), .ref (o 4), .int (u_117.1 0), .int (u_117.1 1), .int (u_117.1 2), .int (u_117.1 3), .int (u_117.1 4), .ref (o 73)])), ((o 73), .inl (k 0, 17, .inl (u_119.2.2.1 0))), ((o 4), .inr (3, [.ref (o 69), .ref (o 70), .ref (o 71)])), ((o 69), .inl (k 0, 17, .inl f69)), ((o 70), .inl (k 0, 17, .inl f70)), ((o 71), .inl (k 0, 17, .inl f71)), ((o 3), .inr (2, [.int glines, .int (nI ghours), .int glaw, .int godds, .int (nI grows), .int (nI gheads), .int (nI gsayings), .int (nI gslugs), .int (nI gacts), .ref (o 26), .ref (o 27), .ref (o 28), .ref (o 29), .ref (o 30), .ref (o 31), .ref (o 32), .ref (o 33), .ref (o 34), .ref (o 35)])), ((o 26), .inl (k 0, 12, .inl f26)), ((o 30), .inl (k 0, 12, .inl f30)), ((o 31), .inl (k 0, 12, .inl f31))]) S hK hP hD hS hl lkX5_72 20 13 rfl rfl (ni_nn (a := 0) (by decide) (by omega)) (ni_nn (a := 0) (by decide) (by omega)) (ni_nn (a := 17) (by decide) (by omega)) (ni_cp (a := 0) (b := 17) (by decide) (by decide) (by omega) (by omega) (by omega)) (ni_cp (a := 0) (b := 17) (by decide) (by decide) (by omega) (by omega) (by omega)) ⟨Nat.le_of_ble_eq_true rfl, Nat.le_of_ble_eq_true rfl⟩ (fun _ => rfl) dX5_candidates_76 (fun f_136 H locs ef_136 hP hD hS => ?_)
            refine lv_aload_n hx hb dX5_candidates_79 rfl (lv_at hl 2 rfl) ?_
            refine lv_dup hx hb dX5_candidates_80 rfl ?_
            refine x_get S hK hP 0 rfl cfX5 4 lkX5_55 (by decide) rfl dX5_candidates_81 ?_
            refine lv_iconst (v := 1) hx hb dX5_candidates_84 (by decide) ?_
            refine lv_iadd hx hb dX5_candidates_85 ?_
            refine x_is 12 (by decide) ?_
            refine x_put (ws' := [((o 11), .inr (5, [.ref (o 3), .ref (o 10), .ref (o 6), .ref (o 80), .int 12, .int squestion, .int sleft])), ((o 80), .inl (k 5, 12, .inr (.inr (.inr (.inr (fun i => if i < 12 then some (rh i) else none)))))), ((rh 0), .inl (k 0, 17, .inl g_101)), ((rh 1), .inl (k 0, 17, .inl g_102)), ((rh 2), .inl (k 0, 17, .inl g_103)), ((rh 3), .inl (k 0, 17, .inl g_104)), ((rh 4), .inl (k 0, 17, .inl g_105)), ((rh 5), .inl (k 0, 17, .inl g_106)), ((rh 6), .inl (k 0, 17, .inl g_107)), ((rh 7), .inl (k 0, 17, .inl g_108)), ((rh 8), .inl (k 0, 17, .inl g_109)), ((rh 9), .inl (k 0, 17, .inl g_110)), ((rh 10), .inl (k 0, 17, .inl g_111)), ((rh 11), .inl (k 0, 17, .inl f_136)), ((o 10), .inr (6, [.ref (o 77), .ref (o 78), .ref (o 79)])), ((o 77), .inl (k 6, 4, .inr (.inr (.inr (.inr (fun i => if i < 4 then some (rn i) else none)))))), ((rn j), .inl (k 2, 60, .inr (.inl fnj))), ((o 78), .inl (k 0, 4, .inl f78)), ((o 79), .inl (k 0, 4, .inl f79)), ((o 6), .inr (1, [.ref (o 3), .ref (o 4), .int (u_117.1 0), .int (u_117.1 1), .int (u_117.1 2), .int (u_117.1 3), .int (u_117.1 4), .ref (o 73)])), ((o 73), .inl (k 0, 17, .inl (u_119.2.2.1 0))), ((o 4), .inr (3, [.ref (o 69), .ref (o 70), .ref (o 71)])), ((o 69), .inl (k 0, 17, .inl f69)), ((o 70), .inl (k 0, 17, .inl f70)), ((o 71), .inl (k 0, 17, .inl f71)), ((o 3), .inr (2, [.int glines, .int (nI ghours), .int glaw, .int godds, .int (nI grows), .int (nI gheads), .int (nI gsayings), .int (nI gslugs), .int (nI gacts), .ref (o 26), .ref (o 27), .ref (o 28), .ref (o 29), .ref (o 30), .ref (o 31), .ref (o 32), .ref (o 33), .ref (o 34), .ref (o 35)])), ((o 26), .inl (k 0, 12, .inl f26)), ((o 30), .inl (k 0, 12, .inl f30)), ((o 31), .inl (k 0, 12, .inl f31))]) S hK hP hD hS 0 rfl cfX5 4 lkX5_55 (by decide) rfl rfl rfl (Nat.le_of_ble_eq_true rfl) rfl dX5_candidates_86 (fun H locs hP hD hS => ?_)
            refine lv_iinc (v := (nI (j_92 + 1))) (lv' := [(4, .int (nI (j_92 + 1))), (3, .int v_124), (0, .ref (o 11)), (1, .int (nI j)), (2, .int p0)]) hx hb dX5_candidates_89 hl (k := 1) rfl (ni_inc _) (by decide) rfl (fun ls hl => ?_)
            refine lv_goto (tgt := 10) hx hb dX5_candidates_92 (by decide) ?_
            exact ihj_92 (j_92 + 1) (u_117.1 0) (u_117.1 1) (u_117.1 2) (u_117.1 3) (u_117.1 4) (u_119.2.2.1 0) v_124 12 g_101 g_102 g_103 g_104 g_105 g_106 g_107 g_108 g_109 g_110 g_111 f_136 _ _ _ (by omega) (by omega) (by omega) (by omega) hP hD hS (lv_sub hl [0, 1, 2, 3, 4] rfl)
  exact lp_113 (gheads + 1) 0 tlawNow tharder ttold treply twet f73 0 0 fh0 fh1 fh2 fh3 fh4 fh5 fh6 fh7 fh8 fh9 fh10 fh11 _ _ _ (by omega) (by omega) (by omega) (by omega) hP hD hS (lv_sub hl [0, 1, 2, 3, 4] rfl)

set_option maxHeartbeats 4000000 in
set_option maxRecDepth 100000 in
theorem ctX5_leftAtWorst (l : Launch) (D : va_G) (k : Nat → ClassId) (z : Nat → Nat) (o : Nat → Nat) (sfit : Nat) (squestion : Int32) (sleft : Int32) (rh : Nat → Nat) (fh0 : Nat → Int32) (fh1 : Nat → Int32) (fh2 : Nat → Int32) (fh3 : Nat → Int32) (fh4 : Nat → Int32) (fh5 : Nat → Int32) (fh6 : Nat → Int32) (fh7 : Nat → Int32) (fh8 : Nat → Int32) (fh9 : Nat → Int32) (fh10 : Nat → Int32) (fh11 : Nat → Int32) (p0 : Int32) (p1 : Nat) (hsfit : sfit ≤ 12) (hp1 : p1 ≤ 16) : RO l yX5_leftAtWorst cX5_leftAtWorst 7 (some .int) 1 D k z [.ref (o 11), .int p0, .int (nI p1)] [((o 11), .inr (5, [.ref (o 3), .ref (o 10), .ref (o 6), .ref (o 80), .int (nI sfit), .int squestion, .int sleft])), ((o 80), .inl (k 5, 12, .inr (.inr (.inr (.inr (fun i => if i < 12 then some (rh i) else none)))))), ((rh 0), .inl (k 0, 17, .inl fh0)), ((rh 1), .inl (k 0, 17, .inl fh1)), ((rh 2), .inl (k 0, 17, .inl fh2)), ((rh 3), .inl (k 0, 17, .inl fh3)), ((rh 4), .inl (k 0, 17, .inl fh4)), ((rh 5), .inl (k 0, 17, .inl fh5)), ((rh 6), .inl (k 0, 17, .inl fh6)), ((rh 7), .inl (k 0, 17, .inl fh7)), ((rh 8), .inl (k 0, 17, .inl fh8)), ((rh 9), .inl (k 0, 17, .inl fh9)), ((rh 10), .inl (k 0, 17, .inl fh10)), ((rh 11), .inl (k 0, 17, .inl fh11))] (Qi (fun r : Int32 => True)) := by
  refine RO.of (by decide) (Nat.le_of_ble_eq_true rfl) ?_
  intro p e s m below meth c ls A B args Q S hr hlk hQ hK hP hDW hZ hAB hBA hA hS hl
  have hx := S.1
  have hb := S.2.1
  have hl : lv_has ls 7 [(0, .ref (o 11)), (1, .int p0), (2, .int (nI p1))] := hl
  refine lv_iconst (v := 0) hx hb dX5_leftAtWorst_0 (by decide) ?_
  refine lv_istore_n (lv' := [(3, .int 0), (0, .ref (o 11)), (1, .int p0), (2, .int (nI p1))]) hx hb dX5_leftAtWorst_1 rfl hl (by decide) rfl (fun ls hl => ?_)
  refine lv_iconst (v := 0) hx hb dX5_leftAtWorst_2 (by decide) ?_
  refine lv_istore (lv' := [(4, .int 0), (3, .int 0), (0, .ref (o 11)), (1, .int p0), (2, .int (nI p1))]) hx hb dX5_leftAtWorst_3 hl (by decide) rfl (fun ls hl => ?_)
  refine lv_iconst (v := 0) hx hb dX5_leftAtWorst_5 (by decide) ?_
  refine lv_istore (lv' := [(5, .int 0), (4, .int 0), (3, .int 0), (0, .ref (o 11)), (1, .int p0), (2, .int (nI p1))]) hx hb dX5_leftAtWorst_6 hl (by decide) rfl (fun ls hl => ?_)
  have lp_275 : ∀ (nn j_272 : Nat) (x_273 : Int32) (x_274 : Int32) (H : Heap) (locs : List Loc) (ls : Array Slot), j_272 ≤ sfit → sfit - j_272 < nn → va_P D vwCl [((o 11), .inr (5, [.ref (o 3), .ref (o 10), .ref (o 6), .ref (o 80), .int (nI sfit), .int squestion, .int sleft])), ((o 80), .inl (k 5, 12, .inr (.inr (.inr (.inr (fun i => if i < 12 then some (rh i) else none)))))), ((rh 0), .inl (k 0, 17, .inl fh0)), ((rh 1), .inl (k 0, 17, .inl fh1)), ((rh 2), .inl (k 0, 17, .inl fh2)), ((rh 3), .inl (k 0, 17, .inl fh3)), ((rh 4), .inl (k 0, 17, .inl fh4)), ((rh 5), .inl (k 0, 17, .inl fh5)), ((rh 6), .inl (k 0, 17, .inl fh6)), ((rh 7), .inl (k 0, 17, .inl fh7)), ((rh 8), .inl (k 0, 17, .inl fh8)), ((rh 9), .inl (k 0, 17, .inl fh9)), ((rh 10), .inl (k 0, 17, .inl fh10)), ((rh 11), .inl (k 0, 17, .inl fh11))] H → va_S A s.heap H locs → lv_has ls 7 [(5, .int (nI j_272)), (4, .int x_273), (3, .int x_274), (0, .ref (o 11)), (1, .int p0), (2, .int (nI p1))] → W p l e (Rm 1 0 0) s m args below meth c H locs 0 0 Q (F0 m 8 ls []) := by
    intro nn
    induction nn with
    | zero => intro j_272 x_273 x_274 H locs ls hjj_272 hnj_272; exact absurd hnj_272 (by omega)
    | succ nn ihj_272 =>
      intro j_272 x_273 x_274 H locs ls hjj_272 hnj_272 hP hS hl
      refine lv_iload hx hb dX5_leftAtWorst_8 (lv_at hl 0 rfl) ?_
      refine lv_aload_n hx hb dX5_leftAtWorst_10 rfl (lv_at hl 3 rfl) ?_
      refine x_get S hK hP 0 rfl cfX5 4 lkX5_55 (by decide) rfl dX5_leftAtWorst_11 ?_
      refine lv_icmp_ge (tgt := 62) hx hb dX5_leftAtWorst_14 (by decide) (fun c_276 => ?_) (fun c_276 => ?_)
      · skip
        have c_276 : sfit ≤ j_272 := (ni_le rfl rfl (by omega) (by omega)).mp c_276
        refine lv_aload_n hx hb dX5_leftAtWorst_62 rfl (lv_at hl 3 rfl) ?_
        refine x_get S hK hP 0 rfl cfX5 4 lkX5_55 (by decide) rfl dX5_leftAtWorst_63 ?_
        refine lv_iload_n hx hb dX5_leftAtWorst_66 rfl (lv_at hl 2 rfl) ?_
        refine lv_isub hx hb dX5_leftAtWorst_67 ?_
        refine lv_topi (fun v_277 ev_277 => ?_)
        refine lv_iload hx hb dX5_leftAtWorst_68 (lv_at hl 1 rfl) ?_
        refine lv_isub hx hb dX5_leftAtWorst_70 ?_
        refine lv_topi (fun v_278 ev_278 => ?_)
        refine lv_iload_n hx hb dX5_leftAtWorst_71 rfl (lv_at hl 2 rfl) ?_
        refine lv_iload hx hb dX5_leftAtWorst_72 (lv_at hl 1 rfl) ?_
        refine x_mmax S hl lkX5_97 (Nat.le_of_ble_eq_true rfl) (Nat.le_of_ble_eq_true rfl) ⟨Nat.le_of_ble_eq_true rfl, Nat.le_of_ble_eq_true rfl⟩ dX5_leftAtWorst_74 (fun v_279 ev_279 => ?_)
        refine x_mmax S hl lkX5_97 (Nat.le_of_ble_eq_true rfl) (Nat.le_of_ble_eq_true rfl) ⟨Nat.le_of_ble_eq_true rfl, Nat.le_of_ble_eq_true rfl⟩ dX5_leftAtWorst_77 (fun v_280 ev_280 => ?_)
        exact x_reti S hr hlk hQ hS () trivial x_T dX5_leftAtWorst_80
      · skip
        have c_276 : ¬ sfit ≤ j_272 := fun q => c_276 ((ni_le rfl rfl (by omega) (by omega)).mpr q)
        rcases (show j_272 = 0 ∨ j_272 = 1 ∨ j_272 = 2 ∨ j_272 = 3 ∨ j_272 = 4 ∨ j_272 = 5 ∨ j_272 = 6 ∨ j_272 = 7 ∨ j_272 = 8 ∨ j_272 = 9 ∨ j_272 = 10 ∨ j_272 = 11 by omega) with rfl | rfl | rfl | rfl | rfl | rfl | rfl | rfl | rfl | rfl | rfl | rfl
        · skip
          have hP : va_P D vwCl [((o 11), .inr (5, [.ref (o 3), .ref (o 10), .ref (o 6), .ref (o 80), .int (nI sfit), .int squestion, .int sleft])), ((o 80), .inl (k 5, 12, .inr (.inr (.inr (.inr (fun i => if i < 12 then some (rh i) else none)))))), ((rh 0), .inl (k 0, 17, .inl fh0)), ((rh 1), .inl (k 0, 17, .inl fh1)), ((rh 2), .inl (k 0, 17, .inl fh2)), ((rh 3), .inl (k 0, 17, .inl fh3)), ((rh 4), .inl (k 0, 17, .inl fh4)), ((rh 5), .inl (k 0, 17, .inl fh5)), ((rh 6), .inl (k 0, 17, .inl fh6)), ((rh 7), .inl (k 0, 17, .inl fh7)), ((rh 8), .inl (k 0, 17, .inl fh8)), ((rh 9), .inl (k 0, 17, .inl fh9)), ((rh 10), .inl (k 0, 17, .inl fh10)), ((rh 11), .inl (k 0, 17, .inl fh11))] H := hP
          have hl : lv_has ls 7 [(5, .int (nI 0)), (4, .int x_273), (3, .int x_274), (0, .ref (o 11)), (1, .int p0), (2, .int (nI p1))] := hl
          refine lv_aload_n hx hb dX5_leftAtWorst_17 rfl (lv_at hl 3 rfl) ?_
          refine x_get S hK hP 0 rfl cfX5 3 lkX5_11 (by decide) rfl dX5_leftAtWorst_18 ?_
          refine lv_iload hx hb dX5_leftAtWorst_21 (lv_at hl 0 rfl) ?_
          refine x_Iald (v := (rh 0)) S hK hP 1 rfl (vp_lit (by decide)) rfl dX5_leftAtWorst_23 ?_
          refine lv_iload_n hx hb dX5_leftAtWorst_24 rfl (lv_at hl 5 rfl) ?_
          refine x_iald S hK hP 2 rfl (vp_in_nI (by omega) (by decide)) dX5_leftAtWorst_25 ?_
          refine lv_topi (fun v_281 ev_281 => ?_)
          refine lv_istore (lv' := [(6, .int v_281), (5, .int (nI 0)), (4, .int x_273), (3, .int x_274), (0, .ref (o 11)), (1, .int p0), (2, .int (nI p1))]) hx hb dX5_leftAtWorst_26 hl (by decide) rfl (fun ls hl => ?_)
          refine lv_iload_n hx hb dX5_leftAtWorst_28 rfl (lv_at hl 3 rfl) ?_
          refine lv_iload hx hb dX5_leftAtWorst_29 (lv_at hl 0 rfl) ?_
          refine lv_iconst (v := 1) hx hb dX5_leftAtWorst_31 (by decide) ?_
          refine x_roSNi (As := [.int v_281, .int 1]) S hK hP hDW hZ hAB hBA hS hA hl mwX10_holdersIn lkX5_94 (ctX10_holdersIn l D k z v_281 1 ) [] rfl (by decide) rfl rfl ⟨Nat.le_of_ble_eq_true rfl, Nat.le_of_ble_eq_true rfl, Nat.le_of_ble_eq_true rfl⟩ dX5_leftAtWorst_32 ⟨Nat.le_of_ble_eq_true rfl, Nat.le_of_ble_eq_true rfl⟩ (fun r_282 H locs hr_282 hP hS => ?_)
          refine lv_iload_n hx hb dX5_leftAtWorst_35 rfl (lv_at hl 5 rfl) ?_
          refine lv_iushr hx hb dX5_leftAtWorst_36 rfl ?_
          refine lv_topi (fun v_284 ev_284 => ?_)
          refine lv_iconst (v := 1) hx hb dX5_leftAtWorst_37 (by decide) ?_
          refine lv_iand hx hb dX5_leftAtWorst_38 ?_
          refine lv_topi (fun v_285 ev_285 => ?_)
          refine lv_iadd hx hb dX5_leftAtWorst_39 ?_
          refine lv_topi (fun v_286 ev_286 => ?_)
          refine lv_istore_n (lv' := [(3, .int v_286), (6, .int v_281), (5, .int (nI 0)), (4, .int x_273), (0, .ref (o 11)), (1, .int p0), (2, .int (nI p1))]) hx hb dX5_leftAtWorst_40 rfl hl (by decide) rfl (fun ls hl => ?_)
          refine lv_iload hx hb dX5_leftAtWorst_41 (lv_at hl 3 rfl) ?_
          refine lv_iload hx hb dX5_leftAtWorst_43 (lv_at hl 1 rfl) ?_
          refine lv_iconst (v := 2) hx hb dX5_leftAtWorst_45 (by decide) ?_
          refine x_roSNi (As := [.int v_281, .int 2]) S hK hP hDW hZ hAB hBA hS hA hl mwX10_holdersIn lkX5_94 (ctX10_holdersIn l D k z v_281 2 ) [] rfl (by decide) rfl rfl ⟨Nat.le_of_ble_eq_true rfl, Nat.le_of_ble_eq_true rfl, Nat.le_of_ble_eq_true rfl⟩ dX5_leftAtWorst_46 ⟨Nat.le_of_ble_eq_true rfl, Nat.le_of_ble_eq_true rfl⟩ (fun r_287 H locs hr_287 hP hS => ?_)
          refine lv_iload_n hx hb dX5_leftAtWorst_49 rfl (lv_at hl 5 rfl) ?_
          refine lv_iushr hx hb dX5_leftAtWorst_50 rfl ?_
          refine lv_topi (fun v_289 ev_289 => ?_)
          refine lv_iconst (v := 1) hx hb dX5_leftAtWorst_51 (by decide) ?_
          refine lv_iand hx hb dX5_leftAtWorst_52 ?_
          refine lv_topi (fun v_290 ev_290 => ?_)
          refine lv_iadd hx hb dX5_leftAtWorst_53 ?_
          refine lv_topi (fun v_291 ev_291 => ?_)
          refine lv_istore (lv' := [(4, .int v_291), (3, .int v_286), (6, .int v_281), (5, .int (nI 0)), (0, .ref (o 11)), (1, .int p0), (2, .int (nI p1))]) hx hb dX5_leftAtWorst_54 hl (by decide) rfl (fun ls hl => ?_)
          refine lv_iinc (v := 1) (lv' := [(5, .int 1), (4, .int v_291), (3, .int v_286), (6, .int v_281), (0, .ref (o 11)), (1, .int p0), (2, .int (nI p1))]) hx hb dX5_leftAtWorst_56 hl (k := 3) rfl (by decide) (by decide) rfl (fun ls hl => ?_)
          refine lv_goto (tgt := 8) hx hb dX5_leftAtWorst_59 (by decide) ?_
          exact ihj_272 1 v_291 v_286 _ _ _ (by omega) (by omega) hP hS (lv_sub hl [0, 1, 2, 4, 5, 6] rfl)
        · skip
          have hP : va_P D vwCl [((o 11), .inr (5, [.ref (o 3), .ref (o 10), .ref (o 6), .ref (o 80), .int (nI sfit), .int squestion, .int sleft])), ((o 80), .inl (k 5, 12, .inr (.inr (.inr (.inr (fun i => if i < 12 then some (rh i) else none)))))), ((rh 0), .inl (k 0, 17, .inl fh0)), ((rh 1), .inl (k 0, 17, .inl fh1)), ((rh 2), .inl (k 0, 17, .inl fh2)), ((rh 3), .inl (k 0, 17, .inl fh3)), ((rh 4), .inl (k 0, 17, .inl fh4)), ((rh 5), .inl (k 0, 17, .inl fh5)), ((rh 6), .inl (k 0, 17, .inl fh6)), ((rh 7), .inl (k 0, 17, .inl fh7)), ((rh 8), .inl (k 0, 17, .inl fh8)), ((rh 9), .inl (k 0, 17, .inl fh9)), ((rh 10), .inl (k 0, 17, .inl fh10)), ((rh 11), .inl (k 0, 17, .inl fh11))] H := hP
          have hl : lv_has ls 7 [(5, .int (nI 1)), (4, .int x_273), (3, .int x_274), (0, .ref (o 11)), (1, .int p0), (2, .int (nI p1))] := hl
          refine lv_aload_n hx hb dX5_leftAtWorst_17 rfl (lv_at hl 3 rfl) ?_
          refine x_get S hK hP 0 rfl cfX5 3 lkX5_11 (by decide) rfl dX5_leftAtWorst_18 ?_
          refine lv_iload hx hb dX5_leftAtWorst_21 (lv_at hl 0 rfl) ?_
          refine x_Iald (v := (rh 1)) S hK hP 1 rfl (vp_lit (by decide)) rfl dX5_leftAtWorst_23 ?_
          refine lv_iload_n hx hb dX5_leftAtWorst_24 rfl (lv_at hl 5 rfl) ?_
          refine x_iald S hK hP 3 rfl (vp_in_nI (by omega) (by decide)) dX5_leftAtWorst_25 ?_
          refine lv_topi (fun v_292 ev_292 => ?_)
          refine lv_istore (lv' := [(6, .int v_292), (5, .int (nI 1)), (4, .int x_273), (3, .int x_274), (0, .ref (o 11)), (1, .int p0), (2, .int (nI p1))]) hx hb dX5_leftAtWorst_26 hl (by decide) rfl (fun ls hl => ?_)
          refine lv_iload_n hx hb dX5_leftAtWorst_28 rfl (lv_at hl 3 rfl) ?_
          refine lv_iload hx hb dX5_leftAtWorst_29 (lv_at hl 0 rfl) ?_
          refine lv_iconst (v := 1) hx hb dX5_leftAtWorst_31 (by decide) ?_
          refine x_roSNi (As := [.int v_292, .int 1]) S hK hP hDW hZ hAB hBA hS hA hl mwX10_holdersIn lkX5_94 (ctX10_holdersIn l D k z v_292 1 ) [] rfl (by decide) rfl rfl ⟨Nat.le_of_ble_eq_true rfl, Nat.le_of_ble_eq_true rfl, Nat.le_of_ble_eq_true rfl⟩ dX5_leftAtWorst_32 ⟨Nat.le_of_ble_eq_true rfl, Nat.le_of_ble_eq_true rfl⟩ (fun r_293 H locs hr_293 hP hS => ?_)
          refine lv_iload_n hx hb dX5_leftAtWorst_35 rfl (lv_at hl 5 rfl) ?_
          refine lv_iushr hx hb dX5_leftAtWorst_36 rfl ?_
          refine lv_topi (fun v_295 ev_295 => ?_)
          refine lv_iconst (v := 1) hx hb dX5_leftAtWorst_37 (by decide) ?_
          refine lv_iand hx hb dX5_leftAtWorst_38 ?_
          refine lv_topi (fun v_296 ev_296 => ?_)
          refine lv_iadd hx hb dX5_leftAtWorst_39 ?_
          refine lv_topi (fun v_297 ev_297 => ?_)
          refine lv_istore_n (lv' := [(3, .int v_297), (6, .int v_292), (5, .int (nI 1)), (4, .int x_273), (0, .ref (o 11)), (1, .int p0), (2, .int (nI p1))]) hx hb dX5_leftAtWorst_40 rfl hl (by decide) rfl (fun ls hl => ?_)
          refine lv_iload hx hb dX5_leftAtWorst_41 (lv_at hl 3 rfl) ?_
          refine lv_iload hx hb dX5_leftAtWorst_43 (lv_at hl 1 rfl) ?_
          refine lv_iconst (v := 2) hx hb dX5_leftAtWorst_45 (by decide) ?_
          refine x_roSNi (As := [.int v_292, .int 2]) S hK hP hDW hZ hAB hBA hS hA hl mwX10_holdersIn lkX5_94 (ctX10_holdersIn l D k z v_292 2 ) [] rfl (by decide) rfl rfl ⟨Nat.le_of_ble_eq_true rfl, Nat.le_of_ble_eq_true rfl, Nat.le_of_ble_eq_true rfl⟩ dX5_leftAtWorst_46 ⟨Nat.le_of_ble_eq_true rfl, Nat.le_of_ble_eq_true rfl⟩ (fun r_298 H locs hr_298 hP hS => ?_)
          refine lv_iload_n hx hb dX5_leftAtWorst_49 rfl (lv_at hl 5 rfl) ?_
          refine lv_iushr hx hb dX5_leftAtWorst_50 rfl ?_
          refine lv_topi (fun v_300 ev_300 => ?_)
          refine lv_iconst (v := 1) hx hb dX5_leftAtWorst_51 (by decide) ?_
          refine lv_iand hx hb dX5_leftAtWorst_52 ?_
          refine lv_topi (fun v_301 ev_301 => ?_)
          refine lv_iadd hx hb dX5_leftAtWorst_53 ?_
          refine lv_topi (fun v_302 ev_302 => ?_)
          refine lv_istore (lv' := [(4, .int v_302), (3, .int v_297), (6, .int v_292), (5, .int (nI 1)), (0, .ref (o 11)), (1, .int p0), (2, .int (nI p1))]) hx hb dX5_leftAtWorst_54 hl (by decide) rfl (fun ls hl => ?_)
          refine lv_iinc (v := 2) (lv' := [(5, .int 2), (4, .int v_302), (3, .int v_297), (6, .int v_292), (0, .ref (o 11)), (1, .int p0), (2, .int (nI p1))]) hx hb dX5_leftAtWorst_56 hl (k := 3) rfl (by decide) (by decide) rfl (fun ls hl => ?_)
          refine lv_goto (tgt := 8) hx hb dX5_leftAtWorst_59 (by decide) ?_
          exact ihj_272 2 v_302 v_297 _ _ _ (by omega) (by omega) hP hS (lv_sub hl [0, 1, 2, 4, 5, 6] rfl)
        · skip
          have hP : va_P D vwCl [((o 11), .inr (5, [.ref (o 3), .ref (o 10), .ref (o 6), .ref (o 80), .int (nI sfit), .int squestion, .int sleft])), ((o 80), .inl (k 5, 12, .inr (.inr (.inr (.inr (fun i => if i < 12 then some (rh i) else none)))))), ((rh 0), .inl (k 0, 17, .inl fh0)), ((rh 1), .inl (k 0, 17, .inl fh1)), ((rh 2), .inl (k 0, 17, .inl fh2)), ((rh 3), .inl (k 0, 17, .inl fh3)), ((rh 4), .inl (k 0, 17, .inl fh4)), ((rh 5), .inl (k 0, 17, .inl fh5)), ((rh 6), .inl (k 0, 17, .inl fh6)), ((rh 7), .inl (k 0, 17, .inl fh7)), ((rh 8), .inl (k 0, 17, .inl fh8)), ((rh 9), .inl (k 0, 17, .inl fh9)), ((rh 10), .inl (k 0, 17, .inl fh10)), ((rh 11), .inl (k 0, 17, .inl fh11))] H := hP
          have hl : lv_has ls 7 [(5, .int (nI 2)), (4, .int x_273), (3, .int x_274), (0, .ref (o 11)), (1, .int p0), (2, .int (nI p1))] := hl
          refine lv_aload_n hx hb dX5_leftAtWorst_17 rfl (lv_at hl 3 rfl) ?_
          refine x_get S hK hP 0 rfl cfX5 3 lkX5_11 (by decide) rfl dX5_leftAtWorst_18 ?_
          refine lv_iload hx hb dX5_leftAtWorst_21 (lv_at hl 0 rfl) ?_
          refine x_Iald (v := (rh 2)) S hK hP 1 rfl (vp_lit (by decide)) rfl dX5_leftAtWorst_23 ?_
          refine lv_iload_n hx hb dX5_leftAtWorst_24 rfl (lv_at hl 5 rfl) ?_
          refine x_iald S hK hP 4 rfl (vp_in_nI (by omega) (by decide)) dX5_leftAtWorst_25 ?_
          refine lv_topi (fun v_303 ev_303 => ?_)
          refine lv_istore (lv' := [(6, .int v_303), (5, .int (nI 2)), (4, .int x_273), (3, .int x_274), (0, .ref (o 11)), (1, .int p0), (2, .int (nI p1))]) hx hb dX5_leftAtWorst_26 hl (by decide) rfl (fun ls hl => ?_)
          refine lv_iload_n hx hb dX5_leftAtWorst_28 rfl (lv_at hl 3 rfl) ?_
          refine lv_iload hx hb dX5_leftAtWorst_29 (lv_at hl 0 rfl) ?_
          refine lv_iconst (v := 1) hx hb dX5_leftAtWorst_31 (by decide) ?_
          refine x_roSNi (As := [.int v_303, .int 1]) S hK hP hDW hZ hAB hBA hS hA hl mwX10_holdersIn lkX5_94 (ctX10_holdersIn l D k z v_303 1 ) [] rfl (by decide) rfl rfl ⟨Nat.le_of_ble_eq_true rfl, Nat.le_of_ble_eq_true rfl, Nat.le_of_ble_eq_true rfl⟩ dX5_leftAtWorst_32 ⟨Nat.le_of_ble_eq_true rfl, Nat.le_of_ble_eq_true rfl⟩ (fun r_304 H locs hr_304 hP hS => ?_)
          refine lv_iload_n hx hb dX5_leftAtWorst_35 rfl (lv_at hl 5 rfl) ?_
          refine lv_iushr hx hb dX5_leftAtWorst_36 rfl ?_
          refine lv_topi (fun v_306 ev_306 => ?_)
          refine lv_iconst (v := 1) hx hb dX5_leftAtWorst_37 (by decide) ?_
          refine lv_iand hx hb dX5_leftAtWorst_38 ?_
          refine lv_topi (fun v_307 ev_307 => ?_)
          refine lv_iadd hx hb dX5_leftAtWorst_39 ?_
          refine lv_topi (fun v_308 ev_308 => ?_)
          refine lv_istore_n (lv' := [(3, .int v_308), (6, .int v_303), (5, .int (nI 2)), (4, .int x_273), (0, .ref (o 11)), (1, .int p0), (2, .int (nI p1))]) hx hb dX5_leftAtWorst_40 rfl hl (by decide) rfl (fun ls hl => ?_)
          refine lv_iload hx hb dX5_leftAtWorst_41 (lv_at hl 3 rfl) ?_
          refine lv_iload hx hb dX5_leftAtWorst_43 (lv_at hl 1 rfl) ?_
          refine lv_iconst (v := 2) hx hb dX5_leftAtWorst_45 (by decide) ?_
          refine x_roSNi (As := [.int v_303, .int 2]) S hK hP hDW hZ hAB hBA hS hA hl mwX10_holdersIn lkX5_94 (ctX10_holdersIn l D k z v_303 2 ) [] rfl (by decide) rfl rfl ⟨Nat.le_of_ble_eq_true rfl, Nat.le_of_ble_eq_true rfl, Nat.le_of_ble_eq_true rfl⟩ dX5_leftAtWorst_46 ⟨Nat.le_of_ble_eq_true rfl, Nat.le_of_ble_eq_true rfl⟩ (fun r_309 H locs hr_309 hP hS => ?_)
          refine lv_iload_n hx hb dX5_leftAtWorst_49 rfl (lv_at hl 5 rfl) ?_
          refine lv_iushr hx hb dX5_leftAtWorst_50 rfl ?_
          refine lv_topi (fun v_311 ev_311 => ?_)
          refine lv_iconst (v := 1) hx hb dX5_leftAtWorst_51 (by decide) ?_
          refine lv_iand hx hb dX5_leftAtWorst_52 ?_
          refine lv_topi (fun v_312 ev_312 => ?_)
          refine lv_iadd hx hb dX5_leftAtWorst_53 ?_
          refine lv_topi (fun v_313 ev_313 => ?_)
          refine lv_istore (lv' := [(4, .int v_313), (3, .int v_308), (6, .int v_303), (5, .int (nI 2)), (0, .ref (o 11)), (1, .int p0), (2, .int (nI p1))]) hx hb dX5_leftAtWorst_54 hl (by decide) rfl (fun ls hl => ?_)
          refine lv_iinc (v := 3) (lv' := [(5, .int 3), (4, .int v_313), (3, .int v_308), (6, .int v_303), (0, .ref (o 11)), (1, .int p0), (2, .int (nI p1))]) hx hb dX5_leftAtWorst_56 hl (k := 3) rfl (by decide) (by decide) rfl (fun ls hl => ?_)
          refine lv_goto (tgt := 8) hx hb dX5_leftAtWorst_59 (by decide) ?_
          exact ihj_272 3 v_313 v_308 _ _ _ (by omega) (by omega) hP hS (lv_sub hl [0, 1, 2, 4, 5, 6] rfl)
        · skip
          have hP : va_P D vwCl [((o 11), .inr (5, [.ref (o 3), .ref (o 10), .ref (o 6), .ref (o 80), .int (nI sfit), .int squestion, .int sleft])), ((o 80), .inl (k 5, 12, .inr (.inr (.inr (.inr (fun i => if i < 12 then some (rh i) else none)))))), ((rh 0), .inl (k 0, 17, .inl fh0)), ((rh 1), .inl (k 0, 17, .inl fh1)), ((rh 2), .inl (k 0, 17, .inl fh2)), ((rh 3), .inl (k 0, 17, .inl fh3)), ((rh 4), .inl (k 0, 17, .inl fh4)), ((rh 5), .inl (k 0, 17, .inl fh5)), ((rh 6), .inl (k 0, 17, .inl fh6)), ((rh 7), .inl (k 0, 17, .inl fh7)), ((rh 8), .inl (k 0, 17, .inl fh8)), ((rh 9), .inl (k 0, 17, .inl fh9)), ((rh 10), .inl (k 0, 17, .inl fh10)), ((rh 11), .inl (k 0, 17, .inl fh11))] H := hP
          have hl : lv_has ls 7 [(5, .int (nI 3)), (4, .int x_273), (3, .int x_274), (0, .ref (o 11)), (1, .int p0), (2, .int (nI p1))] := hl
          refine lv_aload_n hx hb dX5_leftAtWorst_17 rfl (lv_at hl 3 rfl) ?_
          refine x_get S hK hP 0 rfl cfX5 3 lkX5_11 (by decide) rfl dX5_leftAtWorst_18 ?_
          refine lv_iload hx hb dX5_leftAtWorst_21 (lv_at hl 0 rfl) ?_
          refine x_Iald (v := (rh 3)) S hK hP 1 rfl (vp_lit (by decide)) rfl dX5_leftAtWorst_23 ?_
          refine lv_iload_n hx hb dX5_leftAtWorst_24 rfl (lv_at hl 5 rfl) ?_
          refine x_iald S hK hP 5 rfl (vp_in_nI (by omega) (by decide)) dX5_leftAtWorst_25 ?_
          refine lv_topi (fun v_314 ev_314 => ?_)
          refine lv_istore (lv' := [(6, .int v_314), (5, .int (nI 3)), (4, .int x_273), (3, .int x_274), (0, .ref (o 11)), (1, .int p0), (2, .int (nI p1))]) hx hb dX5_leftAtWorst_26 hl (by decide) rfl (fun ls hl => ?_)
          refine lv_iload_n hx hb dX5_leftAtWorst_28 rfl (lv_at hl 3 rfl) ?_
          refine lv_iload hx hb dX5_leftAtWorst_29 (lv_at hl 0 rfl) ?_
          refine lv_iconst (v := 1) hx hb dX5_leftAtWorst_31 (by decide) ?_
          refine x_roSNi (As := [.int v_314, .int 1]) S hK hP hDW hZ hAB hBA hS hA hl mwX10_holdersIn lkX5_94 (ctX10_holdersIn l D k z v_314 1 ) [] rfl (by decide) rfl rfl ⟨Nat.le_of_ble_eq_true rfl, Nat.le_of_ble_eq_true rfl, Nat.le_of_ble_eq_true rfl⟩ dX5_leftAtWorst_32 ⟨Nat.le_of_ble_eq_true rfl, Nat.le_of_ble_eq_true rfl⟩ (fun r_315 H locs hr_315 hP hS => ?_)
          refine lv_iload_n hx hb dX5_leftAtWorst_35 rfl (lv_at hl 5 rfl) ?_
          refine lv_iushr hx hb dX5_leftAtWorst_36 rfl ?_
          refine lv_topi (fun v_317 ev_317 => ?_)
          refine lv_iconst (v := 1) hx hb dX5_leftAtWorst_37 (by decide) ?_
          refine lv_iand hx hb dX5_leftAtWorst_38 ?_
          refine lv_topi (fun v_318 ev_318 => ?_)
          refine lv_iadd hx hb dX5_leftAtWorst_39 ?_
          refine lv_topi (fun v_319 ev_319 => ?_)
          refine lv_istore_n (lv' := [(3, .int v_319), (6, .int v_314), (5, .int (nI 3)), (4, .int x_273), (0, .ref (o 11)), (1, .int p0), (2, .int (nI p1))]) hx hb dX5_leftAtWorst_40 rfl hl (by decide) rfl (fun ls hl => ?_)
          refine lv_iload hx hb dX5_leftAtWorst_41 (lv_at hl 3 rfl) ?_
          refine lv_iload hx hb dX5_leftAtWorst_43 (lv_at hl 1 rfl) ?_
          refine lv_iconst (v := 2) hx hb dX5_leftAtWorst_45 (by decide) ?_
          refine x_roSNi (As := [.int v_314, .int 2]) S hK hP hDW hZ hAB hBA hS hA hl mwX10_holdersIn lkX5_94 (ctX10_holdersIn l D k z v_314 2 ) [] rfl (by decide) rfl rfl ⟨Nat.le_of_ble_eq_true rfl, Nat.le_of_ble_eq_true rfl, Nat.le_of_ble_eq_true rfl⟩ dX5_leftAtWorst_46 ⟨Nat.le_of_ble_eq_true rfl, Nat.le_of_ble_eq_true rfl⟩ (fun r_320 H locs hr_320 hP hS => ?_)
          refine lv_iload_n hx hb dX5_leftAtWorst_49 rfl (lv_at hl 5 rfl) ?_
          refine lv_iushr hx hb dX5_leftAtWorst_50 rfl ?_
          refine lv_topi (fun v_322 ev_322 => ?_)
          refine lv_iconst (v := 1) hx hb dX5_leftAtWorst_51 (by decide) ?_
          refine lv_iand hx hb dX5_leftAtWorst_52 ?_
          refine lv_topi (fun v_323 ev_323 => ?_)
          refine lv_iadd hx hb dX5_leftAtWorst_53 ?_
          refine lv_topi (fun v_324 ev_324 => ?_)
          refine lv_istore (lv' := [(4, .int v_324), (3, .int v_319), (6, .int v_314), (5, .int (nI 3)), (0, .ref (o 11)), (1, .int p0), (2, .int (nI p1))]) hx hb dX5_leftAtWorst_54 hl (by decide) rfl (fun ls hl => ?_)
          refine lv_iinc (v := 4) (lv' := [(5, .int 4), (4, .int v_324), (3, .int v_319), (6, .int v_314), (0, .ref (o 11)), (1, .int p0), (2, .int (nI p1))]) hx hb dX5_leftAtWorst_56 hl (k := 3) rfl (by decide) (by decide) rfl (fun ls hl => ?_)
          refine lv_goto (tgt := 8) hx hb dX5_leftAtWorst_59 (by decide) ?_
          exact ihj_272 4 v_324 v_319 _ _ _ (by omega) (by omega) hP hS (lv_sub hl [0, 1, 2, 4, 5, 6] rfl)
        · skip
          have hP : va_P D vwCl [((o 11), .inr (5, [.ref (o 3), .ref (o 10), .ref (o 6), .ref (o 80), .int (nI sfit), .int squestion, .int sleft])), ((o 80), .inl (k 5, 12, .inr (.inr (.inr (.inr (fun i => if i < 12 then some (rh i) else none)))))), ((rh 0), .inl (k 0, 17, .inl fh0)), ((rh 1), .inl (k 0, 17, .inl fh1)), ((rh 2), .inl (k 0, 17, .inl fh2)), ((rh 3), .inl (k 0, 17, .inl fh3)), ((rh 4), .inl (k 0, 17, .inl fh4)), ((rh 5), .inl (k 0, 17, .inl fh5)), ((rh 6), .inl (k 0, 17, .inl fh6)), ((rh 7), .inl (k 0, 17, .inl fh7)), ((rh 8), .inl (k 0, 17, .inl fh8)), ((rh 9), .inl (k 0, 17, .inl fh9)), ((rh 10), .inl (k 0, 17, .inl fh10)), ((rh 11), .inl (k 0, 17, .inl fh11))] H := hP
          have hl : lv_has ls 7 [(5, .int (nI 4)), (4, .int x_273), (3, .int x_274), (0, .ref (o 11)), (1, .int p0), (2, .int (nI p1))] := hl
          refine lv_aload_n hx hb dX5_leftAtWorst_17 rfl (lv_at hl 3 rfl) ?_
          refine x_get S hK hP 0 rfl cfX5 3 lkX5_11 (by decide) rfl dX5_leftAtWorst_18 ?_
          refine lv_iload hx hb dX5_leftAtWorst_21 (lv_at hl 0 rfl) ?_
          refine x_Iald (v := (rh 4)) S hK hP 1 rfl (vp_lit (by decide)) rfl dX5_leftAtWorst_23 ?_
          refine lv_iload_n hx hb dX5_leftAtWorst_24 rfl (lv_at hl 5 rfl) ?_
          refine x_iald S hK hP 6 rfl (vp_in_nI (by omega) (by decide)) dX5_leftAtWorst_25 ?_
          refine lv_topi (fun v_325 ev_325 => ?_)
          refine lv_istore (lv' := [(6, .int v_325), (5, .int (nI 4)), (4, .int x_273), (3, .int x_274), (0, .ref (o 11)), (1, .int p0), (2, .int (nI p1))]) hx hb dX5_leftAtWorst_26 hl (by decide) rfl (fun ls hl => ?_)
          refine lv_iload_n hx hb dX5_leftAtWorst_28 rfl (lv_at hl 3 rfl) ?_
          refine lv_iload hx hb dX5_leftAtWorst_29 (lv_at hl 0 rfl) ?_
          refine lv_iconst (v := 1) hx hb dX5_leftAtWorst_31 (by decide) ?_
          refine x_roSNi (As := [.int v_325, .int 1]) S hK hP hDW hZ hAB hBA hS hA hl mwX10_holdersIn lkX5_94 (ctX10_holdersIn l D k z v_325 1 ) [] rfl (by decide) rfl rfl ⟨Nat.le_of_ble_eq_true rfl, Nat.le_of_ble_eq_true rfl, Nat.le_of_ble_eq_true rfl⟩ dX5_leftAtWorst_32 ⟨Nat.le_of_ble_eq_true rfl, Nat.le_of_ble_eq_true rfl⟩ (fun r_326 H locs hr_326 hP hS => ?_)
          refine lv_iload_n hx hb dX5_leftAtWorst_35 rfl (lv_at hl 5 rfl) ?_
          refine lv_iushr hx hb dX5_leftAtWorst_36 rfl ?_
          refine lv_topi (fun v_328 ev_328 => ?_)
          refine lv_iconst (v := 1) hx hb dX5_leftAtWorst_37 (by decide) ?_
          refine lv_iand hx hb dX5_leftAtWorst_38 ?_
          refine lv_topi (fun v_329 ev_329 => ?_)
          refine lv_iadd hx hb dX5_leftAtWorst_39 ?_
          refine lv_topi (fun v_330 ev_330 => ?_)
          refine lv_istore_n (lv' := [(3, .int v_330), (6, .int v_325), (5, .int (nI 4)), (4, .int x_273), (0, .ref (o 11)), (1, .int p0), (2, .int (nI p1))]) hx hb dX5_leftAtWorst_40 rfl hl (by decide) rfl (fun ls hl => ?_)
          refine lv_iload hx hb dX5_leftAtWorst_41 (lv_at hl 3 rfl) ?_
          refine lv_iload hx hb dX5_leftAtWorst_43 (lv_at hl 1 rfl) ?_
          refine lv_iconst (v := 2) hx hb dX5_leftAtWorst_45 (by decide) ?_
          refine x_roSNi (As := [.int v_325, .int 2]) S hK hP hDW hZ hAB hBA hS hA hl mwX10_holdersIn lkX5_94 (ctX10_holdersIn l D k z v_325 2 ) [] rfl (by decide) rfl rfl ⟨Nat.le_of_ble_eq_true rfl, Nat.le_of_ble_eq_true rfl, Nat.le_of_ble_eq_true rfl⟩ dX5_leftAtWorst_46 ⟨Nat.le_of_ble_eq_true rfl, Nat.le_of_ble_eq_true rfl⟩ (fun r_331 H locs hr_331 hP hS => ?_)
          refine lv_iload_n hx hb dX5_leftAtWorst_49 rfl (lv_at hl 5 rfl) ?_
          refine lv_iushr hx hb dX5_leftAtWorst_50 rfl ?_
          refine lv_topi (fun v_333 ev_333 => ?_)
          refine lv_iconst (v := 1) hx hb dX5_leftAtWorst_51 (by decide) ?_
          refine lv_iand hx hb dX5_leftAtWorst_52 ?_
          refine lv_topi (fun v_334 ev_334 => ?_)
          refine lv_iadd hx hb dX5_leftAtWorst_53 ?_
          refine lv_topi (fun v_335 ev_335 => ?_)
          refine lv_istore (lv' := [(4, .int v_335), (3, .int v_330), (6, .int v_325), (5, .int (nI 4)), (0, .ref (o 11)), (1, .int p0), (2, .int (nI p1))]) hx hb dX5_leftAtWorst_54 hl (by decide) rfl (fun ls hl => ?_)
          refine lv_iinc (v := 5) (lv' := [(5, .int 5), (4, .int v_335), (3, .int v_330), (6, .int v_325), (0, .ref (o 11)), (1, .int p0), (2, .int (nI p1))]) hx hb dX5_leftAtWorst_56 hl (k := 3) rfl (by decide) (by decide) rfl (fun ls hl => ?_)
          refine lv_goto (tgt := 8) hx hb dX5_leftAtWorst_59 (by decide) ?_
          exact ihj_272 5 v_335 v_330 _ _ _ (by omega) (by omega) hP hS (lv_sub hl [0, 1, 2, 4, 5, 6] rfl)
        · skip
          have hP : va_P D vwCl [((o 11), .inr (5, [.ref (o 3), .ref (o 10), .ref (o 6), .ref (o 80), .int (nI sfit), .int squestion, .int sleft])), ((o 80), .inl (k 5, 12, .inr (.inr (.inr (.inr (fun i => if i < 12 then some (rh i) else none)))))), ((rh 0), .inl (k 0, 17, .inl fh0)), ((rh 1), .inl (k 0, 17, .inl fh1)), ((rh 2), .inl (k 0, 17, .inl fh2)), ((rh 3), .inl (k 0, 17, .inl fh3)), ((rh 4), .inl (k 0, 17, .inl fh4)), ((rh 5), .inl (k 0, 17, .inl fh5)), ((rh 6), .inl (k 0, 17, .inl fh6)), ((rh 7), .inl (k 0, 17, .inl fh7)), ((rh 8), .inl (k 0, 17, .inl fh8)), ((rh 9), .inl (k 0, 17, .inl fh9)), ((rh 10), .inl (k 0, 17, .inl fh10)), ((rh 11), .inl (k 0, 17, .inl fh11))] H := hP
          have hl : lv_has ls 7 [(5, .int (nI 5)), (4, .int x_273), (3, .int x_274), (0, .ref (o 11)), (1, .int p0), (2, .int (nI p1))] := hl
          refine lv_aload_n hx hb dX5_leftAtWorst_17 rfl (lv_at hl 3 rfl) ?_
          refine x_get S hK hP 0 rfl cfX5 3 lkX5_11 (by decide) rfl dX5_leftAtWorst_18 ?_
          refine lv_iload hx hb dX5_leftAtWorst_21 (lv_at hl 0 rfl) ?_
          refine x_Iald (v := (rh 5)) S hK hP 1 rfl (vp_lit (by decide)) rfl dX5_leftAtWorst_23 ?_
          refine lv_iload_n hx hb dX5_leftAtWorst_24 rfl (lv_at hl 5 rfl) ?_
          refine x_iald S hK hP 7 rfl (vp_in_nI (by omega) (by decide)) dX5_leftAtWorst_25 ?_
          refine lv_topi (fun v_336 ev_336 => ?_)
          refine lv_istore (lv' := [(6, .int v_336), (5, .int (nI 5)), (4, .int x_273), (3, .int x_274), (0, .ref (o 11)), (1, .int p0), (2, .int (nI p1))]) hx hb dX5_leftAtWorst_26 hl (by decide) rfl (fun ls hl => ?_)
          refine lv_iload_n hx hb dX5_leftAtWorst_28 rfl (lv_at hl 3 rfl) ?_
          refine lv_iload hx hb dX5_leftAtWorst_29 (lv_at hl 0 rfl) ?_
          refine lv_iconst (v := 1) hx hb dX5_leftAtWorst_31 (by decide) ?_
          refine x_roSNi (As := [.int v_336, .int 1]) S hK hP hDW hZ hAB hBA hS hA hl mwX10_holdersIn lkX5_94 (ctX10_holdersIn l D k z v_336 1 ) [] rfl (by decide) rfl rfl ⟨Nat.le_of_ble_eq_true rfl, Nat.le_of_ble_eq_true rfl, Nat.le_of_ble_eq_true rfl⟩ dX5_leftAtWorst_32 ⟨Nat.le_of_ble_eq_true rfl, Nat.le_of_ble_eq_true rfl⟩ (fun r_337 H locs hr_337 hP hS => ?_)
          refine lv_iload_n hx hb dX5_leftAtWorst_35 rfl (lv_at hl 5 rfl) ?_
          refine lv_iushr hx hb dX5_leftAtWorst_36 rfl ?_
          refine lv_topi (fun v_339 ev_339 => ?_)
          refine lv_iconst (v := 1) hx hb dX5_leftAtWorst_37 (by decide) ?_
          refine lv_iand hx hb dX5_leftAtWorst_38 ?_
          refine lv_topi (fun v_340 ev_340 => ?_)
          refine lv_iadd hx hb dX5_leftAtWorst_39 ?_
          refine lv_topi (fun v_341 ev_341 => ?_)
          refine lv_istore_n (lv' := [(3, .int v_341), (6, .int v_336), (5, .int (nI 5)), (4, .int x_273), (0, .ref (o 11)), (1, .int p0), (2, .int (nI p1))]) hx hb dX5_leftAtWorst_40 rfl hl (by decide) rfl (fun ls hl => ?_)
          refine lv_iload hx hb dX5_leftAtWorst_41 (lv_at hl 3 rfl) ?_
          refine lv_iload hx hb dX5_leftAtWorst_43 (lv_at hl 1 rfl) ?_
          refine lv_iconst (v := 2) hx hb dX5_leftAtWorst_45 (by decide) ?_
          refine x_roSNi (As := [.int v_336, .int 2]) S hK hP hDW hZ hAB hBA hS hA hl mwX10_holdersIn lkX5_94 (ctX10_holdersIn l D k z v_336 2 ) [] rfl (by decide) rfl rfl ⟨Nat.le_of_ble_eq_true rfl, Nat.le_of_ble_eq_true rfl, Nat.le_of_ble_eq_true rfl⟩ dX5_leftAtWorst_46 ⟨Nat.le_of_ble_eq_true rfl, Nat.le_of_ble_eq_true rfl⟩ (fun r_342 H locs hr_342 hP hS => ?_)
          refine lv_iload_n hx hb dX5_leftAtWorst_49 rfl (lv_at hl 5 rfl) ?_
          refine lv_iushr hx hb dX5_leftAtWorst_50 rfl ?_
          refine lv_topi (fun v_344 ev_344 => ?_)
          refine lv_iconst (v := 1) hx hb dX5_leftAtWorst_51 (by decide) ?_
          refine lv_iand hx hb dX5_leftAtWorst_52 ?_
          refine lv_topi (fun v_345 ev_345 => ?_)
          refine lv_iadd hx hb dX5_leftAtWorst_53 ?_
          refine lv_topi (fun v_346 ev_346 => ?_)
          refine lv_istore (lv' := [(4, .int v_346), (3, .int v_341), (6, .int v_336), (5, .int (nI 5)), (0, .ref (o 11)), (1, .int p0), (2, .int (nI p1))]) hx hb dX5_leftAtWorst_54 hl (by decide) rfl (fun ls hl => ?_)
          refine lv_iinc (v := 6) (lv' := [(5, .int 6), (4, .int v_346), (3, .int v_341), (6, .int v_336), (0, .ref (o 11)), (1, .int p0), (2, .int (nI p1))]) hx hb dX5_leftAtWorst_56 hl (k := 3) rfl (by decide) (by decide) rfl (fun ls hl => ?_)
          refine lv_goto (tgt := 8) hx hb dX5_leftAtWorst_59 (by decide) ?_
          exact ihj_272 6 v_346 v_341 _ _ _ (by omega) (by omega) hP hS (lv_sub hl [0, 1, 2, 4, 5, 6] rfl)
        · skip
          have hP : va_P D vwCl [((o 11), .inr (5, [.ref (o 3), .ref (o 10), .ref (o 6), .ref (o 80), .int (nI sfit), .int squestion, .int sleft])), ((o 80), .inl (k 5, 12, .inr (.inr (.inr (.inr (fun i => if i < 12 then some (rh i) else none)))))), ((rh 0), .inl (k 0, 17, .inl fh0)), ((rh 1), .inl (k 0, 17, .inl fh1)), ((rh 2), .inl (k 0, 17, .inl fh2)), ((rh 3), .inl (k 0, 17, .inl fh3)), ((rh 4), .inl (k 0, 17, .inl fh4)), ((rh 5), .inl (k 0, 17, .inl fh5)), ((rh 6), .inl (k 0, 17, .inl fh6)), ((rh 7), .inl (k 0, 17, .inl fh7)), ((rh 8), .inl (k 0, 17, .inl fh8)), ((rh 9), .inl (k 0, 17, .inl fh9)), ((rh 10), .inl (k 0, 17, .inl fh10)), ((rh 11), .inl (k 0, 17, .inl fh11))] H := hP
          have hl : lv_has ls 7 [(5, .int (nI 6)), (4, .int x_273), (3, .int x_274), (0, .ref (o 11)), (1, .int p0), (2, .int (nI p1))] := hl
          refine lv_aload_n hx hb dX5_leftAtWorst_17 rfl (lv_at hl 3 rfl) ?_
          refine x_get S hK hP 0 rfl cfX5 3 lkX5_11 (by decide) rfl dX5_leftAtWorst_18 ?_
          refine lv_iload hx hb dX5_leftAtWorst_21 (lv_at hl 0 rfl) ?_
          refine x_Iald (v := (rh 6)) S hK hP 1 rfl (vp_lit (by decide)) rfl dX5_leftAtWorst_23 ?_
          refine lv_iload_n hx hb dX5_leftAtWorst_24 rfl (lv_at hl 5 rfl) ?_
          refine x_iald S hK hP 8 rfl (vp_in_nI (by omega) (by decide)) dX5_leftAtWorst_25 ?_
          refine lv_topi (fun v_347 ev_347 => ?_)
          refine lv_istore (lv' := [(6, .int v_347), (5, .int (nI 6)), (4, .int x_273), (3, .int x_274), (0, .ref (o 11)), (1, .int p0), (2, .int (nI p1))]) hx hb dX5_leftAtWorst_26 hl (by decide) rfl (fun ls hl => ?_)
          refine lv_iload_n hx hb dX5_leftAtWorst_28 rfl (lv_at hl 3 rfl) ?_
          refine lv_iload hx hb dX5_leftAtWorst_29 (lv_at hl 0 rfl) ?_
          refine lv_iconst (v := 1) hx hb dX5_leftAtWorst_31 (by decide) ?_
          refine x_roSNi (As := [.int v_347, .int 1]) S hK hP hDW hZ hAB hBA hS hA hl mwX10_holdersIn lkX5_94 (ctX10_holdersIn l D k z v_347 1 ) [] rfl (by decide) rfl rfl ⟨Nat.le_of_ble_eq_true rfl, Nat.le_of_ble_eq_true rfl, Nat.le_of_ble_eq_true rfl⟩ dX5_leftAtWorst_32 ⟨Nat.le_of_ble_eq_true rfl, Nat.le_of_ble_eq_true rfl⟩ (fun r_348 H locs hr_348 hP hS => ?_)
          refine lv_iload_n hx hb dX5_leftAtWorst_35 rfl (lv_at hl 5 rfl) ?_
          refine lv_iushr hx hb dX5_leftAtWorst_36 rfl ?_
          refine lv_topi (fun v_350 ev_350 => ?_)
          refine lv_iconst (v := 1) hx hb dX5_leftAtWorst_37 (by decide) ?_
          refine lv_iand hx hb dX5_leftAtWorst_38 ?_
          refine lv_topi (fun v_351 ev_351 => ?_)
          refine lv_iadd hx hb dX5_leftAtWorst_39 ?_
          refine lv_topi (fun v_352 ev_352 => ?_)
          refine lv_istore_n (lv' := [(3, .int v_352), (6, .int v_347), (5, .int (nI 6)), (4, .int x_273), (0, .ref (o 11)), (1, .int p0), (2, .int (nI p1))]) hx hb dX5_leftAtWorst_40 rfl hl (by decide) rfl (fun ls hl => ?_)
          refine lv_iload hx hb dX5_leftAtWorst_41 (lv_at hl 3 rfl) ?_
          refine lv_iload hx hb dX5_leftAtWorst_43 (lv_at hl 1 rfl) ?_
          refine lv_iconst (v := 2) hx hb dX5_leftAtWorst_45 (by decide) ?_
          refine x_roSNi (As := [.int v_347, .int 2]) S hK hP hDW hZ hAB hBA hS hA hl mwX10_holdersIn lkX5_94 (ctX10_holdersIn l D k z v_347 2 ) [] rfl (by decide) rfl rfl ⟨Nat.le_of_ble_eq_true rfl, Nat.le_of_ble_eq_true rfl, Nat.le_of_ble_eq_true rfl⟩ dX5_leftAtWorst_46 ⟨Nat.le_of_ble_eq_true rfl, Nat.le_of_ble_eq_true rfl⟩ (fun r_353 H locs hr_353 hP hS => ?_)
          refine lv_iload_n hx hb dX5_leftAtWorst_49 rfl (lv_at hl 5 rfl) ?_
          refine lv_iushr hx hb dX5_leftAtWorst_50 rfl ?_
          refine lv_topi (fun v_355 ev_355 => ?_)
          refine lv_iconst (v := 1) hx hb dX5_leftAtWorst_51 (by decide) ?_
          refine lv_iand hx hb dX5_leftAtWorst_52 ?_
          refine lv_topi (fun v_356 ev_356 => ?_)
          refine lv_iadd hx hb dX5_leftAtWorst_53 ?_
          refine lv_topi (fun v_357 ev_357 => ?_)
          refine lv_istore (lv' := [(4, .int v_357), (3, .int v_352), (6, .int v_347), (5, .int (nI 6)), (0, .ref (o 11)), (1, .int p0), (2, .int (nI p1))]) hx hb dX5_leftAtWorst_54 hl (by decide) rfl (fun ls hl => ?_)
          refine lv_iinc (v := 7) (lv' := [(5, .int 7), (4, .int v_357), (3, .int v_352), (6, .int v_347), (0, .ref (o 11)), (1, .int p0), (2, .int (nI p1))]) hx hb dX5_leftAtWorst_56 hl (k := 3) rfl (by decide) (by decide) rfl (fun ls hl => ?_)
          refine lv_goto (tgt := 8) hx hb dX5_leftAtWorst_59 (by decide) ?_
          exact ihj_272 7 v_357 v_352 _ _ _ (by omega) (by omega) hP hS (lv_sub hl [0, 1, 2, 4, 5, 6] rfl)
        · skip
          have hP : va_P D vwCl [((o 11), .inr (5, [.ref (o 3), .ref (o 10), .ref (o 6), .ref (o 80), .int (nI sfit), .int squestion, .int sleft])), ((o 80), .inl (k 5, 12, .inr (.inr (.inr (.inr (fun i => if i < 12 then some (rh i) else none)))))), ((rh 0), .inl (k 0, 17, .inl fh0)), ((rh 1), .inl (k 0, 17, .inl fh1)), ((rh 2), .inl (k 0, 17, .inl fh2)), ((rh 3), .inl (k 0, 17, .inl fh3)), ((rh 4), .inl (k 0, 17, .inl fh4)), ((rh 5), .inl (k 0, 17, .inl fh5)), ((rh 6), .inl (k 0, 17, .inl fh6)), ((rh 7), .inl (k 0, 17, .inl fh7)), ((rh 8), .inl (k 0, 17, .inl fh8)), ((rh 9), .inl (k 0, 17, .inl fh9)), ((rh 10), .inl (k 0, 17, .inl fh10)), ((rh 11), .inl (k 0, 17, .inl fh11))] H := hP
          have hl : lv_has ls 7 [(5, .int (nI 7)), (4, .int x_273), (3, .int x_274), (0, .ref (o 11)), (1, .int p0), (2, .int (nI p1))] := hl
          refine lv_aload_n hx hb dX5_leftAtWorst_17 rfl (lv_at hl 3 rfl) ?_
          refine x_get S hK hP 0 rfl cfX5 3 lkX5_11 (by decide) rfl dX5_leftAtWorst_18 ?_
          refine lv_iload hx hb dX5_leftAtWorst_21 (lv_at hl 0 rfl) ?_
          refine x_Iald (v := (rh 7)) S hK hP 1 rfl (vp_lit (by decide)) rfl dX5_leftAtWorst_23 ?_
          refine lv_iload_n hx hb dX5_leftAtWorst_24 rfl (lv_at hl 5 rfl) ?_
          refine x_iald S hK hP 9 rfl (vp_in_nI (by omega) (by decide)) dX5_leftAtWorst_25 ?_
          refine lv_topi (fun v_358 ev_358 => ?_)
          refine lv_istore (lv' := [(6, .int v_358), (5, .int (nI 7)), (4, .int x_273), (3, .int x_274), (0, .ref (o 11)), (1, .int p0), (2, .int (nI p1))]) hx hb dX5_leftAtWorst_26 hl (by decide) rfl (fun ls hl => ?_)
          refine lv_iload_n hx hb dX5_leftAtWorst_28 rfl (lv_at hl 3 rfl) ?_
          refine lv_iload hx hb dX5_leftAtWorst_29 (lv_at hl 0 rfl) ?_
          refine lv_iconst (v := 1) hx hb dX5_leftAtWorst_31 (by decide) ?_
          refine x_roSNi (As := [.int v_358, .int 1]) S hK hP hDW hZ hAB hBA hS hA hl mwX10_holdersIn lkX5_94 (ctX10_holdersIn l D k z v_358 1 ) [] rfl (by decide) rfl rfl ⟨Nat.le_of_ble_eq_true rfl, Nat.le_of_ble_eq_true rfl, Nat.le_of_ble_eq_true rfl⟩ dX5_leftAtWorst_32 ⟨Nat.le_of_ble_eq_true rfl, Nat.le_of_ble_eq_true rfl⟩ (fun r_359 H locs hr_359 hP hS => ?_)
          refine lv_iload_n hx hb dX5_leftAtWorst_35 rfl (lv_at hl 5 rfl) ?_
          refine lv_iushr hx hb dX5_leftAtWorst_36 rfl ?_
          refine lv_topi (fun v_361 ev_361 => ?_)
          refine lv_iconst (v := 1) hx hb dX5_leftAtWorst_37 (by decide) ?_
          refine lv_iand hx hb dX5_leftAtWorst_38 ?_
          refine lv_topi (fun v_362 ev_362 => ?_)
          refine lv_iadd hx hb dX5_leftAtWorst_39 ?_
          refine lv_topi (fun v_363 ev_363 => ?_)
          refine lv_istore_n (lv' := [(3, .int v_363), (6, .int v_358), (5, .int (nI 7)), (4, .int x_273), (0, .ref (o 11)), (1, .int p0), (2, .int (nI p1))]) hx hb dX5_leftAtWorst_40 rfl hl (by decide) rfl (fun ls hl => ?_)
          refine lv_iload hx hb dX5_leftAtWorst_41 (lv_at hl 3 rfl) ?_
          refine lv_iload hx hb dX5_leftAtWorst_43 (lv_at hl 1 rfl) ?_
          refine lv_iconst (v := 2) hx hb dX5_leftAtWorst_45 (by decide) ?_
          refine x_roSNi (As := [.int v_358, .int 2]) S hK hP hDW hZ hAB hBA hS hA hl mwX10_holdersIn lkX5_94 (ctX10_holdersIn l D k z v_358 2 ) [] rfl (by decide) rfl rfl ⟨Nat.le_of_ble_eq_true rfl, Nat.le_of_ble_eq_true rfl, Nat.le_of_ble_eq_true rfl⟩ dX5_leftAtWorst_46 ⟨Nat.le_of_ble_eq_true rfl, Nat.le_of_ble_eq_true rfl⟩ (fun r_364 H locs hr_364 hP hS => ?_)
          refine lv_iload_n hx hb dX5_leftAtWorst_49 rfl (lv_at hl 5 rfl) ?_
          refine lv_iushr hx hb dX5_leftAtWorst_50 rfl ?_
          refine lv_topi (fun v_366 ev_366 => ?_)
          refine lv_iconst (v := 1) hx hb dX5_leftAtWorst_51 (by decide) ?_
          refine lv_iand hx hb dX5_leftAtWorst_52 ?_
          refine lv_topi (fun v_367 ev_367 => ?_)
          refine lv_iadd hx hb dX5_leftAtWorst_53 ?_
          refine lv_topi (fun v_368 ev_368 => ?_)
          refine lv_istore (lv' := [(4, .int v_368), (3, .int v_363), (6, .int v_358), (5, .int (nI 7)), (0, .ref (o 11)), (1, .int p0), (2, .int (nI p1))]) hx hb dX5_leftAtWorst_54 hl (by decide) rfl (fun ls hl => ?_)
          refine lv_iinc (v := 8) (lv' := [(5, .int 8), (4, .int v_368), (3, .int v_363), (6, .int v_358), (0, .ref (o 11)), (1, .int p0), (2, .int (nI p1))]) hx hb dX5_leftAtWorst_56 hl (k := 3) rfl (by decide) (by decide) rfl (fun ls hl => ?_)
          refine lv_goto (tgt := 8) hx hb dX5_leftAtWorst_59 (by decide) ?_
          exact ihj_272 8 v_368 v_363 _ _ _ (by omega) (by omega) hP hS (lv_sub hl [0, 1, 2, 4, 5, 6] rfl)
        · skip
          have hP : va_P D vwCl [((o 11), .inr (5, [.ref (o 3), .ref (o 10), .ref (o 6), .ref (o 80), .int (nI sfit), .int squestion, .int sleft])), ((o 80), .inl (k 5, 12, .inr (.inr (.inr (.inr (fun i => if i < 12 then some (rh i) else none)))))), ((rh 0), .inl (k 0, 17, .inl fh0)), ((rh 1), .inl (k 0, 17, .inl fh1)), ((rh 2), .inl (k 0, 17, .inl fh2)), ((rh 3), .inl (k 0, 17, .inl fh3)), ((rh 4), .inl (k 0, 17, .inl fh4)), ((rh 5), .inl (k 0, 17, .inl fh5)), ((rh 6), .inl (k 0, 17, .inl fh6)), ((rh 7), .inl (k 0, 17, .inl fh7)), ((rh 8), .inl (k 0, 17, .inl fh8)), ((rh 9), .inl (k 0, 17, .inl fh9)), ((rh 10), .inl (k 0, 17, .inl fh10)), ((rh 11), .inl (k 0, 17, .inl fh11))] H := hP
          have hl : lv_has ls 7 [(5, .int (nI 8)), (4, .int x_273), (3, .int x_274), (0, .ref (o 11)), (1, .int p0), (2, .int (nI p1))] := hl
          refine lv_aload_n hx hb dX5_leftAtWorst_17 rfl (lv_at hl 3 rfl) ?_
          refine x_get S hK hP 0 rfl cfX5 3 lkX5_11 (by decide) rfl dX5_leftAtWorst_18 ?_
          refine lv_iload hx hb dX5_leftAtWorst_21 (lv_at hl 0 rfl) ?_
          refine x_Iald (v := (rh 8)) S hK hP 1 rfl (vp_lit (by decide)) rfl dX5_leftAtWorst_23 ?_
          refine lv_iload_n hx hb dX5_leftAtWorst_24 rfl (lv_at hl 5 rfl) ?_
          refine x_iald S hK hP 10 rfl (vp_in_nI (by omega) (by decide)) dX5_leftAtWorst_25 ?_
          refine lv_topi (fun v_369 ev_369 => ?_)
          refine lv_istore (lv' := [(6, .int v_369), (5, .int (nI 8)), (4, .int x_273), (3, .int x_274), (0, .ref (o 11)), (1, .int p0), (2, .int (nI p1))]) hx hb dX5_leftAtWorst_26 hl (by decide) rfl (fun ls hl => ?_)
          refine lv_iload_n hx hb dX5_leftAtWorst_28 rfl (lv_at hl 3 rfl) ?_
          refine lv_iload hx hb dX5_leftAtWorst_29 (lv_at hl 0 rfl) ?_
          refine lv_iconst (v := 1) hx hb dX5_leftAtWorst_31 (by decide) ?_
          refine x_roSNi (As := [.int v_369, .int 1]) S hK hP hDW hZ hAB hBA hS hA hl mwX10_holdersIn lkX5_94 (ctX10_holdersIn l D k z v_369 1 ) [] rfl (by decide) rfl rfl ⟨Nat.le_of_ble_eq_true rfl, Nat.le_of_ble_eq_true rfl, Nat.le_of_ble_eq_true rfl⟩ dX5_leftAtWorst_32 ⟨Nat.le_of_ble_eq_true rfl, Nat.le_of_ble_eq_true rfl⟩ (fun r_370 H locs hr_370 hP hS => ?_)
          refine lv_iload_n hx hb dX5_leftAtWorst_35 rfl (lv_at hl 5 rfl) ?_
          refine lv_iushr hx hb dX5_leftAtWorst_36 rfl ?_
          refine lv_topi (fun v_372 ev_372 => ?_)
          refine lv_iconst (v := 1) hx hb dX5_leftAtWorst_37 (by decide) ?_
          refine lv_iand hx hb dX5_leftAtWorst_38 ?_
          refine lv_topi (fun v_373 ev_373 => ?_)
          refine lv_iadd hx hb dX5_leftAtWorst_39 ?_
          refine lv_topi (fun v_374 ev_374 => ?_)
          refine lv_istore_n (lv' := [(3, .int v_374), (6, .int v_369), (5, .int (nI 8)), (4, .int x_273), (0, .ref (o 11)), (1, .int p0), (2, .int (nI p1))]) hx hb dX5_leftAtWorst_40 rfl hl (by decide) rfl (fun ls hl => ?_)
          refine lv_iload hx hb dX5_leftAtWorst_41 (lv_at hl 3 rfl) ?_
          refine lv_iload hx hb dX5_leftAtWorst_43 (lv_at hl 1 rfl) ?_
          refine lv_iconst (v := 2) hx hb dX5_leftAtWorst_45 (by decide) ?_
          refine x_roSNi (As := [.int v_369, .int 2]) S hK hP hDW hZ hAB hBA hS hA hl mwX10_holdersIn lkX5_94 (ctX10_holdersIn l D k z v_369 2 ) [] rfl (by decide) rfl rfl ⟨Nat.le_of_ble_eq_true rfl, Nat.le_of_ble_eq_true rfl, Nat.le_of_ble_eq_true rfl⟩ dX5_leftAtWorst_46 ⟨Nat.le_of_ble_eq_true rfl, Nat.le_of_ble_eq_true rfl⟩ (fun r_375 H locs hr_375 hP hS => ?_)
          refine lv_iload_n hx hb dX5_leftAtWorst_49 rfl (lv_at hl 5 rfl) ?_
          refine lv_iushr hx hb dX5_leftAtWorst_50 rfl ?_
          refine lv_topi (fun v_377 ev_377 => ?_)
          refine lv_iconst (v := 1) hx hb dX5_leftAtWorst_51 (by decide) ?_
          refine lv_iand hx hb dX5_leftAtWorst_52 ?_
          refine lv_topi (fun v_378 ev_378 => ?_)
          refine lv_iadd hx hb dX5_leftAtWorst_53 ?_
          refine lv_topi (fun v_379 ev_379 => ?_)
          refine lv_istore (lv' := [(4, .int v_379), (3, .int v_374), (6, .int v_369), (5, .int (nI 8)), (0, .ref (o 11)), (1, .int p0), (2, .int (nI p1))]) hx hb dX5_leftAtWorst_54 hl (by decide) rfl (fun ls hl => ?_)
          refine lv_iinc (v := 9) (lv' := [(5, .int 9), (4, .int v_379), (3, .int v_374), (6, .int v_369), (0, .ref (o 11)), (1, .int p0), (2, .int (nI p1))]) hx hb dX5_leftAtWorst_56 hl (k := 3) rfl (by decide) (by decide) rfl (fun ls hl => ?_)
          refine lv_goto (tgt := 8) hx hb dX5_leftAtWorst_59 (by decide) ?_
          exact ihj_272 9 v_379 v_374 _ _ _ (by omega) (by omega) hP hS (lv_sub hl [0, 1, 2, 4, 5, 6] rfl)
        · skip
          have hP : va_P D vwCl [((o 11), .inr (5, [.ref (o 3), .ref (o 10), .ref (o 6), .ref (o 80), .int (nI sfit), .int squestion, .int sleft])), ((o 80), .inl (k 5, 12, .inr (.inr (.inr (.inr (fun i => if i < 12 then some (rh i) else none)))))), ((rh 0), .inl (k 0, 17, .inl fh0)), ((rh 1), .inl (k 0, 17, .inl fh1)), ((rh 2), .inl (k 0, 17, .inl fh2)), ((rh 3), .inl (k 0, 17, .inl fh3)), ((rh 4), .inl (k 0, 17, .inl fh4)), ((rh 5), .inl (k 0, 17, .inl fh5)), ((rh 6), .inl (k 0, 17, .inl fh6)), ((rh 7), .inl (k 0, 17, .inl fh7)), ((rh 8), .inl (k 0, 17, .inl fh8)), ((rh 9), .inl (k 0, 17, .inl fh9)), ((rh 10), .inl (k 0, 17, .inl fh10)), ((rh 11), .inl (k 0, 17, .inl fh11))] H := hP
          have hl : lv_has ls 7 [(5, .int (nI 9)), (4, .int x_273), (3, .int x_274), (0, .ref (o 11)), (1, .int p0), (2, .int (nI p1))] := hl
          refine lv_aload_n hx hb dX5_leftAtWorst_17 rfl (lv_at hl 3 rfl) ?_
          refine x_get S hK hP 0 rfl cfX5 3 lkX5_11 (by decide) rfl dX5_leftAtWorst_18 ?_
          refine lv_iload hx hb dX5_leftAtWorst_21 (lv_at hl 0 rfl) ?_
          refine x_Iald (v := (rh 9)) S hK hP 1 rfl (vp_lit (by decide)) rfl dX5_leftAtWorst_23 ?_
          refine lv_iload_n hx hb dX5_leftAtWorst_24 rfl (lv_at hl 5 rfl) ?_
          refine x_iald S hK hP 11 rfl (vp_in_nI (by omega) (by decide)) dX5_leftAtWorst_25 ?_
          refine lv_topi (fun v_380 ev_380 => ?_)
          refine lv_istore (lv' := [(6, .int v_380), (5, .int (nI 9)), (4, .int x_273), (3, .int x_274), (0, .ref (o 11)), (1, .int p0), (2, .int (nI p1))]) hx hb dX5_leftAtWorst_26 hl (by decide) rfl (fun ls hl => ?_)
          refine lv_iload_n hx hb dX5_leftAtWorst_28 rfl (lv_at hl 3 rfl) ?_
          refine lv_iload hx hb dX5_leftAtWorst_29 (lv_at hl 0 rfl) ?_
          refine lv_iconst (v := 1) hx hb dX5_leftAtWorst_31 (by decide) ?_
          refine x_roSNi (As := [.int v_380, .int 1]) S hK hP hDW hZ hAB hBA hS hA hl mwX10_holdersIn lkX5_94 (ctX10_holdersIn l D k z v_380 1 ) [] rfl (by decide) rfl rfl ⟨Nat.le_of_ble_eq_true rfl, Nat.le_of_ble_eq_true rfl, Nat.le_of_ble_eq_true rfl⟩ dX5_leftAtWorst_32 ⟨Nat.le_of_ble_eq_true rfl, Nat.le_of_ble_eq_true rfl⟩ (fun r_381 H locs hr_381 hP hS => ?_)
          refine lv_iload_n hx hb dX5_leftAtWorst_35 rfl (lv_at hl 5 rfl) ?_
          refine lv_iushr hx hb dX5_leftAtWorst_36 rfl ?_
          refine lv_topi (fun v_383 ev_383 => ?_)
          refine lv_iconst (v := 1) hx hb dX5_leftAtWorst_37 (by decide) ?_
          refine lv_iand hx hb dX5_leftAtWorst_38 ?_
          refine lv_topi (fun v_384 ev_384 => ?_)
          refine lv_iadd hx hb dX5_leftAtWorst_39 ?_
          refine lv_topi (fun v_385 ev_385 => ?_)
          refine lv_istore_n (lv' := [(3, .int v_385), (6, .int v_380), (5, .int (nI 9)), (4, .int x_273), (0, .ref (o 11)), (1, .int p0), (2, .int (nI p1))]) hx hb dX5_leftAtWorst_40 rfl hl (by decide) rfl (fun ls hl => ?_)
          refine lv_iload hx hb dX5_leftAtWorst_41 (lv_at hl 3 rfl) ?_
          refine lv_iload hx hb dX5_leftAtWorst_43 (lv_at hl 1 rfl) ?_
          refine lv_iconst (v := 2) hx hb dX5_leftAtWorst_45 (by decide) ?_
          refine x_roSNi (As := [.int v_380, .int 2]) S hK hP hDW hZ hAB hBA hS hA hl mwX10_holdersIn lkX5_94 (ctX10_holdersIn l D k z v_380 2 ) [] rfl (by decide) rfl rfl ⟨Nat.le_of_ble_eq_true rfl, Nat.le_of_ble_eq_true rfl, Nat.le_of_ble_eq_true rfl⟩ dX5_leftAtWorst_46 ⟨Nat.le_of_ble_eq_true rfl, Nat.le_of_ble_eq_true rfl⟩ (fun r_386 H locs hr_386 hP hS => ?_)
          refine lv_iload_n hx hb dX5_leftAtWorst_49 rfl (lv_at hl 5 rfl) ?_
          refine lv_iushr hx hb dX5_leftAtWorst_50 rfl ?_
          refine lv_topi (fun v_388 ev_388 => ?_)
          refine lv_iconst (v := 1) hx hb dX5_leftAtWorst_51 (by decide) ?_
          refine lv_iand hx hb dX5_leftAtWorst_52 ?_
          refine lv_topi (fun v_389 ev_389 => ?_)
          refine lv_iadd hx hb dX5_leftAtWorst_53 ?_
          refine lv_topi (fun v_390 ev_390 => ?_)
          refine lv_istore (lv' := [(4, .int v_390), (3, .int v_385), (6, .int v_380), (5, .int (nI 9)), (0, .ref (o 11)), (1, .int p0), (2, .int (nI p1))]) hx hb dX5_leftAtWorst_54 hl (by decide) rfl (fun ls hl => ?_)
          refine lv_iinc (v := 10) (lv' := [(5, .int 10), (4, .int v_390), (3, .int v_385), (6, .int v_380), (0, .ref (o 11)), (1, .int p0), (2, .int (nI p1))]) hx hb dX5_leftAtWorst_56 hl (k := 3) rfl (by decide) (by decide) rfl (fun ls hl => ?_)
          refine lv_goto (tgt := 8) hx hb dX5_leftAtWorst_59 (by decide) ?_
          exact ihj_272 10 v_390 v_385 _ _ _ (by omega) (by omega) hP hS (lv_sub hl [0, 1, 2, 4, 5, 6] rfl)
        · skip
          have hP : va_P D vwCl [((o 11), .inr (5, [.ref (o 3), .ref (o 10), .ref (o 6), .ref (o 80), .int (nI sfit), .int squestion, .int sleft])), ((o 80), .inl (k 5, 12, .inr (.inr (.inr (.inr (fun i => if i < 12 then some (rh i) else none)))))), ((rh 0), .inl (k 0, 17, .inl fh0)), ((rh 1), .inl (k 0, 17, .inl fh1)), ((rh 2), .inl (k 0, 17, .inl fh2)), ((rh 3), .inl (k 0, 17, .inl fh3)), ((rh 4), .inl (k 0, 17, .inl fh4)), ((rh 5), .inl (k 0, 17, .inl fh5)), ((rh 6), .inl (k 0, 17, .inl fh6)), ((rh 7), .inl (k 0, 17, .inl fh7)), ((rh 8), .inl (k 0, 17, .inl fh8)), ((rh 9), .inl (k 0, 17, .inl fh9)), ((rh 10), .inl (k 0, 17, .inl fh10)), ((rh 11), .inl (k 0, 17, .inl fh11))] H := hP
          have hl : lv_has ls 7 [(5, .int (nI 10)), (4, .int x_273), (3, .int x_274), (0, .ref (o 11)), (1, .int p0), (2, .int (nI p1))] := hl
          refine lv_aload_n hx hb dX5_leftAtWorst_17 rfl (lv_at hl 3 rfl) ?_
          refine x_get S hK hP 0 rfl cfX5 3 lkX5_11 (by decide) rfl dX5_leftAtWorst_18 ?_
          refine lv_iload hx hb dX5_leftAtWorst_21 (lv_at hl 0 rfl) ?_
          refine x_Iald (v := (rh 10)) S hK hP 1 rfl (vp_lit (by decide)) rfl dX5_leftAtWorst_23 ?_
          refine lv_iload_n hx hb dX5_leftAtWorst_24 rfl (lv_at hl 5 rfl) ?_
          refine x_iald S hK hP 12 rfl (vp_in_nI (by omega) (by decide)) dX5_leftAtWorst_25 ?_
          refine lv_topi (fun v_391 ev_391 => ?_)
          refine lv_istore (lv' := [(6, .int v_391), (5, .int (nI 10)), (4, .int x_273), (3, .int x_274), (0, .ref (o 11)), (1, .int p0), (2, .int (nI p1))]) hx hb dX5_leftAtWorst_26 hl (by decide) rfl (fun ls hl => ?_)
          refine lv_iload_n hx hb dX5_leftAtWorst_28 rfl (lv_at hl 3 rfl) ?_
          refine lv_iload hx hb dX5_leftAtWorst_29 (lv_at hl 0 rfl) ?_
          refine lv_iconst (v := 1) hx hb dX5_leftAtWorst_31 (by decide) ?_
          refine x_roSNi (As := [.int v_391, .int 1]) S hK hP hDW hZ hAB hBA hS hA hl mwX10_holdersIn lkX5_94 (ctX10_holdersIn l D k z v_391 1 ) [] rfl (by decide) rfl rfl ⟨Nat.le_of_ble_eq_true rfl, Nat.le_of_ble_eq_true rfl, Nat.le_of_ble_eq_true rfl⟩ dX5_leftAtWorst_32 ⟨Nat.le_of_ble_eq_true rfl, Nat.le_of_ble_eq_true rfl⟩ (fun r_392 H locs hr_392 hP hS => ?_)
          refine lv_iload_n hx hb dX5_leftAtWorst_35 rfl (lv_at hl 5 rfl) ?_
          refine lv_iushr hx hb dX5_leftAtWorst_36 rfl ?_
          refine lv_topi (fun v_394 ev_394 => ?_)
          refine lv_iconst (v := 1) hx hb dX5_leftAtWorst_37 (by decide) ?_
          refine lv_iand hx hb dX5_leftAtWorst_38 ?_
          refine lv_topi (fun v_395 ev_395 => ?_)
          refine lv_iadd hx hb dX5_leftAtWorst_39 ?_
          refine lv_topi (fun v_396 ev_396 => ?_)
          refine lv_istore_n (lv' := [(3, .int v_396), (6, .int v_391), (5, .int (nI 10)), (4, .int x_273), (0, .ref (o 11)), (1, .int p0), (2, .int (nI p1))]) hx hb dX5_leftAtWorst_40 rfl hl (by decide) rfl (fun ls hl => ?_)
          refine lv_iload hx hb dX5_leftAtWorst_41 (lv_at hl 3 rfl) ?_
          refine lv_iload hx hb dX5_leftAtWorst_43 (lv_at hl 1 rfl) ?_
          refine lv_iconst (v := 2) hx hb dX5_leftAtWorst_45 (by decide) ?_
          refine x_roSNi (As := [.int v_391, .int 2]) S hK hP hDW hZ hAB hBA hS hA hl mwX10_holdersIn lkX5_94 (ctX10_holdersIn l D k z v_391 2 ) [] rfl (by decide) rfl rfl ⟨Nat.le_of_ble_eq_true rfl, Nat.le_of_ble_eq_true rfl, Nat.le_of_ble_eq_true rfl⟩ dX5_leftAtWorst_46 ⟨Nat.le_of_ble_eq_true rfl, Nat.le_of_ble_eq_true rfl⟩ (fun r_397 H locs hr_397 hP hS => ?_)
          refine lv_iload_n hx hb dX5_leftAtWorst_49 rfl (lv_at hl 5 rfl) ?_
          refine lv_iushr hx hb dX5_leftAtWorst_50 rfl ?_
          refine lv_topi (fun v_399 ev_399 => ?_)
          refine lv_iconst (v := 1) hx hb dX5_leftAtWorst_51 (by decide) ?_
          refine lv_iand hx hb dX5_leftAtWorst_52 ?_
          refine lv_topi (fun v_400 ev_400 => ?_)
          refine lv_iadd hx hb dX5_leftAtWorst_53 ?_
          refine lv_topi (fun v_401 ev_401 => ?_)
          refine lv_istore (lv' := [(4, .int v_401), (3, .int v_396), (6, .int v_391), (5, .int (nI 10)), (0, .ref (o 11)), (1, .int p0), (2, .int (nI p1))]) hx hb dX5_leftAtWorst_54 hl (by decide) rfl (fun ls hl => ?_)
          refine lv_iinc (v := 11) (lv' := [(5, .int 11), (4, .int v_401), (3, .int v_396), (6, .int v_391), (0, .ref (o 11)), (1, .int p0), (2, .int (nI p1))]) hx hb dX5_leftAtWorst_56 hl (k := 3) rfl (by decide) (by decide) rfl (fun ls hl => ?_)
          refine lv_goto (tgt := 8) hx hb dX5_leftAtWorst_59 (by decide) ?_
          exact ihj_272 11 v_401 v_396 _ _ _ (by omega) (by omega) hP hS (lv_sub hl [0, 1, 2, 4, 5, 6] rfl)
        · skip
          have hP : va_P D vwCl [((o 11), .inr (5, [.ref (o 3), .ref (o 10), .ref (o 6), .ref (o 80), .int (nI sfit), .int squestion, .int sleft])), ((o 80), .inl (k 5, 12, .inr (.inr (.inr (.inr (fun i => if i < 12 then some (rh i) else none)))))), ((rh 0), .inl (k 0, 17, .inl fh0)), ((rh 1), .inl (k 0, 17, .inl fh1)), ((rh 2), .inl (k 0, 17, .inl fh2)), ((rh 3), .inl (k 0, 17, .inl fh3)), ((rh 4), .inl (k 0, 17, .inl fh4)), ((rh 5), .inl (k 0, 17, .inl fh5)), ((rh 6), .inl (k 0, 17, .inl fh6)), ((rh 7), .inl (k 0, 17, .inl fh7)), ((rh 8), .inl (k 0, 17, .inl fh8)), ((rh 9), .inl (k 0, 17, .inl fh9)), ((rh 10), .inl (k 0, 17, .inl fh10)), ((rh 11), .inl (k 0, 17, .inl fh11))] H := hP
          have hl : lv_has ls 7 [(5, .int (nI 11)), (4, .int x_273), (3, .int x_274), (0, .ref (o 11)), (1, .int p0), (2, .int (nI p1))] := hl
          refine lv_aload_n hx hb dX5_leftAtWorst_17 rfl (lv_at hl 3 rfl) ?_
          refine x_get S hK hP 0 rfl cfX5 3 lkX5_11 (by decide) rfl dX5_leftAtWorst_18 ?_
          refine lv_iload hx hb dX5_leftAtWorst_21 (lv_at hl 0 rfl) ?_
          refine x_Iald (v := (rh 11)) S hK hP 1 rfl (vp_lit (by decide)) rfl dX5_leftAtWorst_23 ?_
          refine lv_iload_n hx hb dX5_leftAtWorst_24 rfl (lv_at hl 5 rfl) ?_
          refine x_iald S hK hP 13 rfl (vp_in_nI (by omega) (by decide)) dX5_leftAtWorst_25 ?_
          refine lv_topi (fun v_402 ev_402 => ?_)
          refine lv_istore (lv' := [(6, .int v_402), (5, .int (nI 11)), (4, .int x_273), (3, .int x_274), (0, .ref (o 11)), (1, .int p0), (2, .int (nI p1))]) hx hb dX5_leftAtWorst_26 hl (by decide) rfl (fun ls hl => ?_)
          refine lv_iload_n hx hb dX5_leftAtWorst_28 rfl (lv_at hl 3 rfl) ?_
          refine lv_iload hx hb dX5_leftAtWorst_29 (lv_at hl 0 rfl) ?_
          refine lv_iconst (v := 1) hx hb dX5_leftAtWorst_31 (by decide) ?_
          refine x_roSNi (As := [.int v_402, .int 1]) S hK hP hDW hZ hAB hBA hS hA hl mwX10_holdersIn lkX5_94 (ctX10_holdersIn l D k z v_402 1 ) [] rfl (by decide) rfl rfl ⟨Nat.le_of_ble_eq_true rfl, Nat.le_of_ble_eq_true rfl, Nat.le_of_ble_eq_true rfl⟩ dX5_leftAtWorst_32 ⟨Nat.le_of_ble_eq_true rfl, Nat.le_of_ble_eq_true rfl⟩ (fun r_403 H locs hr_403 hP hS => ?_)
          refine lv_iload_n hx hb dX5_leftAtWorst_35 rfl (lv_at hl 5 rfl) ?_
          refine lv_iushr hx hb dX5_leftAtWorst_36 rfl ?_
          refine lv_topi (fun v_405 ev_405 => ?_)
          refine lv_iconst (v := 1) hx hb dX5_leftAtWorst_37 (by decide) ?_
          refine lv_iand hx hb dX5_leftAtWorst_38 ?_
          refine lv_topi (fun v_406 ev_406 => ?_)
          refine lv_iadd hx hb dX5_leftAtWorst_39 ?_
          refine lv_topi (fun v_407 ev_407 => ?_)
          refine lv_istore_n (lv' := [(3, .int v_407), (6, .int v_402), (5, .int (nI 11)), (4, .int x_273), (0, .ref (o 11)), (1, .int p0), (2, .int (nI p1))]) hx hb dX5_leftAtWorst_40 rfl hl (by decide) rfl (fun ls hl => ?_)
          refine lv_iload hx hb dX5_leftAtWorst_41 (lv_at hl 3 rfl) ?_
          refine lv_iload hx hb dX5_leftAtWorst_43 (lv_at hl 1 rfl) ?_
          refine lv_iconst (v := 2) hx hb dX5_leftAtWorst_45 (by decide) ?_
          refine x_roSNi (As := [.int v_402, .int 2]) S hK hP hDW hZ hAB hBA hS hA hl mwX10_holdersIn lkX5_94 (ctX10_holdersIn l D k z v_402 2 ) [] rfl (by decide) rfl rfl ⟨Nat.le_of_ble_eq_true rfl, Nat.le_of_ble_eq_true rfl, Nat.le_of_ble_eq_true rfl⟩ dX5_leftAtWorst_46 ⟨Nat.le_of_ble_eq_true rfl, Nat.le_of_ble_eq_true rfl⟩ (fun r_408 H locs hr_408 hP hS => ?_)
          refine lv_iload_n hx hb dX5_leftAtWorst_49 rfl (lv_at hl 5 rfl) ?_
          refine lv_iushr hx hb dX5_leftAtWorst_50 rfl ?_
          refine lv_topi (fun v_410 ev_410 => ?_)
          refine lv_iconst (v := 1) hx hb dX5_leftAtWorst_51 (by decide) ?_
          refine lv_iand hx hb dX5_leftAtWorst_52 ?_
          refine lv_topi (fun v_411 ev_411 => ?_)
          refine lv_iadd hx hb dX5_leftAtWorst_53 ?_
          refine lv_topi (fun v_412 ev_412 => ?_)
          refine lv_istore (lv' := [(4, .int v_412), (3, .int v_407), (6, .int v_402), (5, .int (nI 11)), (0, .ref (o 11)), (1, .int p0), (2, .int (nI p1))]) hx hb dX5_leftAtWorst_54 hl (by decide) rfl (fun ls hl => ?_)
          refine lv_iinc (v := 12) (lv' := [(5, .int 12), (4, .int v_412), (3, .int v_407), (6, .int v_402), (0, .ref (o 11)), (1, .int p0), (2, .int (nI p1))]) hx hb dX5_leftAtWorst_56 hl (k := 3) rfl (by decide) (by decide) rfl (fun ls hl => ?_)
          refine lv_goto (tgt := 8) hx hb dX5_leftAtWorst_59 (by decide) ?_
          exact ihj_272 12 v_412 v_407 _ _ _ (by omega) (by omega) hP hS (lv_sub hl [0, 1, 2, 4, 5, 6] rfl)
  exact lp_275 (sfit + 1) 0 0 0 _ _ _ (by omega) (by omega) hP hS (lv_sub hl [0, 1, 2, 3, 4, 5] rfl)

set_option maxHeartbeats 4000000 in
set_option maxRecDepth 100000 in
theorem ctX5_seekQuestion (l : Launch) (D : va_G) (k : Nat → ClassId) (z : Nat → Nat) (o : Nat → Nat) (sfit : Nat) (squestion : Int32) (sleft : Int32) (rh : Nat → Nat) (fh0 : Nat → Int32) (fh1 : Nat → Int32) (fh2 : Nat → Int32) (fh3 : Nat → Int32) (fh4 : Nat → Int32) (fh5 : Nat → Int32) (fh6 : Nat → Int32) (fh7 : Nat → Int32) (fh8 : Nat → Int32) (fh9 : Nat → Int32) (fh10 : Nat → Int32) (fh11 : Nat → Int32) (rn : Nat → Nat) (fnj : Nat → Int64) (f78 : Nat → Int32) (f79 : Nat → Int32) (tlawNow : Int32) (tharder : Int32) (ttold : Int32) (treply : Int32) (twet : Int32) (f73 : Nat → Int32) (f69 : Nat → Int32) (f70 : Nat → Int32) (f71 : Nat → Int32) (glines : Int32) (ghours : Nat) (glaw : Int32) (godds : Int32) (grows : Nat) (gheads : Nat) (gsayings : Nat) (gslugs : Nat) (gacts : Nat) (f26 : Nat → Int32) (f30 : Nat → Int32) (f31 : Nat → Int32) (j : Nat) (q : Nat) (p0 : Int32) (hsfit : sfit ≤ 12) (hok : okL f79) (hghours : ghours ≤ 16) (hgrows : grows ≤ 4) (hgheads : gheads ≤ 12) (hgsayings : gsayings ≤ 8) (hgslugs : gslugs ≤ 4) (hgacts : gacts ≤ 30) (hj : j ≤ 3) (hq : q ≤ 60) (hlen : f79 j = nI q) (hso : sound fnj q ghours) : MU l yX5_seekQuestion cX5_seekQuestion 6 none 5 D k z [.ref (o 11), .int (nI j), .int p0] [((o 11), .inr (5, [.ref (o 3), .ref (o 10), .ref (o 6), .ref (o 80), .int (nI sfit), .int squestion, .int sleft])), ((o 80), .inl (k 5, 12, .inr (.inr (.inr (.inr (fun i => if i < 12 then some (rh i) else none)))))), ((rh 0), .inl (k 0, 17, .inl fh0)), ((rh 1), .inl (k 0, 17, .inl fh1)), ((rh 2), .inl (k 0, 17, .inl fh2)), ((rh 3), .inl (k 0, 17, .inl fh3)), ((rh 4), .inl (k 0, 17, .inl fh4)), ((rh 5), .inl (k 0, 17, .inl fh5)), ((rh 6), .inl (k 0, 17, .inl fh6)), ((rh 7), .inl (k 0, 17, .inl fh7)), ((rh 8), .inl (k 0, 17, .inl fh8)), ((rh 9), .inl (k 0, 17, .inl fh9)), ((rh 10), .inl (k 0, 17, .inl fh10)), ((rh 11), .inl (k 0, 17, .inl fh11)), ((o 10), .inr (6, [.ref (o 77), .ref (o 78), .ref (o 79)])), ((o 77), .inl (k 6, 4, .inr (.inr (.inr (.inr (fun i => if i < 4 then some (rn i) else none)))))), ((rn j), .inl (k 2, 60, .inr (.inl fnj))), ((o 78), .inl (k 0, 4, .inl f78)), ((o 79), .inl (k 0, 4, .inl f79)), ((o 6), .inr (1, [.ref (o 3), .ref (o 4), .int tlawNow, .int tharder, .int ttold, .int treply, .int twet, .ref (o 73)])), ((o 73), .inl (k 0, 17, .inl f73)), ((o 4), .inr (3, [.ref (o 69), .ref (o 70), .ref (o 71)])), ((o 69), .inl (k 0, 17, .inl f69)), ((o 70), .inl (k 0, 17, .inl f70)), ((o 71), .inl (k 0, 17, .inl f71)), ((o 3), .inr (2, [.int glines, .int (nI ghours), .int glaw, .int godds, .int (nI grows), .int (nI gheads), .int (nI gsayings), .int (nI gslugs), .int (nI gacts), .ref (o 26), .ref (o 27), .ref (o 28), .ref (o 29), .ref (o 30), .ref (o 31), .ref (o 32), .ref (o 33), .ref (o 34), .ref (o 35)])), ((o 26), .inl (k 0, 12, .inl f26)), ((o 30), .inl (k 0, 12, .inl f30)), ((o 31), .inl (k 0, 12, .inl f31))] 0 0 (Uv D (fun u : (Nat → Int32) × (Nat → Nat) × (Nat → Nat → Int32) × (Nat → Nat → Int64) × (Nat → Int64) => (u.2.1 0 ≤ 12)) (fun u : (Nat → Int32) × (Nat → Nat) × (Nat → Nat → Int32) × (Nat → Nat → Int64) × (Nat → Int64) => [((o 11), .inr (5, [.ref (o 3), .ref (o 10), .ref (o 6), .ref (o 80), .int (nI (u.2.1 0)), .int (u.1 0), .int (u.1 1)])), ((o 80), .inl (k 5, 12, .inr (.inr (.inr (.inr (fun i => if i < 12 then some (rh i) else none)))))), ((rh 0), .inl (k 0, 17, .inl (u.2.2.1 1))), ((rh 1), .inl (k 0, 17, .inl (u.2.2.1 2))), ((rh 2), .inl (k 0, 17, .inl (u.2.2.1 5))), ((rh 3), .inl (k 0, 17, .inl (u.2.2.1 6))), ((rh 4), .inl (k 0, 17, .inl (u.2.2.1 7))), ((rh 5), .inl (k 0, 17, .inl (u.2.2.1 8))), ((rh 6), .inl (k 0, 17, .inl (u.2.2.1 9))), ((rh 7), .inl (k 0, 17, .inl (u.2.2.1 10))), ((rh 8), .inl (k 0, 17, .inl (u.2.2.1 11))), ((rh 9), .inl (k 0, 17, .inl (u.2.2.1 12))), ((rh 10), .inl (k 0, 17, .inl (u.2.2.1 3))), ((rh 11), .inl (k 0, 17, .inl (u.2.2.1 4))), ((o 10), .inr (6, [.ref (o 77), .ref (o 78), .ref (o 79)])), ((o 77), .inl (k 6, 4, .inr (.inr (.inr (.inr (fun i => if i < 4 then some (rn i) else none)))))), ((rn j), .inl (k 2, 60, .inr (.inl fnj))), ((o 78), .inl (k 0, 4, .inl f78)), ((o 79), .inl (k 0, 4, .inl f79)), ((o 6), .inr (1, [.ref (o 3), .ref (o 4), .int (u.1 2), .int (u.1 3), .int (u.1 4), .int (u.1 5), .int (u.1 6), .ref (o 73)])), ((o 73), .inl (k 0, 17, .inl (u.2.2.1 0))), ((o 4), .inr (3, [.ref (o 69), .ref (o 70), .ref (o 71)])), ((o 69), .inl (k 0, 17, .inl f69)), ((o 70), .inl (k 0, 17, .inl f70)), ((o 71), .inl (k 0, 17, .inl f71)), ((o 3), .inr (2, [.int glines, .int (nI ghours), .int glaw, .int godds, .int (nI grows), .int (nI gheads), .int (nI gsayings), .int (nI gslugs), .int (nI gacts), .ref (o 26), .ref (o 27), .ref (o 28), .ref (o 29), .ref (o 30), .ref (o 31), .ref (o 32), .ref (o 33), .ref (o 34), .ref (o 35)])), ((o 26), .inl (k 0, 12, .inl f26)), ((o 30), .inl (k 0, 12, .inl f30)), ((o 31), .inl (k 0, 12, .inl f31))])) := by
  refine MU.of (by decide) (Nat.le_of_ble_eq_true rfl) ?_
  intro p e s m below meth c ls A args Q S hr hlk hnm hQ hK hP hD hZ hA hS hl
  have hx := S.1
  have hb := S.2.1
  have hl : lv_has ls 6 [(0, .ref (o 11)), (1, .int (nI j)), (2, .int p0)] := hl
  refine lv_aload_n hx hb dX5_seekQuestion_0 rfl (lv_at hl 0 rfl) ?_
  refine lv_iload_n hx hb dX5_seekQuestion_1 rfl (lv_at hl 1 rfl) ?_
  refine lv_iload_n hx hb dX5_seekQuestion_2 rfl (lv_at hl 2 rfl) ?_
  refine x_muVi (wr := []) (As := [.int (nI j), .int p0]) S hK hP hD hZ hS hA hl mwX5_candidates lkX5_82 (ctX5_candidates l D k z o sfit squestion sleft rh fh0 fh1 fh2 fh3 fh4 fh5 fh6 fh7 fh8 fh9 fh10 fh11 rn fnj f78 f79 tlawNow tharder ttold treply twet f73 f69 f70 f71 glines ghours glaw godds grows gheads gsayings gslugs gacts f26 f30 f31 j q p0 (by omega) (hok) (by omega) (by omega) (by omega) (by omega) (by omega) (by omega) (by omega) (by omega) (hlen) (hso)) [0, 1, 2, 3, 4, 5, 6, 7, 8, 9, 10, 11, 12, 13, 14, 15, 16, 17, 18, 19, 20, 21, 22, 23, 24, 25, 26, 27, 28] [] rfl rfl (by decide) (by decide) (by decide) rfl rfl rfl rfl rfl ⟨Nat.le_of_ble_eq_true rfl, Nat.le_of_ble_eq_true rfl, Nat.le_of_ble_eq_true rfl⟩ dX5_seekQuestion_3 ⟨Nat.le_of_ble_eq_true rfl, Nat.le_of_ble_eq_true rfl⟩ (fun r_1 u_2 H locs hr_1 hP hD hS => ?_)
  have hP : va_P D vwCl [((o 11), .inr (5, [.ref (o 3), .ref (o 10), .ref (o 6), .ref (o 80), .int (nI (u_2.2.1 0)), .int squestion, .int sleft])), ((o 80), .inl (k 5, 12, .inr (.inr (.inr (.inr (fun i => if i < 12 then some (rh i) else none)))))), ((rh 0), .inl (k 0, 17, .inl (u_2.2.2.1 1))), ((rh 1), .inl (k 0, 17, .inl (u_2.2.2.1 2))), ((rh 2), .inl (k 0, 17, .inl (u_2.2.2.1 5))), ((rh 3), .inl (k 0, 17, .inl (u_2.2.2.1 6))), ((rh 4), .inl (k 0, 17, .inl (u_2.2.2.1 7))), ((rh 5), .inl (k 0, 17, .inl (u_2.2.2.1 8))), ((rh 6), .inl (k 0, 17, .inl (u_2.2.2.1 9))), ((rh 7), .inl (k 0, 17, .inl (u_2.2.2.1 10))), ((rh 8), .inl (k 0, 17, .inl (u_2.2.2.1 11))), ((rh 9), .inl (k 0, 17, .inl (u_2.2.2.1 12))), ((rh 10), .inl (k 0, 17, .inl (u_2.2.2.1 3))), ((rh 11), .inl (k 0, 17, .inl (u_2.2.2.1 4))), ((o 10), .inr (6, [.ref (o 77), .ref (o 78), .ref (o 79)])), ((o 77), .inl (k 6, 4, .inr (.inr (.inr (.inr (fun i => if i < 4 then some (rn i) else none)))))), ((rn j), .inl (k 2, 60, .inr (.inl fnj))), ((o 78), .inl (k 0, 4, .inl f78)), ((o 79), .inl (k 0, 4, .inl f79)), ((o 6), .inr (1, [.ref (o 3), .ref (o 4), .int (u_2.1 0), .int (u_2.1 1), .int (u_2.1 2), .int (u_2.1 3), .int (u_2.1 4), .ref (o 73)])), ((o 73), .inl (k 0, 17, .inl (u_2.2.2.1 0))), ((o 4), .inr (3, [.ref (o 69), .ref (o 70), .ref (o 71)])), ((o 69), .inl (k 0, 17, .inl f69)), ((o 70), .inl (k 0, 17, .inl f70)), ((o 71), .inl (k 0, 17, .inl f71)), ((o 3), .inr (2, [.int glines, .int (nI ghours), .int glaw, .int godds, .int (nI grows), .int (nI gheads), .int (nI gsayings), .int (nI gslugs), .int (nI gacts), .ref (o 26), .ref (o 27), .ref (o 28), .ref (o 29), .ref (o 30), .ref (o 31), .ref (o 32), .ref (o 33), .ref (o 34), .ref (o 35)])), ((o 26), .inl (k 0, 12, .inl f26)), ((o 30), .inl (k 0, 12, .inl f30)), ((o 31), .inl (k 0, 12, .inl f31))] H := hP.sub [0, 1, 2, 3, 4, 5, 6, 7, 8, 9, 10, 11, 12, 13, 14, 15, 16, 17, 18, 19, 20, 21, 22, 23, 24, 25, 26, 27, 28] rfl
  have hD : va_D A [((o 11), .inr (5, [.ref (o 3), .ref (o 10), .ref (o 6), .ref (o 80), .int (nI (u_2.2.1 0)), .int squestion, .int sleft])), ((o 80), .inl (k 5, 12, .inr (.inr (.inr (.inr (fun i => if i < 12 then some (rh i) else none)))))), ((rh 0), .inl (k 0, 17, .inl (u_2.2.2.1 1))), ((rh 1), .inl (k 0, 17, .inl (u_2.2.2.1 2))), ((rh 2), .inl (k 0, 17, .inl (u_2.2.2.1 5))), ((rh 3), .inl (k 0, 17, .inl (u_2.2.2.1 6))), ((rh 4), .inl (k 0, 17, .inl (u_2.2.2.1 7))), ((rh 5), .inl (k 0, 17, .inl (u_2.2.2.1 8))), ((rh 6), .inl (k 0, 17, .inl (u_2.2.2.1 9))), ((rh 7), .inl (k 0, 17, .inl (u_2.2.2.1 10))), ((rh 8), .inl (k 0, 17, .inl (u_2.2.2.1 11))), ((rh 9), .inl (k 0, 17, .inl (u_2.2.2.1 12))), ((rh 10), .inl (k 0, 17, .inl (u_2.2.2.1 3))), ((rh 11), .inl (k 0, 17, .inl (u_2.2.2.1 4))), ((o 10), .inr (6, [.ref (o 77), .ref (o 78), .ref (o 79)])), ((o 77), .inl (k 6, 4, .inr (.inr (.inr (.inr (fun i => if i < 4 then some (rn i) else none)))))), ((rn j), .inl (k 2, 60, .inr (.inl fnj))), ((o 78), .inl (k 0, 4, .inl f78)), ((o 79), .inl (k 0, 4, .inl f79)), ((o 6), .inr (1, [.ref (o 3), .ref (o 4), .int (u_2.1 0), .int (u_2.1 1), .int (u_2.1 2), .int (u_2.1 3), .int (u_2.1 4), .ref (o 73)])), ((o 73), .inl (k 0, 17, .inl (u_2.2.2.1 0))), ((o 4), .inr (3, [.ref (o 69), .ref (o 70), .ref (o 71)])), ((o 69), .inl (k 0, 17, .inl f69)), ((o 70), .inl (k 0, 17, .inl f70)), ((o 71), .inl (k 0, 17, .inl f71)), ((o 3), .inr (2, [.int glines, .int (nI ghours), .int glaw, .int godds, .int (nI grows), .int (nI gheads), .int (nI gsayings), .int (nI gslugs), .int (nI gacts), .ref (o 26), .ref (o 27), .ref (o 28), .ref (o 29), .ref (o 30), .ref (o 31), .ref (o 32), .ref (o 33), .ref (o 34), .ref (o 35)])), ((o 26), .inl (k 0, 12, .inl f26)), ((o 30), .inl (k 0, 12, .inl f30)), ((o 31), .inl (k 0, 12, .inl f31))] := hD.sub [0, 1, 2, 3, 4, 5, 6, 7, 8, 9, 10, 11, 12, 13, 14, 15, 16, 17, 18, 19, 20, 21, 22, 23, 24, 25, 26, 27, 28] (by decide) rfl
  have hg_3 := hr_1
  refine lv_pop hx hb dX5_seekQuestion_6 rfl ?_
  refine lv_aload_n hx hb dX5_seekQuestion_7 rfl (lv_at hl 0 rfl) ?_
  refine lv_iconst (v := (-1)) hx hb dX5_seekQuestion_8 (by decide) ?_
  refine x_put (ws' := [((o 11), .inr (5, [.ref (o 3), .ref (o 10), .ref (o 6), .ref (o 80), .int (nI (u_2.2.1 0)), .int (-1), .int sleft])), ((o 80), .inl (k 5, 12, .inr (.inr (.inr (.inr (fun i => if i < 12 then some (rh i) else none)))))), ((rh 0), .inl (k 0, 17, .inl (u_2.2.2.1 1))), ((rh 1), .inl (k 0, 17, .inl (u_2.2.2.1 2))), ((rh 2), .inl (k 0, 17, .inl (u_2.2.2.1 5))), ((rh 3), .inl (k 0, 17, .inl (u_2.2.2.1 6))), ((rh 4), .inl (k 0, 17, .inl (u_2.2.2.1 7))), ((rh 5), .inl (k 0, 17, .inl (u_2.2.2.1 8))), ((rh 6), .inl (k 0, 17, .inl (u_2.2.2.1 9))), ((rh 7), .inl (k 0, 17, .inl (u_2.2.2.1 10))), ((rh 8), .inl (k 0, 17, .inl (u_2.2.2.1 11))), ((rh 9), .inl (k 0, 17, .inl (u_2.2.2.1 12))), ((rh 10), .inl (k 0, 17, .inl (u_2.2.2.1 3))), ((rh 11), .inl (k 0, 17, .inl (u_2.2.2.1 4))), ((o 10), .inr (6, [.ref (o 77), .ref (o 78), .ref (o 79)])), ((o 77), .inl (k 6, 4, .inr (.inr (.inr (.inr (fun i => if i < 4 then some (rn i) else none)))))), ((rn j), .inl (k 2, 60, .inr (.inl fnj))), ((o 78), .inl (k 0, 4, .inl f78)), ((o 79), .inl (k 0, 4, .inl f79)), ((o 6), .inr (1, [.ref (o 3), .ref (o 4), .int (u_2.1 0), .int (u_2.1 1), .int (u_2.1 2), .int (u_2.1 3), .int (u_2.1 4), .ref (o 73)])), ((o 73), .inl (k 0, 17, .inl (u_2.2.2.1 0))), ((o 4), .inr (3, [.ref (o 69), .ref (o 70), .ref (o 71)])), ((o 69), .inl (k 0, 17, .inl f69)), ((o 70), .inl (k 0, 17, .inl f70)), ((o 71), .inl (k 0, 17, .inl f71)), ((o 3), .inr (2, [.int glines, .int (nI ghours), .int glaw, .int godds, .int (nI grows), .int (nI gheads), .int (nI gsayings), .int (nI gslugs), .int (nI gacts), .ref (o 26), .ref (o 27), .ref (o 28), .ref (o 29), .ref (o 30), .ref (o 31), .ref (o 32), .ref (o 33), .ref (o 34), .ref (o 35)])), ((o 26), .inl (k 0, 12, .inl f26)), ((o 30), .inl (k 0, 12, .inl f30)), ((o 31), .inl (k 0, 12, .inl f31))]) S hK hP hD hS 0 rfl cfX5 5 lkX5_85 (by decide) rfl rfl rfl (Nat.le_of_ble_eq_true rfl) rfl dX5_seekQuestion_9 (fun H locs hP hD hS => ?_)
  refine lv_aload_n hx hb dX5_seekQuestion_12 rfl (lv_at hl 0 rfl) ?_
  refine lv_aload_n hx hb dX5_seekQuestion_13 rfl (lv_at hl 0 rfl) ?_
  refine x_get S hK hP 0 rfl cfX5 4 lkX5_55 (by decide) rfl dX5_seekQuestion_14 ?_
  refine x_put (ws' := [((o 11), .inr (5, [.ref (o 3), .ref (o 10), .ref (o 6), .ref (o 80), .int (nI (u_2.2.1 0)), .int (-1), .int (nI (u_2.2.1 0))])), ((o 80), .inl (k 5, 12, .inr (.inr (.inr (.inr (fun i => if i < 12 then some (rh i) else none)))))), ((rh 0), .inl (k 0, 17, .inl (u_2.2.2.1 1))), ((rh 1), .inl (k 0, 17, .inl (u_2.2.2.1 2))), ((rh 2), .inl (k 0, 17, .inl (u_2.2.2.1 5))), ((rh 3), .inl (k 0, 17, .inl (u_2.2.2.1 6))), ((rh 4), .inl (k 0, 17, .inl (u_2.2.2.1 7))), ((rh 5), .inl (k 0, 17, .inl (u_2.2.2.1 8))), ((rh 6), .inl (k 0, 17, .inl (u_2.2.2.1 9))), ((rh 7), .inl (k 0, 17, .inl (u_2.2.2.1 10))), ((rh 8), .inl (k 0, 17, .inl (u_2.2.2.1 11))), ((rh 9), .inl (k 0, 17, .inl (u_2.2.2.1 12))), ((rh 10), .inl (k 0, 17, .inl (u_2.2.2.1 3))), ((rh 11), .inl (k 0, 17, .inl (u_2.2.2.1 4))), ((o 10), .inr (6, [.ref (o 77), .ref (o 78), .ref (o 79)])), ((o 77), .inl (k 6, 4, .inr (.inr (.inr (.inr (fun i => if i < 4 then some (rn i) else none)))))), ((rn j), .inl (k 2, 60, .inr (.inl fnj))), ((o 78), .inl (k 0, 4, .inl f78)), ((o 79), .inl (k 0, 4, .inl f79)), ((o 6), .inr (1, [.ref (o 3), .ref (o 4), .int (u_2.1 0), .int (u_2.1 1), .int (u_2.1 2), .int (u_2.1 3), .int (u_2.1 4), .ref (o 73)])), ((o 73), .inl (k 0, 17, .inl (u_2.2.2.1 0))), ((o 4), .inr (3, [.ref (o 69), .ref (o 70), .ref (o 71)])), ((o 69), .inl (k 0, 17, .inl f69)), ((o 70), .inl (k 0, 17, .inl f70)), ((o 71), .inl (k 0, 17, .inl f71)), ((o 3), .inr (2, [.int glines, .int (nI ghours), .int glaw, .int godds, .int (nI grows), .int (nI gheads), .int (nI gsayings), .int (nI gslugs), .int (nI gacts), .ref (o 26), .ref (o 27), .ref (o 28), .ref (o 29), .ref (o 30), .ref (o 31), .ref (o 32), .ref (o 33), .ref (o 34), .ref (o 35)])), ((o 26), .inl (k 0, 12, .inl f26)), ((o 30), .inl (k 0, 12, .inl f30)), ((o 31), .inl (k 0, 12, .inl f31))]) S hK hP hD hS 0 rfl cfX5 6 lkX5_88 (by decide) rfl rfl rfl (Nat.le_of_ble_eq_true rfl) rfl dX5_seekQuestion_17 (fun H locs hP hD hS => ?_)
  refine lv_iconst (v := 0) hx hb dX5_seekQuestion_20 (by decide) ?_
  refine lv_istore_n (lv' := [(3, .int 0), (0, .ref (o 11)), (1, .int (nI j)), (2, .int p0)]) hx hb dX5_seekQuestion_21 rfl hl (by decide) rfl (fun ls hl => ?_)
  have lp_51 : ∀ (nn j_48 : Nat) (x_49 : Int32) (x_50 : Int32) (H : Heap) (locs : List Loc) (ls : Array Slot), j_48 ≤ gheads → gheads - j_48 < nn → va_P D vwCl [((o 11), .inr (5, [.ref (o 3), .ref (o 10), .ref (o 6), .ref (o 80), .int (nI (u_2.2.1 0)), .int x_49, .int x_50])), ((o 80), .inl (k 5, 12, .inr (.inr (.inr (.inr (fun i => if i < 12 then some (rh i) else none)))))), ((rh 0), .inl (k 0, 17, .inl (u_2.2.2.1 1))), ((rh 1), .inl (k 0, 17, .inl (u_2.2.2.1 2))), ((rh 2), .inl (k 0, 17, .inl (u_2.2.2.1 5))), ((rh 3), .inl (k 0, 17, .inl (u_2.2.2.1 6))), ((rh 4), .inl (k 0, 17, .inl (u_2.2.2.1 7))), ((rh 5), .inl (k 0, 17, .inl (u_2.2.2.1 8))), ((rh 6), .inl (k 0, 17, .inl (u_2.2.2.1 9))), ((rh 7), .inl (k 0, 17, .inl (u_2.2.2.1 10))), ((rh 8), .inl (k 0, 17, .inl (u_2.2.2.1 11))), ((rh 9), .inl (k 0, 17, .inl (u_2.2.2.1 12))), ((rh 10), .inl (k 0, 17, .inl (u_2.2.2.1 3))), ((rh 11), .inl (k 0, 17, .inl (u_2.2.2.1 4))), ((o 10), .inr (6, [.ref (o 77), .ref (o 78), .ref (o 79)])), ((o 77), .inl (k 6, 4, .inr (.inr (.inr (.inr (fun i => if i < 4 then some (rn i) else none)))))), ((rn j), .inl (k 2, 60, .inr (.inl fnj))), ((o 78), .inl (k 0, 4, .inl f78)), ((o 79), .inl (k 0, 4, .inl f79)), ((o 6), .inr (1, [.ref (o 3), .ref (o 4), .int (u_2.1 0), .int (u_2.1 1), .int (u_2.1 2), .int (u_2.1 3), .int (u_2.1 4), .ref (o 73)])), ((o 73), .inl (k 0, 17, .inl (u_2.2.2.1 0))), ((o 4), .inr (3, [.ref (o 69), .ref (o 70), .ref (o 71)])), ((o 69), .inl (k 0, 17, .inl f69)), ((o 70), .inl (k 0, 17, .inl f70)), ((o 71), .inl (k 0, 17, .inl f71)), ((o 3), .inr (2, [.int glines, .int (nI ghours), .int glaw, .int godds, .int (nI grows), .int (nI gheads), .int (nI gsayings), .int (nI gslugs), .int (nI gacts), .ref (o 26), .ref (o 27), .ref (o 28), .ref (o 29), .ref (o 30), .ref (o 31), .ref (o 32), .ref (o 33), .ref (o 34), .ref (o 35)])), ((o 26), .inl (k 0, 12, .inl f26)), ((o 30), .inl (k 0, 12, .inl f30)), ((o 31), .inl (k 0, 12, .inl f31))] H → va_D A [((o 11), .inr (5, [.ref (o 3), .ref (o 10), .ref (o 6), .ref (o 80), .int (nI (u_2.2.1 0)), .int x_49, .int x_50])), ((o 80), .inl (k 5, 12, .inr (.inr (.inr (.inr (fun i => if i < 12 then some (rh i) else none)))))), ((rh 0), .inl (k 0, 17, .inl (u_2.2.2.1 1))), ((rh 1), .inl (k 0, 17, .inl (u_2.2.2.1 2))), ((rh 2), .inl (k 0, 17, .inl (u_2.2.2.1 5))), ((rh 3), .inl (k 0, 17, .inl (u_2.2.2.1 6))), ((rh 4), .inl (k 0, 17, .inl (u_2.2.2.1 7))), ((rh 5), .inl (k 0, 17, .inl (u_2.2.2.1 8))), ((rh 6), .inl (k 0, 17, .inl (u_2.2.2.1 9))), ((rh 7), .inl (k 0, 17, .inl (u_2.2.2.1 10))), ((rh 8), .inl (k 0, 17, .inl (u_2.2.2.1 11))), ((rh 9), .inl (k 0, 17, .inl (u_2.2.2.1 12))), ((rh 10), .inl (k 0, 17, .inl (u_2.2.2.1 3))), ((rh 11), .inl (k 0, 17, .inl (u_2.2.2.1 4))), ((o 10), .inr (6, [.ref (o 77), .ref (o 78), .ref (o 79)])), ((o 77), .inl (k 6, 4, .inr (.inr (.inr (.inr (fun i => if i < 4 then some (rn i) else none)))))), ((rn j), .inl (k 2, 60, .inr (.inl fnj))), ((o 78), .inl (k 0, 4, .inl f78)), ((o 79), .inl (k 0, 4, .inl f79)), ((o 6), .inr (1, [.ref (o 3), .ref (o 4), .int (u_2.1 0), .int (u_2.1 1), .int (u_2.1 2), .int (u_2.1 3), .int (u_2.1 4), .ref (o 73)])), ((o 73), .inl (k 0, 17, .inl (u_2.2.2.1 0))), ((o 4), .inr (3, [.ref (o 69), .ref (o 70), .ref (o 71)])), ((o 69), .inl (k 0, 17, .inl f69)), ((o 70), .inl (k 0, 17, .inl f70)), ((o 71), .inl (k 0, 17, .inl f71)), ((o 3), .inr (2, [.int glines, .int (nI ghours), .int glaw, .int godds, .int (nI grows), .int (nI gheads), .int (nI gsayings), .int (nI gslugs), .int (nI gacts), .ref (o 26), .ref (o 27), .ref (o 28), .ref (o 29), .ref (o 30), .ref (o 31), .ref (o 32), .ref (o 33), .ref (o 34), .ref (o 35)])), ((o 26), .inl (k 0, 12, .inl f26)), ((o 30), .inl (k 0, 12, .inl f30)), ((o 31), .inl (k 0, 12, .inl f31))] → va_S A s.heap H locs → lv_has ls 6 [(3, .int (nI j_48)), (0, .ref (o 11)), (1, .int (nI j)), (2, .int p0)] → W p l e (Rm 5 0 0) s m args below meth c H locs 0 0 Q (F0 m 22 ls []) := by
    intro nn
    induction nn with
    | zero => intro j_48 x_49 x_50 H locs ls hjj_48 hnj_48; exact absurd hnj_48 (by omega)
    | succ nn ihj_48 =>
      intro j_48 x_49 x_50 H locs ls hjj_48 hnj_48 hP hD hS hl
      refine lv_iload_n hx hb dX5_seekQuestion_22 rfl (lv_at hl 0 rfl) ?_
      refine lv_aload_n hx hb dX5_seekQuestion_23 rfl (lv_at hl 1 rfl) ?_
      refine x_get S hK hP 0 rfl cfX5 0 lkX5_16 (by decide) rfl dX5_seekQuestion_24 ?_
      refine x_get S hK hP 25 rfl cfX2 5 lkX5_38 (by decide) rfl dX5_seekQuestion_27 ?_
      refine lv_icmp_ge (tgt := 95) hx hb dX5_seekQuestion_30 (by decide) (fun c_52 => ?_) (fun c_52 => ?_)
      · skip
        have c_52 : gheads ≤ j_48 := (ni_le rfl rfl (by omega) (by omega)).mp c_52
        exact x_retv S hr hlk hQ hS ((fun i => ([x_49, x_50, (u_2.1 0), (u_2.1 1), (u_2.1 2), (u_2.1 3), (u_2.1 4)] : List (Int32)).getD i 0), (fun i => ([u_2.2.1 0] : List (Nat)).getD i 0), (fun i => ([(u_2.2.2.1 0), (u_2.2.2.1 1), (u_2.2.2.1 2), (u_2.2.2.1 3), (u_2.2.2.1 4), (u_2.2.2.1 5), (u_2.2.2.1 6), (u_2.2.2.1 7), (u_2.2.2.1 8), (u_2.2.2.1 9), (u_2.2.2.1 10), (u_2.2.2.1 11), (u_2.2.2.1 12)] : List (Nat → Int32)).getD i (fun _ => 0)), (fun i => ([] : List (Nat → Int64)).getD i (fun _ => 0)), (fun i => ([] : List (Int64)).getD i 0)) (show u_2.2.1 0 ≤ 12 by omega) (x_B hP hD) dX5_seekQuestion_95
      · skip
        have c_52 : ¬ gheads ≤ j_48 := fun q => c_52 ((ni_le rfl rfl (by omega) (by omega)).mpr q)
        refine lv_iconst (v := 0) hx hb dX5_seekQuestion_33 (by decide) ?_
        refine lv_istore (lv' := [(4, .int 0), (3, .int (nI j_48)), (0, .ref (o 11)), (1, .int (nI j)), (2, .int p0)]) hx hb dX5_seekQuestion_34 hl (by decide) rfl (fun ls hl => ?_)
        have lp_66 : ∀ (nn j_63 : Nat) (x_64 : Int32) (x_65 : Int32) (H : Heap) (locs : List Loc) (ls : Array Slot), j_63 ≤ ghours + 1 → ghours + 1 - j_63 < nn → va_P D vwCl [((o 11), .inr (5, [.ref (o 3), .ref (o 10), .ref (o 6), .ref (o 80), .int (nI (u_2.2.1 0)), .int x_64, .int x_65])), ((o 80), .inl (k 5, 12, .inr (.inr (.inr (.inr (fun i => if i < 12 then some (rh i) else none)))))), ((rh 0), .inl (k 0, 17, .inl (u_2.2.2.1 1))), ((rh 1), .inl (k 0, 17, .inl (u_2.2.2.1 2))), ((rh 2), .inl (k 0, 17, .inl (u_2.2.2.1 5))), ((rh 3), .inl (k 0, 17, .inl (u_2.2.2.1 6))), ((rh 4), .inl (k 0, 17, .inl (u_2.2.2.1 7))), ((rh 5), .inl (k 0, 17, .inl (u_2.2.2.1 8))), ((rh 6), .inl (k 0, 17, .inl (u_2.2.2.1 9))), ((rh 7), .inl (k 0, 17, .inl (u_2.2.2.1 10))), ((rh 8), .inl (k 0, 17, .inl (u_2.2.2.1 11))), ((rh 9), .inl (k 0, 17, .inl (u_2.2.2.1 12))), ((rh 10), .inl (k 0, 17, .inl (u_2.2.2.1 3))), ((rh 11), .inl (k 0, 17, .inl (u_2.2.2.1 4))), ((o 10), .inr (6, [.ref (o 77), .ref (o 78), .ref (o 79)])), ((o 77), .inl (k 6, 4, .inr (.inr (.inr (.inr (fun i => if i < 4 then some (rn i) else none)))))), ((rn j), .inl (k 2, 60, .inr (.inl fnj))), ((o 78), .inl (k 0, 4, .inl f78)), ((o 79), .inl (k 0, 4, .inl f79)), ((o 6), .inr (1, [.ref (o 3), .ref (o 4), .int (u_2.1 0), .int (u_2.1 1), .int (u_2.1 2), .int (u_2.1 3), .int (u_2.1 4), .ref (o 73)])), ((o 73), .inl (k 0, 17, .inl (u_2.2.2.1 0))), ((o 4), .inr (3, [.ref (o 69), .ref (o 70), .ref (o 71)])), ((o 69), .inl (k 0, 17, .inl f69)), ((o 70), .inl (k 0, 17, .inl f70)), ((o 71), .inl (k 0, 17, .inl f71)), ((o 3), .inr (2, [.int glines, .int (nI ghours), .int glaw, .int godds, .int (nI grows), .int (nI gheads), .int (nI gsayings), .int (nI gslugs), .int (nI gacts), .ref (o 26), .ref (o 27), .ref (o 28), .ref (o 29), .ref (o 30), .ref (o 31), .ref (o 32), .ref (o 33), .ref (o 34), .ref (o 35)])), ((o 26), .inl (k 0, 12, .inl f26)), ((o 30), .inl (k 0, 12, .inl f30)), ((o 31), .inl (k 0, 12, .inl f31))] H → va_D A [((o 11), .inr (5, [.ref (o 3), .ref (o 10), .ref (o 6), .ref (o 80), .int (nI (u_2.2.1 0)), .int x_64, .int x_65])), ((o 80), .inl (k 5, 12, .inr (.inr (.inr (.inr (fun i => if i < 12 then some (rh i) else none)))))), ((rh 0), .inl (k 0, 17, .inl (u_2.2.2.1 1))), ((rh 1), .inl (k 0, 17, .inl (u_2.2.2.1 2))), ((rh 2), .inl (k 0, 17, .inl (u_2.2.2.1 5))), ((rh 3), .inl (k 0, 17, .inl (u_2.2.2.1 6))), ((rh 4), .inl (k 0, 17, .inl (u_2.2.2.1 7))), ((rh 5), .inl (k 0, 17, .inl (u_2.2.2.1 8))), ((rh 6), .inl (k 0, 17, .inl (u_2.2.2.1 9))), ((rh 7), .inl (k 0, 17, .inl (u_2.2.2.1 10))), ((rh 8), .inl (k 0, 17, .inl (u_2.2.2.1 11))), ((rh 9), .inl (k 0, 17, .inl (u_2.2.2.1 12))), ((rh 10), .inl (k 0, 17, .inl (u_2.2.2.1 3))), ((rh 11), .inl (k 0, 17, .inl (u_2.2.2.1 4))), ((o 10), .inr (6, [.ref (o 77), .ref (o 78), .ref (o 79)])), ((o 77), .inl (k 6, 4, .inr (.inr (.inr (.inr (fun i => if i < 4 then some (rn i) else none)))))), ((rn j), .inl (k 2, 60, .inr (.inl fnj))), ((o 78), .inl (k 0, 4, .inl f78)), ((o 79), .inl (k 0, 4, .inl f79)), ((o 6), .inr (1, [.ref (o 3), .ref (o 4), .int (u_2.1 0), .int (u_2.1 1), .int (u_2.1 2), .int (u_2.1 3), .int (u_2.1 4), .ref (o 73)])), ((o 73), .inl (k 0, 17, .inl (u_2.2.2.1 0))), ((o 4), .inr (3, [.ref (o 69), .ref (o 70), .ref (o 71)])), ((o 69), .inl (k 0, 17, .inl f69)), ((o 70), .inl (k 0, 17, .inl f70)), ((o 71), .inl (k 0, 17, .inl f71)), ((o 3), .inr (2, [.int glines, .int (nI ghours), .int glaw, .int godds, .int (nI grows), .int (nI gheads), .int (nI gsayings), .int (nI gslugs), .int (nI gacts), .ref (o 26), .ref (o 27), .ref (o 28), .ref (o 29), .ref (o 30), .ref (o 31), .ref (o 32), .ref (o 33), .ref (o 34), .ref (o 35)])), ((o 26), .inl (k 0, 12, .inl f26)), ((o 30), .inl (k 0, 12, .inl f30)), ((o 31), .inl (k 0, 12, .inl f31))] → va_S A s.heap H locs → lv_has ls 6 [(4, .int (nI j_63)), (3, .int (nI j_48)), (0, .ref (o 11)), (1, .int (nI j)), (2, .int p0)] → W p l e (Rm 5 0 0) s m args below meth c H locs 0 0 Q (F0 m 36 ls []) := by
          intro nn
          induction nn with
          | zero => intro j_63 x_64 x_65 H locs ls hjj_63 hnj_63; exact absurd hnj_63 (by omega)
          | succ nn ihj_63 =>
            intro j_63 x_64 x_65 H locs ls hjj_63 hnj_63 hP hD hS hl
            refine lv_iload hx hb dX5_seekQuestion_36 (lv_at hl 0 rfl) ?_
            refine lv_aload_n hx hb dX5_seekQuestion_38 rfl (lv_at hl 2 rfl) ?_
            refine x_get S hK hP 0 rfl cfX5 0 lkX5_16 (by decide) rfl dX5_seekQuestion_39 ?_
            refine x_get S hK hP 25 rfl cfX2 1 lkX5_44 (by decide) rfl dX5_seekQuestion_42 ?_
            refine lv_icmp_gt (tgt := 89) hx hb dX5_seekQuestion_45 (by decide) (fun c_67 => ?_) (fun c_67 => ?_)
            · skip
              have c_67 : ghours < j_63 := (ni_lt rfl rfl (by omega) (by omega)).mp c_67
              refine lv_iinc (v := (nI (j_48 + 1))) (lv' := [(3, .int (nI (j_48 + 1))), (4, .int (nI j_63)), (0, .ref (o 11)), (1, .int (nI j)), (2, .int p0)]) hx hb dX5_seekQuestion_89 hl (k := 1) rfl (ni_inc _) (by decide) rfl (fun ls hl => ?_)
              refine lv_goto (tgt := 22) hx hb dX5_seekQuestion_92 (by decide) ?_
              exact ihj_48 (j_48 + 1) x_64 x_65 _ _ _ (by omega) (by omega) hP hD hS (lv_sub hl [0, 2, 3, 4] rfl)
            · skip
              have c_67 : ¬ ghours < j_63 := fun q => c_67 ((ni_lt rfl rfl (by omega) (by omega)).mpr q)
              refine lv_aload_n hx hb dX5_seekQuestion_48 rfl (lv_at hl 2 rfl) ?_
              refine lv_iload_n hx hb dX5_seekQuestion_49 rfl (lv_at hl 1 rfl) ?_
              refine lv_iload hx hb dX5_seekQuestion_50 (lv_at hl 0 rfl) ?_
              refine x_roVi (As := [.int (nI j_48), .int (nI j_63)]) S hK hP hD hZ (fun _ h => h) hA hS hA hl mwX5_leftAtWorst lkX5_91 (ctX5_leftAtWorst l D k z o (u_2.2.1 0) x_64 x_65 rh (u_2.2.2.1 1) (u_2.2.2.1 2) (u_2.2.2.1 5) (u_2.2.2.1 6) (u_2.2.2.1 7) (u_2.2.2.1 8) (u_2.2.2.1 9) (u_2.2.2.1 10) (u_2.2.2.1 11) (u_2.2.2.1 12) (u_2.2.2.1 3) (u_2.2.2.1 4) (nI j_48) j_63 (by omega) (by omega)) [0, 1, 2, 3, 4, 5, 6, 7, 8, 9, 10, 11, 12, 13] rfl (by decide) rfl rfl rfl rfl rfl ⟨Nat.le_of_ble_eq_true rfl, Nat.le_of_ble_eq_true rfl, Nat.le_of_ble_eq_true rfl⟩ dX5_seekQuestion_52 ⟨Nat.le_of_ble_eq_true rfl, Nat.le_of_ble_eq_true rfl⟩ (fun r_68 H locs hr_68 hP hS => ?_)
              refine lv_istore (lv' := [(5, .int r_68), (4, .int (nI j_63)), (3, .int (nI j_48)), (0, .ref (o 11)), (1, .int (nI j)), (2, .int p0)]) hx hb dX5_seekQuestion_55 hl (by decide) rfl (fun ls hl => ?_)
              refine lv_iload hx hb dX5_seekQuestion_57 (lv_at hl 0 rfl) ?_
              refine lv_aload_n hx hb dX5_seekQuestion_59 rfl (lv_at hl 3 rfl) ?_
              refine x_get S hK hP 0 rfl cfX5 6 lkX5_88 (by decide) rfl dX5_seekQuestion_60 ?_
              refine lv_icmp_ge (tgt := 83) hx hb dX5_seekQuestion_63 (by decide) (fun c_70 => ?_) (fun c_70 => ?_)
              · skip
                refine lv_iinc (v := (nI (j_63 + 1))) (lv' := [(4, .int (nI (j_63 + 1))), (5, .int r_68), (3, .int (nI j_48)), (0, .ref (o 11)), (1, .int (nI j)), (2, .int p0)]) hx hb dX5_seekQuestion_83 hl (k := 1) rfl (ni_inc _) (by decide) rfl (fun ls hl => ?_)
                refine lv_goto (tgt := 36) hx hb dX5_seekQuestion_86 (by decide) ?_
                exact ihj_63 (j_63 + 1) x_64 x_65 _ _ _ (by omega) (by omega) hP hD hS (lv_sub hl [0, 2, 3, 4, 5] rfl)
              · skip
                refine lv_aload_n hx hb dX5_seekQuestion_66 rfl (lv_at hl 3 rfl) ?_
                refine lv_iload hx hb dX5_seekQuestion_67 (lv_at hl 0 rfl) ?_
                refine x_put (ws' := [((o 11), .inr (5, [.ref (o 3), .ref (o 10), .ref (o 6), .ref (o 80), .int (nI (u_2.2.1 0)), .int x_64, .int r_68])), ((o 80), .inl (k 5, 12, .inr (.inr (.inr (.inr (fun i => if i < 12 then some (rh i) else none)))))), ((rh 0), .inl (k 0, 17, .inl (u_2.2.2.1 1))), ((rh 1), .inl (k 0, 17, .inl (u_2.2.2.1 2))), ((rh 2), .inl (k 0, 17, .inl (u_2.2.2.1 5))), ((rh 3), .inl (k 0, 17, .inl (u_2.2.2.1 6))), ((rh 4), .inl (k 0, 17, .inl (u_2.2.2.1 7))), ((rh 5), .inl (k 0, 17, .inl (u_2.2.2.1 8))), ((rh 6), .inl (k 0, 17, .inl (u_2.2.2.1 9))), ((rh 7), .inl (k 0, 17, .inl (u_2.2.2.1 10))), ((rh 8), .inl (k 0, 17, .inl (u_2.2.2.1 11))), ((rh 9), .inl (k 0, 17, .inl (u_2.2.2.1 12))), ((rh 10), .inl (k 0, 17, .inl (u_2.2.2.1 3))), ((rh 11), .inl (k 0, 17, .inl (u_2.2.2.1 4))), ((o 10), .inr (6, [.ref (o 77), .ref (o 78), .ref (o 79)])), ((o 77), .inl (k 6, 4, .inr (.inr (.inr (.inr (fun i => if i < 4 then some (rn i) else none)))))), ((rn j), .inl (k 2, 60, .inr (.inl fnj))), ((o 78), .inl (k 0, 4, .inl f78)), ((o 79), .inl (k 0, 4, .inl f79)), ((o 6), .inr (1, [.ref (o 3), .ref (o 4), .int (u_2.1 0), .int (u_2.1 1), .int (u_2.1 2), .int (u_2.1 3), .int (u_2.1 4), .ref (o 73)])), ((o 73), .inl (k 0, 17, .inl (u_2.2.2.1 0))), ((o 4), .inr (3, [.ref (o 69), .ref (o 70), .ref (o 71)])), ((o 69), .inl (k 0, 17, .inl f69)), ((o 70), .inl (k 0, 17, .inl f70)), ((o 71), .inl (k 0, 17, .inl f71)), ((o 3), .inr (2, [.int glines, .int (nI ghours), .int glaw, .int godds, .int (nI grows), .int (nI gheads), .int (nI gsayings), .int (nI gslugs), .int (nI gacts), .ref (o 26), .ref (o 27), .ref (o 28), .ref (o 29), .ref (o 30), .ref (o 31), .ref (o 32), .ref (o 33), .ref (o 34), .ref (o 35)])), ((o 26), .inl (k 0, 12, .inl f26)), ((o 30), .inl (k 0, 12, .inl f30)), ((o 31), .inl (k 0, 12, .inl f31))]) S hK hP hD hS 0 rfl cfX5 6 lkX5_88 (by decide) rfl rfl rfl (Nat.le_of_ble_eq_true rfl) rfl dX5_seekQuestion_69 (fun H locs hP hD hS => ?_)
                refine lv_aload_n hx hb dX5_seekQuestion_72 rfl (lv_at hl 3 rfl) ?_
                refine lv_bipush (v := 100) hx hb dX5_seekQuestion_73 (by decide) ?_
                refine lv_iload_n hx hb dX5_seekQuestion_75 rfl (lv_at hl 2 rfl) ?_
                refine lv_imul hx hb dX5_seekQuestion_76 ?_
                refine x_is (nI (100 * j_48)) (ni_mul (by decide) rfl) ?_
                refine lv_iload hx hb dX5_seekQuestion_77 (lv_at hl 1 rfl) ?_
                refine lv_iadd hx hb dX5_seekQuestion_79 ?_
                refine x_is (nI (100 * j_48 + j_63)) (ni_add rfl rfl) ?_
                refine x_put (ws' := [((o 11), .inr (5, [.ref (o 3), .ref (o 10), .ref (o 6), .ref (o 80), .int (nI (u_2.2.1 0)), .int (nI (100 * j_48 + j_63)), .int r_68])), ((o 80), .inl (k 5, 12, .inr (.inr (.inr (.inr (fun i => if i < 12 then some (rh i) else none)))))), ((rh 0), .inl (k 0, 17, .inl (u_2.2.2.1 1))), ((rh 1), .inl (k 0, 17, .inl (u_2.2.2.1 2))), ((rh 2), .inl (k 0, 17, .inl (u_2.2.2.1 5))), ((rh 3), .inl (k 0, 17, .inl (u_2.2.2.1 6))), ((rh 4), .inl (k 0, 17, .inl (u_2.2.2.1 7))), ((rh 5), .inl (k 0, 17, .inl (u_2.2.2.1 8))), ((rh 6), .inl (k 0, 17, .inl (u_2.2.2.1 9))), ((rh 7), .inl (k 0, 17, .inl (u_2.2.2.1 10))), ((rh 8), .inl (k 0, 17, .inl (u_2.2.2.1 11))), ((rh 9), .inl (k 0, 17, .inl (u_2.2.2.1 12))), ((rh 10), .inl (k 0, 17, .inl (u_2.2.2.1 3))), ((rh 11), .inl (k 0, 17, .inl (u_2.2.2.1 4))), ((o 10), .inr (6, [.ref (o 77), .ref (o 78), .ref (o 79)])), ((o 77), .inl (k 6, 4, .inr (.inr (.inr (.inr (fun i => if i < 4 then some (rn i) else none)))))), ((rn j), .inl (k 2, 60, .inr (.inl fnj))), ((o 78), .inl (k 0, 4, .inl f78)), ((o 79), .inl (k 0, 4, .inl f79)), ((o 6), .inr (1, [.ref (o 3), .ref (o 4), .int (u_2.1 0), .int (u_2.1 1), .int (u_2.1 2), .int (u_2.1 3), .int (u_2.1 4), .ref (o 73)])), ((o 73), .inl (k 0, 17, .inl (u_2.2.2.1 0))), ((o 4), .inr (3, [.ref (o 69), .ref (o 70), .ref (o 71)])), ((o 69), .inl (k 0, 17, .inl f69)), ((o 70), .inl (k 0, 17, .inl f70)), ((o 71), .inl (k 0, 17, .inl f71)), ((o 3), .inr (2, [.int glines, .int (nI ghours), .int glaw, .int godds, .int (nI grows), .int (nI gheads), .int (nI gsayings), .int (nI gslugs), .int (nI gacts), .ref (o 26), .ref (o 27), .ref (o 28), .ref (o 29), .ref (o 30), .ref (o 31), .ref (o 32), .ref (o 33), .ref (o 34), .ref (o 35)])), ((o 26), .inl (k 0, 12, .inl f26)), ((o 30), .inl (k 0, 12, .inl f30)), ((o 31), .inl (k 0, 12, .inl f31))]) S hK hP hD hS 0 rfl cfX5 5 lkX5_85 (by decide) rfl rfl rfl (Nat.le_of_ble_eq_true rfl) rfl dX5_seekQuestion_80 (fun H locs hP hD hS => ?_)
                refine lv_iinc (v := (nI (j_63 + 1))) (lv' := [(4, .int (nI (j_63 + 1))), (5, .int r_68), (3, .int (nI j_48)), (0, .ref (o 11)), (1, .int (nI j)), (2, .int p0)]) hx hb dX5_seekQuestion_83 hl (k := 1) rfl (ni_inc _) (by decide) rfl (fun ls hl => ?_)
                refine lv_goto (tgt := 36) hx hb dX5_seekQuestion_86 (by decide) ?_
                exact ihj_63 (j_63 + 1) (nI (100 * j_48 + j_63)) r_68 _ _ _ (by omega) (by omega) hP hD hS (lv_sub hl [0, 2, 3, 4, 5] rfl)
        exact lp_66 (ghours + 1 + 1) 0 x_49 x_50 _ _ _ (by omega) (by omega) hP hD hS (lv_sub hl [0, 1, 2, 3, 4] rfl)
  exact lp_51 (gheads + 1) 0 (-1) (nI (u_2.2.1 0)) _ _ _ (by omega) (by omega) hP hD hS (lv_sub hl [0, 1, 2, 3] rfl)

