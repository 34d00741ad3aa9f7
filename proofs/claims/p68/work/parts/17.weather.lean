theorem dX9_weightOfAll_0 : decode cX9_weightOfAll 0 = .ok (.lconst 1, 1) := by decide +kernel
theorem dX9_weightOfAll_1 : decode cX9_weightOfAll 1 = .ok (.lstore_n 2, 1) := by decide +kernel
theorem dX9_weightOfAll_2 : decode cX9_weightOfAll 2 = .ok (.iconst 0, 1) := by decide +kernel
theorem dX9_weightOfAll_3 : decode cX9_weightOfAll 3 = .ok (.istore 4, 2) := by decide +kernel
theorem dX9_weightOfAll_5 : decode cX9_weightOfAll 5 = .ok (.iload 4, 2) := by decide +kernel
theorem dX9_weightOfAll_7 : decode cX9_weightOfAll 7 = .ok (.iload_n 1, 1) := by decide +kernel
theorem dX9_weightOfAll_8 : decode cX9_weightOfAll 8 = .ok (.if_icmp .gt 15, 3) := by decide +kernel
theorem dX9_weightOfAll_11 : decode cX9_weightOfAll 11 = .ok (.lload_n 2, 1) := by decide +kernel
theorem dX9_weightOfAll_12 : decode cX9_weightOfAll 12 = .ok (.ldc2_w 36, 3) := by decide +kernel
theorem dX9_weightOfAll_15 : decode cX9_weightOfAll 15 = .ok (.lmul, 1) := by decide +kernel
theorem dX9_weightOfAll_16 : decode cX9_weightOfAll 16 = .ok (.lstore_n 2, 1) := by decide +kernel
theorem dX9_weightOfAll_17 : decode cX9_weightOfAll 17 = .ok (.iinc 4 1, 3) := by decide +kernel
theorem dX9_weightOfAll_20 : decode cX9_weightOfAll 20 = .ok (.goto (-15), 3) := by decide +kernel
theorem dX9_weightOfAll_23 : decode cX9_weightOfAll 23 = .ok (.lload_n 2, 1) := by decide +kernel
theorem dX9_weightOfAll_24 : decode cX9_weightOfAll 24 = .ok (.lreturn, 1) := by decide +kernel
theorem dX9_addNext_0 : decode cX9_addNext 0 = .ok (.lload_n 2, 1) := by decide +kernel
theorem dX9_addNext_1 : decode cX9_addNext 1 = .ok (.lconst 0, 1) := by decide +kernel
theorem dX9_addNext_2 : decode cX9_addNext 2 = .ok (.lcmp, 1) := by decide +kernel
theorem dX9_addNext_3 : decode cX9_addNext 3 = .ok (.ifCond .ne 4, 3) := by decide +kernel
theorem dX9_addNext_6 : decode cX9_addNext 6 = .ok (.return_, 1) := by decide +kernel
theorem dX9_addNext_7 : decode cX9_addNext 7 = .ok (.iconst 0, 1) := by decide +kernel
theorem dX9_addNext_8 : decode cX9_addNext 8 = .ok (.istore 4, 2) := by decide +kernel
theorem dX9_addNext_10 : decode cX9_addNext 10 = .ok (.iload 4, 2) := by decide +kernel
theorem dX9_addNext_12 : decode cX9_addNext 12 = .ok (.aload_n 0, 1) := by decide +kernel
theorem dX9_addNext_13 : decode cX9_addNext 13 = .ok (.getfield 62, 3) := by decide +kernel
theorem dX9_addNext_16 : decode cX9_addNext 16 = .ok (.if_icmp .ge 32, 3) := by decide +kernel
theorem dX9_addNext_19 : decode cX9_addNext 19 = .ok (.aload_n 0, 1) := by decide +kernel
theorem dX9_addNext_20 : decode cX9_addNext 20 = .ok (.getfield 19, 3) := by decide +kernel
theorem dX9_addNext_23 : decode cX9_addNext 23 = .ok (.iload 4, 2) := by decide +kernel
theorem dX9_addNext_25 : decode cX9_addNext 25 = .ok (.iaload, 1) := by decide +kernel
theorem dX9_addNext_26 : decode cX9_addNext 26 = .ok (.iload_n 1, 1) := by decide +kernel
theorem dX9_addNext_27 : decode cX9_addNext 27 = .ok (.if_icmp .ne 15, 3) := by decide +kernel
theorem dX9_addNext_30 : decode cX9_addNext 30 = .ok (.aload_n 0, 1) := by decide +kernel
theorem dX9_addNext_31 : decode cX9_addNext 31 = .ok (.getfield 22, 3) := by decide +kernel
theorem dX9_addNext_34 : decode cX9_addNext 34 = .ok (.iload 4, 2) := by decide +kernel
theorem dX9_addNext_36 : decode cX9_addNext 36 = .ok (.dup2, 1) := by decide +kernel
theorem dX9_addNext_37 : decode cX9_addNext 37 = .ok (.laload, 1) := by decide +kernel
theorem dX9_addNext_38 : decode cX9_addNext 38 = .ok (.lload_n 2, 1) := by decide +kernel
theorem dX9_addNext_39 : decode cX9_addNext 39 = .ok (.ladd, 1) := by decide +kernel
theorem dX9_addNext_40 : decode cX9_addNext 40 = .ok (.lastore, 1) := by decide +kernel
theorem dX9_addNext_41 : decode cX9_addNext 41 = .ok (.return_, 1) := by decide +kernel
theorem dX9_addNext_42 : decode cX9_addNext 42 = .ok (.iinc 4 1, 3) := by decide +kernel
theorem dX9_addNext_45 : decode cX9_addNext 45 = .ok (.goto (-35), 3) := by decide +kernel
theorem dX9_addNext_48 : decode cX9_addNext 48 = .ok (.aload_n 0, 1) := by decide +kernel
theorem dX9_addNext_49 : decode cX9_addNext 49 = .ok (.getfield 62, 3) := by decide +kernel
theorem dX9_addNext_52 : decode cX9_addNext 52 = .ok (.sipush 256, 3) := by decide +kernel
theorem dX9_addNext_55 : decode cX9_addNext 55 = .ok (.if_icmp .ge 33, 3) := by decide +kernel
theorem dX9_addNext_58 : decode cX9_addNext 58 = .ok (.aload_n 0, 1) := by decide +kernel
theorem dX9_addNext_59 : decode cX9_addNext 59 = .ok (.getfield 19, 3) := by decide +kernel
theorem dX9_addNext_62 : decode cX9_addNext 62 = .ok (.aload_n 0, 1) := by decide +kernel
theorem dX9_addNext_63 : decode cX9_addNext 63 = .ok (.getfield 62, 3) := by decide +kernel
theorem dX9_addNext_66 : decode cX9_addNext 66 = .ok (.iload_n 1, 1) := by decide +kernel
theorem dX9_addNext_67 : decode cX9_addNext 67 = .ok (.iastore, 1) := by decide +kernel
theorem dX9_addNext_68 : decode cX9_addNext 68 = .ok (.aload_n 0, 1) := by decide +kernel
theorem dX9_addNext_69 : decode cX9_addNext 69 = .ok (.getfield 22, 3) := by decide +kernel
theorem dX9_addNext_72 : decode cX9_addNext 72 = .ok (.aload_n 0, 1) := by decide +kernel
theorem dX9_addNext_73 : decode cX9_addNext 73 = .ok (.getfield 62, 3) := by decide +kernel
theorem dX9_addNext_76 : decode cX9_addNext 76 = .ok (.lload_n 2, 1) := by decide +kernel
theorem dX9_addNext_77 : decode cX9_addNext 77 = .ok (.lastore, 1) := by decide +kernel
theorem dX9_addNext_78 : decode cX9_addNext 78 = .ok (.aload_n 0, 1) := by decide +kernel
theorem dX9_addNext_79 : decode cX9_addNext 79 = .ok (.dup, 1) := by decide +kernel
theorem dX9_addNext_80 : decode cX9_addNext 80 = .ok (.getfield 62, 3) := by decide +kernel
theorem dX9_addNext_83 : decode cX9_addNext 83 = .ok (.iconst 1, 1) := by decide +kernel
theorem dX9_addNext_84 : decode cX9_addNext 84 = .ok (.iadd, 1) := by decide +kernel
theorem dX9_addNext_85 : decode cX9_addNext 85 = .ok (.putfield 62, 3) := by decide +kernel
theorem dX9_addNext_88 : decode cX9_addNext 88 = .ok (.return_, 1) := by decide +kernel
theorem dX9_spread_0 : decode cX9_spread 0 = .ok (.aload_n 0, 1) := by decide +kernel
theorem dX9_spread_1 : decode cX9_spread 1 = .ok (.getfield 11, 3) := by decide +kernel
theorem dX9_spread_4 : decode cX9_spread 4 = .ok (.iconst 0, 1) := by decide +kernel
theorem dX9_spread_5 : decode cX9_spread 5 = .ok (.aload_n 0, 1) := by decide +kernel
theorem dX9_spread_6 : decode cX9_spread 6 = .ok (.getfield 29, 3) := by decide +kernel
theorem dX9_spread_9 : decode cX9_spread 9 = .ok (.getfield 59, 3) := by decide +kernel
theorem dX9_spread_12 : decode cX9_spread 12 = .ok (.iconst 0, 1) := by decide +kernel
theorem dX9_spread_13 : decode cX9_spread 13 = .ok (.iaload, 1) := by decide +kernel
theorem dX9_spread_14 : decode cX9_spread 14 = .ok (.iastore, 1) := by decide +kernel
theorem dX9_spread_15 : decode cX9_spread 15 = .ok (.aload_n 0, 1) := by decide +kernel
theorem dX9_spread_16 : decode cX9_spread 16 = .ok (.getfield 15, 3) := by decide +kernel
theorem dX9_spread_19 : decode cX9_spread 19 = .ok (.iconst 0, 1) := by decide +kernel
theorem dX9_spread_20 : decode cX9_spread 20 = .ok (.lconst 1, 1) := by decide +kernel
theorem dX9_spread_21 : decode cX9_spread 21 = .ok (.lastore, 1) := by decide +kernel
theorem dX9_spread_22 : decode cX9_spread 22 = .ok (.aload_n 0, 1) := by decide +kernel
theorem dX9_spread_23 : decode cX9_spread 23 = .ok (.iconst 1, 1) := by decide +kernel
theorem dX9_spread_24 : decode cX9_spread 24 = .ok (.putfield 42, 3) := by decide +kernel
theorem dX9_spread_27 : decode cX9_spread 27 = .ok (.iconst 0, 1) := by decide +kernel
theorem dX9_spread_28 : decode cX9_spread 28 = .ok (.istore_n 2, 1) := by decide +kernel
theorem dX9_spread_29 : decode cX9_spread 29 = .ok (.iload_n 2, 1) := by decide +kernel
theorem dX9_spread_30 : decode cX9_spread 30 = .ok (.iload_n 1, 1) := by decide +kernel
theorem dX9_spread_31 : decode cX9_spread 31 = .ok (.if_icmp .gt 182, 3) := by decide +kernel
theorem dX9_spread_34 : decode cX9_spread 34 = .ok (.iload_n 2, 1) := by decide +kernel
theorem dX9_spread_35 : decode cX9_spread 35 = .ok (.bipush 16, 2) := by decide +kernel
theorem dX9_spread_37 : decode cX9_spread 37 = .ok (.if_icmp .ge 176, 3) := by decide +kernel
theorem dX9_spread_40 : decode cX9_spread 40 = .ok (.aload_n 0, 1) := by decide +kernel
theorem dX9_spread_41 : decode cX9_spread 41 = .ok (.iconst 0, 1) := by decide +kernel
theorem dX9_spread_42 : decode cX9_spread 42 = .ok (.putfield 62, 3) := by decide +kernel
theorem dX9_spread_45 : decode cX9_spread 45 = .ok (.aload_n 0, 1) := by decide +kernel
theorem dX9_spread_46 : decode cX9_spread 46 = .ok (.getfield 29, 3) := by decide +kernel
theorem dX9_spread_49 : decode cX9_spread 49 = .ok (.iload_n 2, 1) := by decide +kernel
theorem dX9_spread_50 : decode cX9_spread 50 = .ok (.invokevirtual 65, 3) := by decide +kernel
theorem dX9_spread_53 : decode cX9_spread 53 = .ok (.istore_n 3, 1) := by decide +kernel
theorem dX9_spread_54 : decode cX9_spread 54 = .ok (.iconst 0, 1) := by decide +kernel
theorem dX9_spread_55 : decode cX9_spread 55 = .ok (.istore 4, 2) := by decide +kernel
theorem dX9_spread_57 : decode cX9_spread 57 = .ok (.iload 4, 2) := by decide +kernel
theorem dX9_spread_59 : decode cX9_spread 59 = .ok (.aload_n 0, 1) := by decide +kernel
theorem dX9_spread_60 : decode cX9_spread 60 = .ok (.getfield 42, 3) := by decide +kernel
theorem dX9_spread_63 : decode cX9_spread 63 = .ok (.if_icmp .ge 102, 3) := by decide +kernel
theorem dX9_spread_66 : decode cX9_spread 66 = .ok (.aload_n 0, 1) := by decide +kernel
theorem dX9_spread_67 : decode cX9_spread 67 = .ok (.getfield 29, 3) := by decide +kernel
theorem dX9_spread_70 : decode cX9_spread 70 = .ok (.iload_n 2, 1) := by decide +kernel
theorem dX9_spread_71 : decode cX9_spread 71 = .ok (.iconst 1, 1) := by decide +kernel
theorem dX9_spread_72 : decode cX9_spread 72 = .ok (.iadd, 1) := by decide +kernel
theorem dX9_spread_73 : decode cX9_spread 73 = .ok (.aload_n 0, 1) := by decide +kernel
theorem dX9_spread_74 : decode cX9_spread 74 = .ok (.getfield 29, 3) := by decide +kernel
theorem dX9_spread_77 : decode cX9_spread 77 = .ok (.iload_n 3, 1) := by decide +kernel
theorem dX9_spread_78 : decode cX9_spread 78 = .ok (.aload_n 0, 1) := by decide +kernel
theorem dX9_spread_79 : decode cX9_spread 79 = .ok (.getfield 11, 3) := by decide +kernel
theorem dX9_spread_82 : decode cX9_spread 82 = .ok (.iload 4, 2) := by decide +kernel
theorem dX9_spread_84 : decode cX9_spread 84 = .ok (.iaload, 1) := by decide +kernel
theorem dX9_spread_85 : decode cX9_spread 85 = .ok (.invokevirtual 68, 3) := by decide +kernel
theorem dX9_spread_88 : decode cX9_spread 88 = .ok (.invokevirtual 71, 3) := by decide +kernel
theorem dX9_spread_91 : decode cX9_spread 91 = .ok (.istore 5, 2) := by decide +kernel
theorem dX9_spread_93 : decode cX9_spread 93 = .ok (.aload_n 0, 1) := by decide +kernel
theorem dX9_spread_94 : decode cX9_spread 94 = .ok (.getfield 29, 3) := by decide +kernel
theorem dX9_spread_97 : decode cX9_spread 97 = .ok (.iload_n 2, 1) := by decide +kernel
theorem dX9_spread_98 : decode cX9_spread 98 = .ok (.iconst 1, 1) := by decide +kernel
theorem dX9_spread_99 : decode cX9_spread 99 = .ok (.iadd, 1) := by decide +kernel
theorem dX9_spread_100 : decode cX9_spread 100 = .ok (.aload_n 0, 1) := by decide +kernel
theorem dX9_spread_101 : decode cX9_spread 101 = .ok (.getfield 11, 3) := by decide +kernel
theorem dX9_spread_104 : decode cX9_spread 104 = .ok (.iload 4, 2) := by decide +kernel
theorem dX9_spread_106 : decode cX9_spread 106 = .ok (.iaload, 1) := by decide +kernel
theorem dX9_spread_107 : decode cX9_spread 107 = .ok (.invokevirtual 71, 3) := by decide +kernel
theorem dX9_spread_110 : decode cX9_spread 110 = .ok (.istore 6, 2) := by decide +kernel
theorem dX9_spread_112 : decode cX9_spread 112 = .ok (.aload_n 0, 1) := by decide +kernel
theorem dX9_spread_113 : decode cX9_spread 113 = .ok (.iload 5, 2) := by decide +kernel
theorem dX9_spread_115 : decode cX9_spread 115 = .ok (.aload_n 0, 1) := by decide +kernel
theorem dX9_spread_116 : decode cX9_spread 116 = .ok (.getfield 15, 3) := by decide +kernel
theorem dX9_spread_119 : decode cX9_spread 119 = .ok (.iload 4, 2) := by decide +kernel
theorem dX9_spread_121 : decode cX9_spread 121 = .ok (.laload, 1) := by decide +kernel
theorem dX9_spread_122 : decode cX9_spread 122 = .ok (.bipush 10, 2) := by decide +kernel
theorem dX9_spread_124 : decode cX9_spread 124 = .ok (.aload_n 0, 1) := by decide +kernel
theorem dX9_spread_125 : decode cX9_spread 125 = .ok (.getfield 25, 3) := by decide +kernel
theorem dX9_spread_128 : decode cX9_spread 128 = .ok (.getfield 74, 3) := by decide +kernel
theorem dX9_spread_131 : decode cX9_spread 131 = .ok (.isub, 1) := by decide +kernel
theorem dX9_spread_132 : decode cX9_spread 132 = .ok (.i2l, 1) := by decide +kernel
theorem dX9_spread_133 : decode cX9_spread 133 = .ok (.lmul, 1) := by decide +kernel
theorem dX9_spread_134 : decode cX9_spread 134 = .ok (.invokevirtual 79, 3) := by decide +kernel
theorem dX9_spread_137 : decode cX9_spread 137 = .ok (.aload_n 0, 1) := by decide +kernel
theorem dX9_spread_138 : decode cX9_spread 138 = .ok (.iload 6, 2) := by decide +kernel
theorem dX9_spread_140 : decode cX9_spread 140 = .ok (.aload_n 0, 1) := by decide +kernel
theorem dX9_spread_141 : decode cX9_spread 141 = .ok (.getfield 15, 3) := by decide +kernel
theorem dX9_spread_144 : decode cX9_spread 144 = .ok (.iload 4, 2) := by decide +kernel
theorem dX9_spread_146 : decode cX9_spread 146 = .ok (.laload, 1) := by decide +kernel
theorem dX9_spread_147 : decode cX9_spread 147 = .ok (.aload_n 0, 1) := by decide +kernel
theorem dX9_spread_148 : decode cX9_spread 148 = .ok (.getfield 25, 3) := by decide +kernel
theorem dX9_spread_151 : decode cX9_spread 151 = .ok (.getfield 74, 3) := by decide +kernel
theorem dX9_spread_154 : decode cX9_spread 154 = .ok (.i2l, 1) := by decide +kernel
theorem dX9_spread_155 : decode cX9_spread 155 = .ok (.lmul, 1) := by decide +kernel
theorem dX9_spread_156 : decode cX9_spread 156 = .ok (.invokevirtual 79, 3) := by decide +kernel
theorem dX9_spread_159 : decode cX9_spread 159 = .ok (.iinc 4 1, 3) := by decide +kernel
theorem dX9_spread_162 : decode cX9_spread 162 = .ok (.goto (-105), 3) := by decide +kernel
theorem dX9_spread_165 : decode cX9_spread 165 = .ok (.aload_n 0, 1) := by decide +kernel
theorem dX9_spread_166 : decode cX9_spread 166 = .ok (.getfield 19, 3) := by decide +kernel
theorem dX9_spread_169 : decode cX9_spread 169 = .ok (.iconst 0, 1) := by decide +kernel
theorem dX9_spread_170 : decode cX9_spread 170 = .ok (.aload_n 0, 1) := by decide +kernel
theorem dX9_spread_171 : decode cX9_spread 171 = .ok (.getfield 11, 3) := by decide +kernel
theorem dX9_spread_174 : decode cX9_spread 174 = .ok (.iconst 0, 1) := by decide +kernel
theorem dX9_spread_175 : decode cX9_spread 175 = .ok (.aload_n 0, 1) := by decide +kernel
theorem dX9_spread_176 : decode cX9_spread 176 = .ok (.getfield 62, 3) := by decide +kernel
theorem dX9_spread_179 : decode cX9_spread 179 = .ok (.invokestatic 83, 3) := by decide +kernel
theorem dX9_spread_182 : decode cX9_spread 182 = .ok (.aload_n 0, 1) := by decide +kernel
theorem dX9_spread_183 : decode cX9_spread 183 = .ok (.getfield 22, 3) := by decide +kernel
theorem dX9_spread_186 : decode cX9_spread 186 = .ok (.iconst 0, 1) := by decide +kernel
theorem dX9_spread_187 : decode cX9_spread 187 = .ok (.aload_n 0, 1) := by decide +kernel
theorem dX9_spread_188 : decode cX9_spread 188 = .ok (.getfield 15, 3) := by decide +kernel
theorem dX9_spread_191 : decode cX9_spread 191 = .ok (.iconst 0, 1) := by decide +kernel
theorem dX9_spread_192 : decode cX9_spread 192 = .ok (.aload_n 0, 1) := by decide +kernel
theorem dX9_spread_193 : decode cX9_spread 193 = .ok (.getfield 62, 3) := by decide +kernel
theorem dX9_spread_196 : decode cX9_spread 196 = .ok (.invokestatic 83, 3) := by decide +kernel
theorem dX9_spread_199 : decode cX9_spread 199 = .ok (.aload_n 0, 1) := by decide +kernel
theorem dX9_spread_200 : decode cX9_spread 200 = .ok (.aload_n 0, 1) := by decide +kernel
theorem dX9_spread_201 : decode cX9_spread 201 = .ok (.getfield 62, 3) := by decide +kernel
theorem dX9_spread_204 : decode cX9_spread 204 = .ok (.putfield 42, 3) := by decide +kernel
theorem dX9_spread_207 : decode cX9_spread 207 = .ok (.iinc 2 1, 3) := by decide +kernel
theorem dX9_spread_210 : decode cX9_spread 210 = .ok (.goto (-181), 3) := by decide +kernel
theorem dX9_spread_213 : decode cX9_spread 213 = .ok (.return_, 1) := by decide +kernel
theorem dX9_weightOfView_0 : decode cX9_weightOfView 0 = .ok (.aload_n 0, 1) := by decide +kernel
theorem dX9_weightOfView_1 : decode cX9_weightOfView 1 = .ok (.iload_n 3, 1) := by decide +kernel
theorem dX9_weightOfView_2 : decode cX9_weightOfView 2 = .ok (.invokevirtual 38, 3) := by decide +kernel
theorem dX9_weightOfView_5 : decode cX9_weightOfView 5 = .ok (.lconst 0, 1) := by decide +kernel
theorem dX9_weightOfView_6 : decode cX9_weightOfView 6 = .ok (.lstore 4, 2) := by decide +kernel
theorem dX9_weightOfView_8 : decode cX9_weightOfView 8 = .ok (.iconst 0, 1) := by decide +kernel
theorem dX9_weightOfView_9 : decode cX9_weightOfView 9 = .ok (.istore 6, 2) := by decide +kernel
theorem dX9_weightOfView_11 : decode cX9_weightOfView 11 = .ok (.iload 6, 2) := by decide +kernel
theorem dX9_weightOfView_13 : decode cX9_weightOfView 13 = .ok (.aload_n 0, 1) := by decide +kernel
theorem dX9_weightOfView_14 : decode cX9_weightOfView 14 = .ok (.getfield 42, 3) := by decide +kernel
theorem dX9_weightOfView_17 : decode cX9_weightOfView 17 = .ok (.if_icmp .ge 36, 3) := by decide +kernel
theorem dX9_weightOfView_20 : decode cX9_weightOfView 20 = .ok (.aload_n 0, 1) := by decide +kernel
theorem dX9_weightOfView_21 : decode cX9_weightOfView 21 = .ok (.getfield 11, 3) := by decide +kernel
theorem dX9_weightOfView_24 : decode cX9_weightOfView 24 = .ok (.iload 6, 2) := by decide +kernel
theorem dX9_weightOfView_26 : decode cX9_weightOfView 26 = .ok (.iaload, 1) := by decide +kernel
theorem dX9_weightOfView_27 : decode cX9_weightOfView 27 = .ok (.iload_n 1, 1) := by decide +kernel
theorem dX9_weightOfView_28 : decode cX9_weightOfView 28 = .ok (.invokestatic 46, 3) := by decide +kernel
theorem dX9_weightOfView_31 : decode cX9_weightOfView 31 = .ok (.iload_n 2, 1) := by decide +kernel
theorem dX9_weightOfView_32 : decode cX9_weightOfView 32 = .ok (.if_icmp .ne 15, 3) := by decide +kernel
theorem dX9_weightOfView_35 : decode cX9_weightOfView 35 = .ok (.lload 4, 2) := by decide +kernel
theorem dX9_weightOfView_37 : decode cX9_weightOfView 37 = .ok (.aload_n 0, 1) := by decide +kernel
theorem dX9_weightOfView_38 : decode cX9_weightOfView 38 = .ok (.getfield 15, 3) := by decide +kernel
theorem dX9_weightOfView_41 : decode cX9_weightOfView 41 = .ok (.iload 6, 2) := by decide +kernel
theorem dX9_weightOfView_43 : decode cX9_weightOfView 43 = .ok (.laload, 1) := by decide +kernel
theorem dX9_weightOfView_44 : decode cX9_weightOfView 44 = .ok (.ladd, 1) := by decide +kernel
theorem dX9_weightOfView_45 : decode cX9_weightOfView 45 = .ok (.lstore 4, 2) := by decide +kernel
theorem dX9_weightOfView_47 : decode cX9_weightOfView 47 = .ok (.iinc 6 1, 3) := by decide +kernel
theorem dX9_weightOfView_50 : decode cX9_weightOfView 50 = .ok (.goto (-39), 3) := by decide +kernel
theorem dX9_weightOfView_53 : decode cX9_weightOfView 53 = .ok (.lload 4, 2) := by decide +kernel
theorem dX9_weightOfView_55 : decode cX9_weightOfView 55 = .ok (.lreturn, 1) := by decide +kernel
theorem dX9_weightOfOnes_0 : decode cX9_weightOfOnes 0 = .ok (.aload_n 0, 1) := by decide +kernel
theorem dX9_weightOfOnes_1 : decode cX9_weightOfOnes 1 = .ok (.iload_n 1, 1) := by decide +kernel
theorem dX9_weightOfOnes_2 : decode cX9_weightOfOnes 2 = .ok (.invokevirtual 38, 3) := by decide +kernel
theorem dX9_weightOfOnes_5 : decode cX9_weightOfOnes 5 = .ok (.lconst 0, 1) := by decide +kernel
theorem dX9_weightOfOnes_6 : decode cX9_weightOfOnes 6 = .ok (.lstore_n 2, 1) := by decide +kernel
theorem dX9_weightOfOnes_7 : decode cX9_weightOfOnes 7 = .ok (.iconst 0, 1) := by decide +kernel
theorem dX9_weightOfOnes_8 : decode cX9_weightOfOnes 8 = .ok (.istore 4, 2) := by decide +kernel
theorem dX9_weightOfOnes_10 : decode cX9_weightOfOnes 10 = .ok (.iload 4, 2) := by decide +kernel
theorem dX9_weightOfOnes_12 : decode cX9_weightOfOnes 12 = .ok (.aload_n 0, 1) := by decide +kernel
theorem dX9_weightOfOnes_13 : decode cX9_weightOfOnes 13 = .ok (.getfield 42, 3) := by decide +kernel
theorem dX9_weightOfOnes_16 : decode cX9_weightOfOnes 16 = .ok (.if_icmp .ge 35, 3) := by decide +kernel
theorem dX9_weightOfOnes_19 : decode cX9_weightOfOnes 19 = .ok (.lload_n 2, 1) := by decide +kernel
theorem dX9_weightOfOnes_20 : decode cX9_weightOfOnes 20 = .ok (.aload_n 0, 1) := by decide +kernel
theorem dX9_weightOfOnes_21 : decode cX9_weightOfOnes 21 = .ok (.getfield 15, 3) := by decide +kernel
theorem dX9_weightOfOnes_24 : decode cX9_weightOfOnes 24 = .ok (.iload 4, 2) := by decide +kernel
theorem dX9_weightOfOnes_26 : decode cX9_weightOfOnes 26 = .ok (.laload, 1) := by decide +kernel
theorem dX9_weightOfOnes_27 : decode cX9_weightOfOnes 27 = .ok (.aload_n 0, 1) := by decide +kernel
theorem dX9_weightOfOnes_28 : decode cX9_weightOfOnes 28 = .ok (.getfield 11, 3) := by decide +kernel
theorem dX9_weightOfOnes_31 : decode cX9_weightOfOnes 31 = .ok (.iload 4, 2) := by decide +kernel
theorem dX9_weightOfOnes_33 : decode cX9_weightOfOnes 33 = .ok (.iaload, 1) := by decide +kernel
theorem dX9_weightOfOnes_34 : decode cX9_weightOfOnes 34 = .ok (.iconst 1, 1) := by decide +kernel
theorem dX9_weightOfOnes_35 : decode cX9_weightOfOnes 35 = .ok (.invokestatic 50, 3) := by decide +kernel
theorem dX9_weightOfOnes_38 : decode cX9_weightOfOnes 38 = .ok (.invokestatic 53, 3) := by decide +kernel
theorem dX9_weightOfOnes_41 : decode cX9_weightOfOnes 41 = .ok (.i2l, 1) := by decide +kernel
theorem dX9_weightOfOnes_42 : decode cX9_weightOfOnes 42 = .ok (.lmul, 1) := by decide +kernel
theorem dX9_weightOfOnes_43 : decode cX9_weightOfOnes 43 = .ok (.ladd, 1) := by decide +kernel
theorem dX9_weightOfOnes_44 : decode cX9_weightOfOnes 44 = .ok (.lstore_n 2, 1) := by decide +kernel
theorem dX9_weightOfOnes_45 : decode cX9_weightOfOnes 45 = .ok (.iinc 4 1, 3) := by decide +kernel
theorem dX9_weightOfOnes_48 : decode cX9_weightOfOnes 48 = .ok (.goto (-38), 3) := by decide +kernel
theorem dX9_weightOfOnes_51 : decode cX9_weightOfOnes 51 = .ok (.lload_n 2, 1) := by decide +kernel
theorem dX9_weightOfOnes_52 : decode cX9_weightOfOnes 52 = .ok (.lreturn, 1) := by decide +kernel
theorem dX9_drawnWet_0 : decode cX9_drawnWet 0 = .ok (.iload_n 1, 1) := by decide +kernel
theorem dX9_drawnWet_1 : decode cX9_drawnWet 1 = .ok (.i2l, 1) := by decide +kernel
theorem dX9_drawnWet_2 : decode cX9_drawnWet 2 = .ok (.lstore_n 2, 1) := by decide +kernel
theorem dX9_drawnWet_3 : decode cX9_drawnWet 3 = .ok (.iconst 0, 1) := by decide +kernel
theorem dX9_drawnWet_4 : decode cX9_drawnWet 4 = .ok (.istore 4, 2) := by decide +kernel
theorem dX9_drawnWet_6 : decode cX9_drawnWet 6 = .ok (.iconst 0, 1) := by decide +kernel
theorem dX9_drawnWet_7 : decode cX9_drawnWet 7 = .ok (.istore 5, 2) := by decide +kernel
theorem dX9_drawnWet_9 : decode cX9_drawnWet 9 = .ok (.iload 5, 2) := by decide +kernel
theorem dX9_drawnWet_11 : decode cX9_drawnWet 11 = .ok (.aload_n 0, 1) := by decide +kernel
theorem dX9_drawnWet_12 : decode cX9_drawnWet 12 = .ok (.getfield 25, 3) := by decide +kernel
theorem dX9_drawnWet_15 : decode cX9_drawnWet 15 = .ok (.getfield 89, 3) := by decide +kernel
theorem dX9_drawnWet_18 : decode cX9_drawnWet 18 = .ok (.if_icmp .ge 53, 3) := by decide +kernel
theorem dX9_drawnWet_21 : decode cX9_drawnWet 21 = .ok (.ldc2_w 92, 3) := by decide +kernel
theorem dX9_drawnWet_24 : decode cX9_drawnWet 24 = .ok (.lload_n 2, 1) := by decide +kernel
theorem dX9_drawnWet_25 : decode cX9_drawnWet 25 = .ok (.lmul, 1) := by decide +kernel
theorem dX9_drawnWet_26 : decode cX9_drawnWet 26 = .ok (.ldc2_w 94, 3) := by decide +kernel
theorem dX9_drawnWet_29 : decode cX9_drawnWet 29 = .ok (.ladd, 1) := by decide +kernel
theorem dX9_drawnWet_30 : decode cX9_drawnWet 30 = .ok (.ldc2_w 96, 3) := by decide +kernel
theorem dX9_drawnWet_33 : decode cX9_drawnWet 33 = .ok (.lrem, 1) := by decide +kernel
theorem dX9_drawnWet_34 : decode cX9_drawnWet 34 = .ok (.lstore_n 2, 1) := by decide +kernel
theorem dX9_drawnWet_35 : decode cX9_drawnWet 35 = .ok (.lload_n 2, 1) := by decide +kernel
theorem dX9_drawnWet_36 : decode cX9_drawnWet 36 = .ok (.ldc2_w 98, 3) := by decide +kernel
theorem dX9_drawnWet_39 : decode cX9_drawnWet 39 = .ok (.ldiv, 1) := by decide +kernel
theorem dX9_drawnWet_40 : decode cX9_drawnWet 40 = .ok (.ldc2_w 36, 3) := by decide +kernel
theorem dX9_drawnWet_43 : decode cX9_drawnWet 43 = .ok (.lrem, 1) := by decide +kernel
theorem dX9_drawnWet_44 : decode cX9_drawnWet 44 = .ok (.aload_n 0, 1) := by decide +kernel
theorem dX9_drawnWet_45 : decode cX9_drawnWet 45 = .ok (.getfield 25, 3) := by decide +kernel
theorem dX9_drawnWet_48 : decode cX9_drawnWet 48 = .ok (.getfield 74, 3) := by decide +kernel
theorem dX9_drawnWet_51 : decode cX9_drawnWet 51 = .ok (.i2l, 1) := by decide +kernel
theorem dX9_drawnWet_52 : decode cX9_drawnWet 52 = .ok (.lcmp, 1) := by decide +kernel
theorem dX9_drawnWet_53 : decode cX9_drawnWet 53 = .ok (.ifCond .ge 12, 3) := by decide +kernel
theorem dX9_drawnWet_56 : decode cX9_drawnWet 56 = .ok (.iload 4, 2) := by decide +kernel
theorem dX9_drawnWet_58 : decode cX9_drawnWet 58 = .ok (.iconst 1, 1) := by decide +kernel
theorem dX9_drawnWet_59 : decode cX9_drawnWet 59 = .ok (.iload 5, 2) := by decide +kernel
theorem dX9_drawnWet_61 : decode cX9_drawnWet 61 = .ok (.ishl, 1) := by decide +kernel
theorem dX9_drawnWet_62 : decode cX9_drawnWet 62 = .ok (.ior, 1) := by decide +kernel
theorem dX9_drawnWet_63 : decode cX9_drawnWet 63 = .ok (.istore 4, 2) := by decide +kernel
theorem dX9_drawnWet_65 : decode cX9_drawnWet 65 = .ok (.iinc 5 1, 3) := by decide +kernel
theorem dX9_drawnWet_68 : decode cX9_drawnWet 68 = .ok (.goto (-59), 3) := by decide +kernel
theorem dX9_drawnWet_71 : decode cX9_drawnWet 71 = .ok (.iload 4, 2) := by decide +kernel
theorem dX9_drawnWet_73 : decode cX9_drawnWet 73 = .ok (.ireturn, 1) := by decide +kernel
theorem dX9_luckySummers_0 : decode cX9_luckySummers 0 = .ok (.iconst 0, 1) := by decide +kernel
theorem dX9_luckySummers_1 : decode cX9_luckySummers 1 = .ok (.istore 5, 2) := by decide +kernel
theorem dX9_luckySummers_3 : decode cX9_luckySummers 3 = .ok (.iconst 0, 1) := by decide +kernel
theorem dX9_luckySummers_4 : decode cX9_luckySummers 4 = .ok (.istore 6, 2) := by decide +kernel
theorem dX9_luckySummers_6 : decode cX9_luckySummers 6 = .ok (.iload 6, 2) := by decide +kernel
theorem dX9_luckySummers_8 : decode cX9_luckySummers 8 = .ok (.iload_n 2, 1) := by decide +kernel
theorem dX9_luckySummers_9 : decode cX9_luckySummers 9 = .ok (.if_icmp .ge 54, 3) := by decide +kernel
theorem dX9_luckySummers_12 : decode cX9_luckySummers 12 = .ok (.aload_n 0, 1) := by decide +kernel
theorem dX9_luckySummers_13 : decode cX9_luckySummers 13 = .ok (.getfield 33, 3) := by decide +kernel
theorem dX9_luckySummers_16 : decode cX9_luckySummers 16 = .ok (.aload_n 0, 1) := by decide +kernel
theorem dX9_luckySummers_17 : decode cX9_luckySummers 17 = .ok (.iload_n 1, 1) := by decide +kernel
theorem dX9_luckySummers_18 : decode cX9_luckySummers 18 = .ok (.iload 6, 2) := by decide +kernel
theorem dX9_luckySummers_20 : decode cX9_luckySummers 20 = .ok (.iadd, 1) := by decide +kernel
theorem dX9_luckySummers_21 : decode cX9_luckySummers 21 = .ok (.invokevirtual 100, 3) := by decide +kernel
theorem dX9_luckySummers_24 : decode cX9_luckySummers 24 = .ok (.invokevirtual 103, 3) := by decide +kernel
theorem dX9_luckySummers_27 : decode cX9_luckySummers 27 = .ok (.aload_n 0, 1) := by decide +kernel
theorem dX9_luckySummers_28 : decode cX9_luckySummers 28 = .ok (.getfield 33, 3) := by decide +kernel
theorem dX9_luckySummers_31 : decode cX9_luckySummers 31 = .ok (.invokevirtual 106, 3) := by decide +kernel
theorem dX9_luckySummers_34 : decode cX9_luckySummers 34 = .ok (.aload_n 0, 1) := by decide +kernel
theorem dX9_luckySummers_35 : decode cX9_luckySummers 35 = .ok (.getfield 33, 3) := by decide +kernel
theorem dX9_luckySummers_38 : decode cX9_luckySummers 38 = .ok (.iload_n 3, 1) := by decide +kernel
theorem dX9_luckySummers_39 : decode cX9_luckySummers 39 = .ok (.aload_n 0, 1) := by decide +kernel
theorem dX9_luckySummers_40 : decode cX9_luckySummers 40 = .ok (.getfield 25, 3) := by decide +kernel
theorem dX9_luckySummers_43 : decode cX9_luckySummers 43 = .ok (.getfield 89, 3) := by decide +kernel
theorem dX9_luckySummers_46 : decode cX9_luckySummers 46 = .ok (.invokevirtual 109, 3) := by decide +kernel
theorem dX9_luckySummers_49 : decode cX9_luckySummers 49 = .ok (.iload 4, 2) := by decide +kernel
theorem dX9_luckySummers_51 : decode cX9_luckySummers 51 = .ok (.if_icmp .ne 6, 3) := by decide +kernel
theorem dX9_luckySummers_54 : decode cX9_luckySummers 54 = .ok (.iinc 5 1, 3) := by decide +kernel
theorem dX9_luckySummers_57 : decode cX9_luckySummers 57 = .ok (.iinc 6 1, 3) := by decide +kernel
theorem dX9_luckySummers_60 : decode cX9_luckySummers 60 = .ok (.goto (-54), 3) := by decide +kernel
theorem dX9_luckySummers_63 : decode cX9_luckySummers 63 = .ok (.iload 5, 2) := by decide +kernel
theorem dX9_luckySummers_65 : decode cX9_luckySummers 65 = .ok (.ireturn, 1) := by decide +kernel
set_option maxHeartbeats 4000000 in
set_option maxRecDepth 100000 in
theorem ctX9_weightOfAll (l : Launch) (D : va_G) (k : Nat → ClassId) (z : Nat → Nat) (o : Nat → Nat) (wsize : Nat) (wnext : Nat) (f81 : Nat → Int32) (f82 : Nat → Int64) (f83 : Nat → Int32) (f84 : Nat → Int64) (clawNow : Int32) (charder : Int32) (ctold : Int32) (creply : Int32) (cwet : Int32) (f72 : Nat → Int32) (f69 : Nat → Int32) (f70 : Nat → Int32) (f71 : Nat → Int32) (glines : Int32) (ghours : Nat) (glaw : Int32) (godds : Int32) (grows : Nat) (gheads : Nat) (gsayings : Nat) (gslugs : Nat) (gacts : Nat) (f26 : Nat → Int32) (f30 : Nat → Int32) (f31 : Nat → Int32) (p0 : Nat) (hwsize : wsize ≤ 256) (hwnext : wnext ≤ 256) (hghours : ghours ≤ 16) (hgrows : grows ≤ 4) (hgheads : gheads ≤ 12) (hgsayings : gsayings ≤ 8) (hgslugs : gslugs ≤ 4) (hgacts : gacts ≤ 30) (hp0 : p0 ≤ 16) : RO l yX9_weightOfAll cX9_weightOfAll 5 (some .long) 0 D k z [.ref (o 12), .int (nI p0)] [((o 12), .inr (9, [.ref (o 3), .ref (o 5), .ref (o 6), .ref (o 81), .ref (o 82), .int (nI wsize), .ref (o 83), .ref (o 84), .int (nI wnext)])), ((o 81), .inl (k 0, 256, .inl f81)), ((o 82), .inl (k 2, 256, .inr (.inl f82))), ((o 83), .inl (k 0, 256, .inl f83)), ((o 84), .inl (k 2, 256, .inr (.inl f84))), ((o 5), .inr (1, [.ref (o 3), .ref (o 4), .int clawNow, .int charder, .int ctold, .int creply, .int cwet, .ref (o 72)])), ((o 72), .inl (k 0, 17, .inl f72)), ((o 4), .inr (3, [.ref (o 69), .ref (o 70), .ref (o 71)])), ((o 69), .inl (k 0, 17, .inl f69)), ((o 70), .inl (k 0, 17, .inl f70)), ((o 71), .inl (k 0, 17, .inl f71)), ((o 3), .inr (2, [.int glines, .int (nI ghours), .int glaw, .int godds, .int (nI grows), .int (nI gheads), .int (nI gsayings), .int (nI gslugs), .int (nI gacts), .ref (o 26), .ref (o 27), .ref (o 28), .ref (o 29), .ref (o 30), .ref (o 31), .ref (o 32), .ref (o 33), .ref (o 34), .ref (o 35)])), ((o 26), .inl (k 0, 12, .inl f26)), ((o 30), .inl (k 0, 12, .inl f30)), ((o 31), .inl (k 0, 12, .inl f31))] (Ql (fun r : Int64 => True)) := by
  refine RO.of (by decide) (Nat.le_of_ble_eq_true rfl) ?_
  intro p e s m below meth c ls A B args Q S hr hlk hQ hK hP hDW hZ hAB hBA hA hS hl
  have hx := S.1
  have hb := S.2.1
  have hl : lv_has ls 5 [(0, .ref (o 12)), (1, .int (nI p0))] := hl
  refine lv_lconst (v := 1) hx hb dX9_weightOfAll_0 (by decide) ?_
  refine lv_lstore_n (lv' := [(2, .long 1), (0, .ref (o 12)), (1, .int (nI p0))]) hx hb dX9_weightOfAll_1 rfl hl (by decide) rfl (fun ls hl => ?_)
  refine lv_iconst (v := 0) hx hb dX9_weightOfAll_2 (by decide) ?_
  refine lv_istore (lv' := [(4, .int 0), (2, .long 1), (0, .ref (o 12)), (1, .int (nI p0))]) hx hb dX9_weightOfAll_3 hl (by decide) rfl (fun ls hl => ?_)
  have lp_10 : ∀ (nn j_8 : Nat) (x_9 : Int64) (H : Heap) (locs : List Loc) (ls : Array Slot), j_8 ≤ p0 + 1 → p0 + 1 - j_8 < nn → va_P D vwCl [((o 12), .inr (9, [.ref (o 3), .ref (o 5), .ref (o 6), .ref (o 81), .ref (o 82), .int (nI wsize), .ref (o 83), .ref (o 84), .int (nI wnext)])), ((o 81), .inl (k 0, 256, .inl f81)), ((o 82), .inl (k 2, 256, .inr (.inl f82))), ((o 83), .inl (k 0, 256, .inl f83)), ((o 84), .inl (k 2, 256, .inr (.inl f84))), ((o 5), .inr (1, [.ref (o 3), .ref (o 4), .int clawNow, .int charder, .int ctold, .int creply, .int cwet, .ref (o 72)])), ((o 72), .inl (k 0, 17, .inl f72)), ((o 4), .inr (3, [.ref (o 69), .ref (o 70), .ref (o 71)])), ((o 69), .inl (k 0, 17, .inl f69)), ((o 70), .inl (k 0, 17, .inl f70)), ((o 71), .inl (k 0, 17, .inl f71)), ((o 3), .inr (2, [.int glines, .int (nI ghours), .int glaw, .int godds, .int (nI grows), .int (nI gheads), .int (nI gsayings), .int (nI gslugs), .int (nI gacts), .ref (o 26), .ref (o 27), .ref (o 28), .ref (o 29), .ref (o 30), .ref (o 31), .ref (o 32), .ref (o 33), .ref (o 34), .ref (o 35)])), ((o 26), .inl (k 0, 12, .inl f26)), ((o 30), .inl (k 0, 12, .inl f30)), ((o 31), .inl (k 0, 12, .inl f31))] H → va_S A s.heap H locs → lv_has ls 5 [(4, .int (nI j_8)), (2, .long x_9), (0, .ref (o 12)), (1, .int (nI p0))] → W p l e (Rm 0 0 0) s m args below meth c H locs 0 0 Q (F0 m 5 ls []) := by
    intro nn
    induction nn with
    | zero => intro j_8 x_9 H locs ls hjj_8 hnj_8; exact absurd hnj_8 (by omega)
    | succ nn ihj_8 =>
      intro j_8 x_9 H locs ls hjj_8 hnj_8 hP hS hl
      refine lv_iload hx hb dX9_weightOfAll_5 (lv_at hl 0 rfl) ?_
      refine lv_iload_n hx hb dX9_weightOfAll_7 rfl (lv_at hl 3 rfl) ?_
      refine lv_icmp_gt (tgt := 23) hx hb dX9_weightOfAll_8 (by decide) (fun c_11 => ?_) (fun c_11 => ?_)
      · skip
        have c_11 : p0 < j_8 := (ni_lt rfl rfl (by omega) (by omega)).mp c_11
        refine lv_lload_n hx hb dX9_weightOfAll_23 rfl (lv_at hl 1 rfl) ?_
        exact x_retl S hr hlk hQ hS () trivial x_T dX9_weightOfAll_24
      · skip
        have c_11 : ¬ p0 < j_8 := fun q => c_11 ((ni_lt rfl rfl (by omega) (by omega)).mpr q)
        refine lv_lload_n hx hb dX9_weightOfAll_11 rfl (lv_at hl 1 rfl) ?_
        refine lv_ldc2 hx hb S.2.2.2.1 (S.2.2.2.2 _ lkX9_36) dX9_weightOfAll_12 ?_
        refine lv_lmul hx hb dX9_weightOfAll_15 ?_
        refine lv_topl (fun v_12 ev_12 => ?_)
        refine lv_lstore_n (lv' := [(2, .long v_12), (4, .int (nI j_8)), (0, .ref (o 12)), (1, .int (nI p0))]) hx hb dX9_weightOfAll_16 rfl hl (by decide) rfl (fun ls hl => ?_)
        refine lv_iinc (v := (nI (j_8 + 1))) (lv' := [(4, .int (nI (j_8 + 1))), (2, .long v_12), (0, .ref (o 12)), (1, .int (nI p0))]) hx hb dX9_weightOfAll_17 hl (k := 1) rfl (ni_inc _) (by decide) rfl (fun ls hl => ?_)
        refine lv_goto (tgt := 5) hx hb dX9_weightOfAll_20 (by decide) ?_
        exact ihj_8 (j_8 + 1) v_12 _ _ _ (by omega) (by omega) hP hS (lv_sub hl [0, 1, 2, 3] rfl)
  exact lp_10 (p0 + 1 + 1) 0 1 _ _ _ (by omega) (by omega) hP hS (lv_sub hl [0, 1, 2, 3] rfl)

set_option maxHeartbeats 4000000 in
set_option maxRecDepth 100000 in
theorem ctX9_addNext (l : Launch) (D : va_G) (k : Nat → ClassId) (z : Nat → Nat) (o : Nat → Nat) (wsize : Nat) (wnext : Nat) (f81 : Nat → Int32) (f82 : Nat → Int64) (f83 : Nat → Int32) (f84 : Nat → Int64) (clawNow : Int32) (charder : Int32) (ctold : Int32) (creply : Int32) (cwet : Int32) (f72 : Nat → Int32) (f69 : Nat → Int32) (f70 : Nat → Int32) (f71 : Nat → Int32) (glines : Int32) (ghours : Nat) (glaw : Int32) (godds : Int32) (grows : Nat) (gheads : Nat) (gsayings : Nat) (gslugs : Nat) (gacts : Nat) (f26 : Nat → Int32) (f30 : Nat → Int32) (f31 : Nat → Int32) (p0 : Int32) (p1 : Int64) (hwsize : wsize ≤ 256) (hwnext : wnext ≤ 256) (hghours : ghours ≤ 16) (hgrows : grows ≤ 4) (hgheads : gheads ≤ 12) (hgsayings : gsayings ≤ 8) (hgslugs : gslugs ≤ 4) (hgacts : gacts ≤ 30) : MU l yX9_addNext cX9_addNext 5 none 0 D k z [.ref (o 12), .int p0, .long p1] [((o 12), .inr (9, [.ref (o 3), .ref (o 5), .ref (o 6), .ref (o 81), .ref (o 82), .int (nI wsize), .ref (o 83), .ref (o 84), .int (nI wnext)])), ((o 81), .inl (k 0, 256, .inl f81)), ((o 82), .inl (k 2, 256, .inr (.inl f82))), ((o 83), .inl (k 0, 256, .inl f83)), ((o 84), .inl (k 2, 256, .inr (.inl f84))), ((o 5), .inr (1, [.ref (o 3), .ref (o 4), .int clawNow, .int charder, .int ctold, .int creply, .int cwet, .ref (o 72)])), ((o 72), .inl (k 0, 17, .inl f72)), ((o 4), .inr (3, [.ref (o 69), .ref (o 70), .ref (o 71)])), ((o 69), .inl (k 0, 17, .inl f69)), ((o 70), .inl (k 0, 17, .inl f70)), ((o 71), .inl (k 0, 17, .inl f71)), ((o 3), .inr (2, [.int glines, .int (nI ghours), .int glaw, .int godds, .int (nI grows), .int (nI gheads), .int (nI gsayings), .int (nI gslugs), .int (nI gacts), .ref (o 26), .ref (o 27), .ref (o 28), .ref (o 29), .ref (o 30), .ref (o 31), .ref (o 32), .ref (o 33), .ref (o 34), .ref (o 35)])), ((o 26), .inl (k 0, 12, .inl f26)), ((o 30), .inl (k 0, 12, .inl f30)), ((o 31), .inl (k 0, 12, .inl f31))] 0 0 (Uv D (fun u : (Nat → Int32) × (Nat → Nat) × (Nat → Nat → Int32) × (Nat → Nat → Int64) × (Nat → Int64) => (u.2.1 0 ≤ 256)) (fun u : (Nat → Int32) × (Nat → Nat) × (Nat → Nat → Int32) × (Nat → Nat → Int64) × (Nat → Int64) => [((o 12), .inr (9, [.ref (o 3), .ref (o 5), .ref (o 6), .ref (o 81), .ref (o 82), .int (nI wsize), .ref (o 83), .ref (o 84), .int (nI (u.2.1 0))])), ((o 81), .inl (k 0, 256, .inl f81)), ((o 82), .inl (k 2, 256, .inr (.inl f82))), ((o 83), .inl (k 0, 256, .inl (u.2.2.1 0))), ((o 84), .inl (k 2, 256, .inr (.inl (u.2.2.2.1 0)))), ((o 5), .inr (1, [.ref (o 3), .ref (o 4), .int clawNow, .int charder, .int ctold, .int creply, .int cwet, .ref (o 72)])), ((o 72), .inl (k 0, 17, .inl f72)), ((o 4), .inr (3, [.ref (o 69), .ref (o 70), .ref (o 71)])), ((o 69), .inl (k 0, 17, .inl f69)), ((o 70), .inl (k 0, 17, .inl f70)), ((o 71), .inl (k 0, 17, .inl f71)), ((o 3), .inr (2, [.int glines, .int (nI ghours), .int glaw, .int godds, .int (nI grows), .int (nI gheads), .int (nI gsayings), .int (nI gslugs), .int (nI gacts), .ref (o 26), .ref (o 27), .ref (o 28), .ref (o 29), .ref (o 30), .ref (o 31), .ref (o 32), .ref (o 33), .ref (o 34), .ref (o 35)])), ((o 26), .inl (k 0, 12, .inl f26)), ((o 30), .inl (k 0, 12, .inl f30)), ((o 31), .inl (k 0, 12, .inl f31))])) := by
  refine MU.of (by decide) (Nat.le_of_ble_eq_true rfl) ?_
  intro p e s m below meth c ls A args Q S hr hlk hnm hQ hK hP hD hZ hA hS hl
  have hx := S.1
  have hb := S.2.1
  have hl : lv_has ls 5 [(0, .ref (o 12)), (1, .int p0), (2, .long p1)] := hl
  refine lv_lload_n hx hb dX9_addNext_0 rfl (lv_at hl 2 rfl) ?_
  refine lv_lconst (v := 0) hx hb dX9_addNext_1 (by decide) ?_
  refine W.lcmp hx hb dX9_addNext_2 ?_
  refine lv_if_ne (tgt := 7) hx hb dX9_addNext_3 (by decide) (fun c_1 => ?_) (fun c_1 => ?_)
  · skip
    have c_1 : ¬ p1 = 0 := fun q => c_1 ((lg_cmp_eq _ _).mpr q)
    refine lv_iconst (v := 0) hx hb dX9_addNext_7 (by decide) ?_
    refine lv_istore (lv' := [(4, .int 0), (0, .ref (o 12)), (1, .int p0), (2, .long p1)]) hx hb dX9_addNext_8 hl (by decide) rfl (fun ls hl => ?_)
    have lp_11 : ∀ (nn j_10 : Nat)  (H : Heap) (locs : List Loc) (ls : Array Slot), j_10 ≤ wnext → wnext - j_10 < nn → va_P D vwCl [((o 12), .inr (9, [.ref (o 3), .ref (o 5), .ref (o 6), .ref (o 81), .ref (o 82), .int (nI wsize), .ref (o 83), .ref (o 84), .int (nI wnext)])), ((o 81), .inl (k 0, 256, .inl f81)), ((o 82), .inl (k 2, 256, .inr (.inl f82))), ((o 83), .inl (k 0, 256, .inl f83)), ((o 84), .inl (k 2, 256, .inr (.inl f84))), ((o 5), .inr (1, [.ref (o 3), .ref (o 4), .int clawNow, .int charder, .int ctold, .int creply, .int cwet, .ref (o 72)])), ((o 72), .inl (k 0, 17, .inl f72)), ((o 4), .inr (3, [.ref (o 69), .ref (o 70), .ref (o 71)])), ((o 69), .inl (k 0, 17, .inl f69)), ((o 70), .inl (k 0, 17, .inl f70)), ((o 71), .inl (k 0, 17, .inl f71)), ((o 3), .inr (2, [.int glines, .int (nI ghours), .int glaw, .int godds, .int (nI grows), .int (nI gheads), .int (nI gsayings), .int (nI gslugs), .int (nI gacts), .ref (o 26), .ref (o 27), .ref (o 28), .ref (o 29), .ref (o 30), .ref (o 31), .ref (o 32), .ref (o 33), .ref (o 34), .ref (o 35)])), ((o 26), .inl (k 0, 12, .inl f26)), ((o 30), .inl (k 0, 12, .inl f30)), ((o 31), .inl (k 0, 12, .inl f31))] H → va_D A [((o 12), .inr (9, [.ref (o 3), .ref (o 5), .ref (o 6), .ref (o 81), .ref (o 82), .int (nI wsize), .ref (o 83), .ref (o 84), .int (nI wnext)])), ((o 81), .inl (k 0, 256, .inl f81)), ((o 82), .inl (k 2, 256, .inr (.inl f82))), ((o 83), .inl (k 0, 256, .inl f83)), ((o 84), .inl (k 2, 256, .inr (.inl f84))), ((o 5), .inr (1, [.ref (o 3), .ref (o 4), .int clawNow, .int charder, .int ctold, .int creply, .int cwet, .ref (o 72)])), ((o 72), .inl (k 0, 17, .inl f72)), ((o 4), .inr (3, [.ref (o 69), .ref (o 70), .ref (o 71)])), ((o 69), .inl (k 0, 17, .inl f69)), ((o 70), .inl (k 0, 17, .inl f70)), ((o 71), .inl (k 0, 17, .inl f71)), ((o 3), .inr (2, [.int glines, .int (nI ghours), .int glaw, .int godds, .int (nI grows), .int (nI gheads), .int (nI gsayings), .int (nI gslugs), .int (nI gacts), .ref (o 26), .ref (o 27), .ref (o 28), .ref (o 29), .ref (o 30), .ref (o 31), .ref (o 32), .ref (o 33), .ref (o 34), .ref (o 35)])), ((o 26), .inl (k 0, 12, .inl f26)), ((o 30), .inl (k 0, 12, .inl f30)), ((o 31), .inl (k 0, 12, .inl f31))] → va_S A s.heap H locs → lv_has ls 5 [(4, .int (nI j_10)), (0, .ref (o 12)), (1, .int p0), (2, .long p1)] → W p l e (Rm 0 0 0) s m args below meth c H locs 0 0 Q (F0 m 10 ls []) := by
      intro nn
      induction nn with
      | zero => intro j_10  H locs ls hjj_10 hnj_10; exact absurd hnj_10 (by omega)
      | succ nn ihj_10 =>
        intro j_10  H locs ls hjj_10 hnj_10 hP hD hS hl
        refine lv_iload hx hb dX9_addNext_10 (lv_at hl 0 rfl) ?_
        refine lv_aload_n hx hb dX9_addNext_12 rfl (lv_at hl 1 rfl) ?_
        refine x_get S hK hP 0 rfl cfX9 8 lkX9_62 (by decide) rfl dX9_addNext_13 ?_
        refine lv_icmp_ge (tgt := 48) hx hb dX9_addNext_16 (by decide) (fun c_12 => ?_) (fun c_12 => ?_)
        · skip
          have c_12 : wnext ≤ j_10 := (ni_le rfl rfl (by omega) (by omega)).mp c_12
          refine lv_aload_n hx hb dX9_addNext_48 rfl (lv_at hl 1 rfl) ?_
          refine x_get S hK hP 0 rfl cfX9 8 lkX9_62 (by decide) rfl dX9_addNext_49 ?_
          refine lv_sipush (v := 256) hx hb dX9_addNext_52 (by decide) ?_
          refine lv_icmp_ge (tgt := 88) hx hb dX9_addNext_55 (by decide) (fun c_13 => ?_) (fun c_13 => ?_)
          · skip
            have c_13 : 256 ≤ wnext := (ni_le (by decide) rfl (by omega) (by omega)).mp c_13
            exact x_retv S hr hlk hQ hS ((fun i => ([] : List (Int32)).getD i 0), (fun i => ([wnext] : List (Nat)).getD i 0), (fun i => ([f83] : List (Nat → Int32)).getD i (fun _ => 0)), (fun i => ([f84] : List (Nat → Int64)).getD i (fun _ => 0)), (fun i => ([] : List (Int64)).getD i 0)) (show wnext ≤ 256 by omega) (x_B hP hD) dX9_addNext_88
          · skip
            have c_13 : ¬ 256 ≤ wnext := fun q => c_13 ((ni_le (by decide) rfl (by omega) (by omega)).mpr q)
            refine lv_aload_n hx hb dX9_addNext_58 rfl (lv_at hl 1 rfl) ?_
            refine x_get S hK hP 0 rfl cfX9 6 lkX9_19 (by decide) rfl dX9_addNext_59 ?_
            refine lv_aload_n hx hb dX9_addNext_62 rfl (lv_at hl 1 rfl) ?_
            refine x_get S hK hP 0 rfl cfX9 8 lkX9_62 (by decide) rfl dX9_addNext_63 ?_
            refine lv_iload_n hx hb dX9_addNext_66 rfl (lv_at hl 2 rfl) ?_
            refine x_iast (ws' := fun f_14 => [((o 12), .inr (9, [.ref (o 3), .ref (o 5), .ref (o 6), .ref (o 81), .ref (o 82), .int (nI wsize), .ref (o 83), .ref (o 84), .int (nI wnext)])), ((o 81), .inl (k 0, 256, .inl f81)), ((o 82), .inl (k 2, 256, .inr (.inl f82))), ((o 83), .inl (k 0, 256, .inl f_14)), ((o 84), .inl (k 2, 256, .inr (.inl f84))), ((o 5), .inr (1, [.ref (o 3), .ref (o 4), .int clawNow, .int charder, .int ctold, .int creply, .int cwet, .ref (o 72)])), ((o 72), .inl (k 0, 17, .inl f72)), ((o 4), .inr (3, [.ref (o 69), .ref (o 70), .ref (o 71)])), ((o 69), .inl (k 0, 17, .inl f69)), ((o 70), .inl (k 0, 17, .inl f70)), ((o 71), .inl (k 0, 17, .inl f71)), ((o 3), .inr (2, [.int glines, .int (nI ghours), .int glaw, .int godds, .int (nI grows), .int (nI gheads), .int (nI gsayings), .int (nI gslugs), .int (nI gacts), .ref (o 26), .ref (o 27), .ref (o 28), .ref (o 29), .ref (o 30), .ref (o 31), .ref (o 32), .ref (o 33), .ref (o 34), .ref (o 35)])), ((o 26), .inl (k 0, 12, .inl f26)), ((o 30), .inl (k 0, 12, .inl f30)), ((o 31), .inl (k 0, 12, .inl f31))]) S hK hP hD hS 3 rfl (vp_in_nI (by omega) (by decide)) (fun _ => rfl) dX9_addNext_67 (fun f_14 H locs ef_14 hP hD hS => ?_)
            refine lv_aload_n hx hb dX9_addNext_68 rfl (lv_at hl 1 rfl) ?_
            refine x_get S hK hP 0 rfl cfX9 7 lkX9_22 (by decide) rfl dX9_addNext_69 ?_
            refine lv_aload_n hx hb dX9_addNext_72 rfl (lv_at hl 1 rfl) ?_
            refine x_get S hK hP 0 rfl cfX9 8 lkX9_62 (by decide) rfl dX9_addNext_73 ?_
            refine lv_lload_n hx hb dX9_addNext_76 rfl (lv_at hl 3 rfl) ?_
            refine x_last (ws' := fun f_15 => [((o 12), .inr (9, [.ref (o 3), .ref (o 5), .ref (o 6), .ref (o 81), .ref (o 82), .int (nI wsize), .ref (o 83), .ref (o 84), .int (nI wnext)])), ((o 81), .inl (k 0, 256, .inl f81)), ((o 82), .inl (k 2, 256, .inr (.inl f82))), ((o 83), .inl (k 0, 256, .inl f_14)), ((o 84), .inl (k 2, 256, .inr (.inl f_15))), ((o 5), .inr (1, [.ref (o 3), .ref (o 4), .int clawNow, .int charder, .int ctold, .int creply, .int cwet, .ref (o 72)])), ((o 72), .inl (k 0, 17, .inl f72)), ((o 4), .inr (3, [.ref (o 69), .ref (o 70), .ref (o 71)])), ((o 69), .inl (k 0, 17, .inl f69)), ((o 70), .inl (k 0, 17, .inl f70)), ((o 71), .inl (k 0, 17, .inl f71)), ((o 3), .inr (2, [.int glines, .int (nI ghours), .int glaw, .int godds, .int (nI grows), .int (nI gheads), .int (nI gsayings), .int (nI gslugs), .int (nI gacts), .ref (o 26), .ref (o 27), .ref (o 28), .ref (o 29), .ref (o 30), .ref (o 31), .ref (o 32), .ref (o 33), .ref (o 34), .ref (o 35)])), ((o 26), .inl (k 0, 12, .inl f26)), ((o 30), .inl (k 0, 12, .inl f30)), ((o 31), .inl (k 0, 12, .inl f31))]) S hK hP hD hS 4 rfl (vp_in_nI (by omega) (by decide)) (fun _ => rfl) dX9_addNext_77 (fun f_15 H locs ef_15 hP hD hS => ?_)
            refine lv_aload_n hx hb dX9_addNext_78 rfl (lv_at hl 1 rfl) ?_
            refine lv_dup hx hb dX9_addNext_79 rfl ?_
            refine x_get S hK hP 0 rfl cfX9 8 lkX9_62 (by decide) rfl dX9_addNext_80 ?_
            refine lv_iconst (v := 1) hx hb dX9_addNext_83 (by decide) ?_
            refine lv_iadd hx hb dX9_addNext_84 ?_
            refine x_is (nI (wnext + 1)) (ni_add rfl (by decide)) ?_
            refine x_put (ws' := [((o 12), .inr (9, [.ref (o 3), .ref (o 5), .ref (o 6), .ref (o 81), .ref (o 82), .int (nI wsize), .ref (o 83), .ref (o 84), .int (nI (wnext + 1))])), ((o 81), .inl (k 0, 256, .inl f81)), ((o 82), .inl (k 2, 256, .inr (.inl f82))), ((o 83), .inl (k 0, 256, .inl f_14)), ((o 84), .inl (k 2, 256, .inr (.inl f_15))), ((o 5), .inr (1, [.ref (o 3), .ref (o 4), .int clawNow, .int charder, .int ctold, .int creply, .int cwet, .ref (o 72)])), ((o 72), .inl (k 0, 17, .inl f72)), ((o 4), .inr (3, [.ref (o 69), .ref (o 70), .ref (o 71)])), ((o 69), .inl (k 0, 17, .inl f69)), ((o 70), .inl (k 0, 17, .inl f70)), ((o 71), .inl (k 0, 17, .inl f71)), ((o 3), .inr (2, [.int glines, .int (nI ghours), .int glaw, .int godds, .int (nI grows), .int (nI gheads), .int (nI gsayings), .int (nI gslugs), .int (nI gacts), .ref (o 26), .ref (o 27), .ref (o 28), .ref (o 29), .ref (o 30), .ref (o 31), .ref (o 32), .ref (o 33), .ref (o 34), .ref (o 35)])), ((o 26), .inl (k 0, 12, .inl f26)), ((o 30), .inl (k 0, 12, .inl f30)), ((o 31), .inl (k 0, 12, .inl f31))]) S hK hP hD hS 0 rfl cfX9 8 lkX9_62 (by decide) rfl rfl rfl (Nat.le_of_ble_eq_true rfl) rfl dX9_addNext_85 (fun H locs hP hD hS => ?_)
            exact x_retv S hr hlk hQ hS ((fun i => ([] : List (Int32)).getD i 0), (fun i => ([wnext + 1] : List (Nat)).getD i 0), (fun i => ([f_14] : List (Nat → Int32)).getD i (fun _ => 0)), (fun i => ([f_15] : List (Nat → Int64)).getD i (fun _ => 0)), (fun i => ([] : List (Int64)).getD i 0)) (show wnext + 1 ≤ 256 by omega) (x_B hP hD) dX9_addNext_88
        · skip
          have c_12 : ¬ wnext ≤ j_10 := fun q => c_12 ((ni_le rfl rfl (by omega) (by omega)).mpr q)
          refine lv_aload_n hx hb dX9_addNext_19 rfl (lv_at hl 1 rfl) ?_
          refine x_get S hK hP 0 rfl cfX9 6 lkX9_19 (by decide) rfl dX9_addNext_20 ?_
          refine lv_iload hx hb dX9_addNext_23 (lv_at hl 0 rfl) ?_
          refine x_iald S hK hP 3 rfl (vp_in_nI (by omega) (by decide)) dX9_addNext_25 ?_
          refine lv_topi (fun v_16 ev_16 => ?_)
          refine lv_iload_n hx hb dX9_addNext_26 rfl (lv_at hl 2 rfl) ?_
          refine lv_icmp_ne (tgt := 42) hx hb dX9_addNext_27 (by decide) (fun c_17 => ?_) (fun c_17 => ?_)
          · skip
            refine lv_iinc (v := (nI (j_10 + 1))) (lv' := [(4, .int (nI (j_10 + 1))), (0, .ref (o 12)), (1, .int p0), (2, .long p1)]) hx hb dX9_addNext_42 hl (k := 0) rfl (ni_inc _) (by decide) rfl (fun ls hl => ?_)
            refine lv_goto (tgt := 10) hx hb dX9_addNext_45 (by decide) ?_
            exact ihj_10 (j_10 + 1)  _ _ _ (by omega) (by omega) hP hD hS (lv_sub hl [0, 1, 2, 3] rfl)
          · skip
            refine lv_aload_n hx hb dX9_addNext_30 rfl (lv_at hl 1 rfl) ?_
            refine x_get S hK hP 0 rfl cfX9 7 lkX9_22 (by decide) rfl dX9_addNext_31 ?_
            refine lv_iload hx hb dX9_addNext_34 (lv_at hl 0 rfl) ?_
            refine lv_dup2_11 hx hb dX9_addNext_36 rfl rfl ?_
            refine x_lald S hK hP 4 rfl (vp_in_nI (by omega) (by decide)) dX9_addNext_37 ?_
            refine lv_topl (fun v_18 ev_18 => ?_)
            refine lv_lload_n hx hb dX9_addNext_38 rfl (lv_at hl 3 rfl) ?_
            refine lv_ladd hx hb dX9_addNext_39 ?_
            refine lv_topl (fun v_19 ev_19 => ?_)
            refine x_last (ws' := fun f_20 => [((o 12), .inr (9, [.ref (o 3), .ref (o 5), .ref (o 6), .ref (o 81), .ref (o 82), .int (nI wsize), .ref (o 83), .ref (o 84), .int (nI wnext)])), ((o 81), .inl (k 0, 256, .inl f81)), ((o 82), .inl (k 2, 256, .inr (.inl f82))), ((o 83), .inl (k 0, 256, .inl f83)), ((o 84), .inl (k 2, 256, .inr (.inl f_20))), ((o 5), .inr (1, [.ref (o 3), .ref (o 4), .int clawNow, .int charder, .int ctold, .int creply, .int cwet, .ref (o 72)])), ((o 72), .inl (k 0, 17, .inl f72)), ((o 4), .inr (3, [.ref (o 69), .ref (o 70), .ref (o 71)])), ((o 69), .inl (k 0, 17, .inl f69)), ((o 70), .inl (k 0, 17, .inl f70)), ((o 71), .inl (k 0, 17, .inl f71)), ((o 3), .inr (2, [.int glines, .int (nI ghours), .int glaw, .int godds, .int (nI grows), .int (nI gheads), .int (nI gsayings), .int (nI gslugs), .int (nI gacts), .ref (o 26), .ref (o 27), .ref (o 28), .ref (o 29), .ref (o 30), .ref (o 31), .ref (o 32), .ref (o 33), .ref (o 34), .ref (o 35)])), ((o 26), .inl (k 0, 12, .inl f26)), ((o 30), .inl (k 0, 12, .inl f30)), ((o 31), .inl (k 0, 12, .inl f31))]) S hK hP hD hS 4 rfl (vp_in_nI (by omega) (by decide)) (fun _ => rfl) dX9_addNext_40 (fun f_20 H locs ef_20 hP hD hS => ?_)
            exact x_retv S hr hlk hQ hS ((fun i => ([] : List (Int32)).getD i 0), (fun i => ([wnext] : List (Nat)).getD i 0), (fun i => ([f83] : List (Nat → Int32)).getD i (fun _ => 0)), (fun i => ([f_20] : List (Nat → Int64)).getD i (fun _ => 0)), (fun i => ([] : List (Int64)).getD i 0)) (show wnext ≤ 256 by omega) (x_B hP hD) dX9_addNext_41
    exact lp_11 (wnext + 1) 0  _ _ _ (by omega) (by omega) hP hD hS (lv_sub hl [0, 1, 2, 3] rfl)
  · skip
    have c_1 : p1 = 0 := (lg_cmp_eq _ _).mp c_1
    exact x_retv S hr hlk hQ hS ((fun i => ([] : List (Int32)).getD i 0), (fun i => ([wnext] : List (Nat)).getD i 0), (fun i => ([f83] : List (Nat → Int32)).getD i (fun _ => 0)), (fun i => ([f84] : List (Nat → Int64)).getD i (fun _ => 0)), (fun i => ([] : List (Int64)).getD i 0)) (show wnext ≤ 256 by omega) (x_B hP hD) dX9_addNext_6

set_option maxHeartbeats 4000000 in
set_option maxRecDepth 100000 in
theorem ctX9_spread (l : Launch) (D : va_G) (k : Nat → ClassId) (z : Nat → Nat) (o : Nat → Nat) (wsize : Nat) (wnext : Nat) (f81 : Nat → Int32) (f82 : Nat → Int64) (f83 : Nat → Int32) (f84 : Nat → Int64) (clawNow : Int32) (charder : Int32) (ctold : Int32) (creply : Int32) (cwet : Int32) (f72 : Nat → Int32) (f69 : Nat → Int32) (f70 : Nat → Int32) (f71 : Nat → Int32) (glines : Int32) (ghours : Nat) (glaw : Int32) (godds : Int32) (grows : Nat) (gheads : Nat) (gsayings : Nat) (gslugs : Nat) (gacts : Nat) (f26 : Nat → Int32) (f30 : Nat → Int32) (f31 : Nat → Int32) (p0 : Nat) (hwsize : wsize ≤ 256) (hwnext : wnext ≤ 256) (hghours : ghours ≤ 16) (hgrows : grows ≤ 4) (hgheads : gheads ≤ 12) (hgsayings : gsayings ≤ 8) (hgslugs : gslugs ≤ 4) (hgacts : gacts ≤ 30) (hp0 : p0 ≤ 7) : MU l yX9_spread cX9_spread 7 none 3 D k z [.ref (o 12), .int (nI p0)] [((o 12), .inr (9, [.ref (o 3), .ref (o 5), .ref (o 6), .ref (o 81), .ref (o 82), .int (nI wsize), .ref (o 83), .ref (o 84), .int (nI wnext)])), ((o 81), .inl (k 0, 256, .inl f81)), ((o 82), .inl (k 2, 256, .inr (.inl f82))), ((o 83), .inl (k 0, 256, .inl f83)), ((o 84), .inl (k 2, 256, .inr (.inl f84))), ((o 5), .inr (1, [.ref (o 3), .ref (o 4), .int clawNow, .int charder, .int ctold, .int creply, .int cwet, .ref (o 72)])), ((o 72), .inl (k 0, 17, .inl f72)), ((o 4), .inr (3, [.ref (o 69), .ref (o 70), .ref (o 71)])), ((o 69), .inl (k 0, 17, .inl f69)), ((o 70), .inl (k 0, 17, .inl f70)), ((o 71), .inl (k 0, 17, .inl f71)), ((o 3), .inr (2, [.int glines, .int (nI ghours), .int glaw, .int godds, .int (nI grows), .int (nI gheads), .int (nI gsayings), .int (nI gslugs), .int (nI gacts), .ref (o 26), .ref (o 27), .ref (o 28), .ref (o 29), .ref (o 30), .ref (o 31), .ref (o 32), .ref (o 33), .ref (o 34), .ref (o 35)])), ((o 26), .inl (k 0, 12, .inl f26)), ((o 30), .inl (k 0, 12, .inl f30)), ((o 31), .inl (k 0, 12, .inl f31))] 0 0 (Uv D (fun u : (Nat → Int32) × (Nat → Nat) × (Nat → Nat → Int32) × (Nat → Nat → Int64) × (Nat → Int64) => (u.2.1 0 ≤ 256) ∧ (u.2.1 1 ≤ 256)) (fun u : (Nat → Int32) × (Nat → Nat) × (Nat → Nat → Int32) × (Nat → Nat → Int64) × (Nat → Int64) => [((o 12), .inr (9, [.ref (o 3), .ref (o 5), .ref (o 6), .ref (o 81), .ref (o 82), .int (nI (u.2.1 0)), .ref (o 83), .ref (o 84), .int (nI (u.2.1 1))])), ((o 81), .inl (k 0, 256, .inl (u.2.2.1 0))), ((o 82), .inl (k 2, 256, .inr (.inl (u.2.2.2.1 0)))), ((o 83), .inl (k 0, 256, .inl (u.2.2.1 1))), ((o 84), .inl (k 2, 256, .inr (.inl (u.2.2.2.1 1)))), ((o 5), .inr (1, [.ref (o 3), .ref (o 4), .int clawNow, .int charder, .int ctold, .int creply, .int cwet, .ref (o 72)])), ((o 72), .inl (k 0, 17, .inl f72)), ((o 4), .inr (3, [.ref (o 69), .ref (o 70), .ref (o 71)])), ((o 69), .inl (k 0, 17, .inl f69)), ((o 70), .inl (k 0, 17, .inl f70)), ((o 71), .inl (k 0, 17, .inl f71)), ((o 3), .inr (2, [.int glines, .int (nI ghours), .int glaw, .int godds, .int (nI grows), .int (nI gheads), .int (nI gsayings), .int (nI gslugs), .int (nI gacts), .ref (o 26), .ref (o 27), .ref (o 28), .ref (o 29), .ref (o 30), .ref (o 31), .ref (o 32), .ref (o 33), .ref (o 34), .ref (o 35)])), ((o 26), .inl (k 0, 12, .inl f26)), ((o 30), .inl (k 0, 12, .inl f30)), ((o 31), .inl (k 0, 12, .inl f31))])) := by
  refine MU.of (by decide) (Nat.le_of_ble_eq_true rfl) ?_
  intro p e s m below meth c ls A args Q S hr hlk hnm hQ hK hP hD hZ hA hS hl
  have hx := S.1
  have hb := S.2.1
  have hl : lv_has ls 7 [(0, .ref (o 12)), (1, .int (nI p0))] := hl
  refine lv_aload_n hx hb dX9_spread_0 rfl (lv_at hl 0 rfl) ?_
  refine x_get S hK hP 0 rfl cfX9 3 lkX9_11 (by decide) rfl dX9_spread_1 ?_
  refine lv_iconst (v := 0) hx hb dX9_spread_4 (by decide) ?_
  refine lv_aload_n hx hb dX9_spread_5 rfl (lv_at hl 0 rfl) ?_
  refine x_get S hK hP 0 rfl cfX9 1 lkX9_29 (by decide) rfl dX9_spread_6 ?_
  refine x_get S hK hP 5 rfl cfX1 7 lkX9_59 (by decide) rfl dX9_spread_9 ?_
  refine lv_iconst (v := 0) hx hb dX9_spread_12 (by decide) ?_
  refine x_iald S hK hP 6 rfl (vp_lit (by decide)) dX9_spread_13 ?_
  refine lv_topi (fun v_1 ev_1 => ?_)
  refine x_iast (ws' := fun f_2 => [((o 12), .inr (9, [.ref (o 3), .ref (o 5), .ref (o 6), .ref (o 81), .ref (o 82), .int (nI wsize), .ref (o 83), .ref (o 84), .int (nI wnext)])), ((o 81), .inl (k 0, 256, .inl f_2)), ((o 82), .inl (k 2, 256, .inr (.inl f82))), ((o 83), .inl (k 0, 256, .inl f83)), ((o 84), .inl (k 2, 256, .inr (.inl f84))), ((o 5), .inr (1, [.ref (o 3), .ref (o 4), .int clawNow, .int charder, .int ctold, .int creply, .int cwet, .ref (o 72)])), ((o 72), .inl (k 0, 17, .inl f72)), ((o 4), .inr (3, [.ref (o 69), .ref (o 70), .ref (o 71)])), ((o 69), .inl (k 0, 17, .inl f69)), ((o 70), .inl (k 0, 17, .inl f70)), ((o 71), .inl (k 0, 17, .inl f71)), ((o 3), .inr (2, [.int glines, .int (nI ghours), .int glaw, .int godds, .int (nI grows), .int (nI gheads), .int (nI gsayings), .int (nI gslugs), .int (nI gacts), .ref (o 26), .ref (o 27), .ref (o 28), .ref (o 29), .ref (o 30), .ref (o 31), .ref (o 32), .ref (o 33), .ref (o 34), .ref (o 35)])), ((o 26), .inl (k 0, 12, .inl f26)), ((o 30), .inl (k 0, 12, .inl f30)), ((o 31), .inl (k 0, 12, .inl f31))]) S hK hP hD hS 1 rfl (vp_lit (by decide)) (fun _ => rfl) dX9_spread_14 (fun f_2 H locs ef_2 hP hD hS => ?_)
  refine lv_aload_n hx hb dX9_spread_15 rfl (lv_at hl 0 rfl) ?_
  refine x_get S hK hP 0 rfl cfX9 4 lkX9_15 (by decide) rfl dX9_spread_16 ?_
  refine lv_iconst (v := 0) hx hb dX9_spread_19 (by decide) ?_
  refine lv_lconst (v := 1) hx hb dX9_spread_20 (by decide) ?_
  refine x_last (ws' := fun f_3 => [((o 12), .inr (9, [.ref (o 3), .ref (o 5), .ref (o 6), .ref (o 81), .ref (o 82), .int (nI wsize), .ref (o 83), .ref (o 84), .int (nI wnext)])), ((o 81), .inl (k 0, 256, .inl f_2)), ((o 82), .inl (k 2, 256, .inr (.inl f_3))), ((o 83), .inl (k 0, 256, .inl f83)), ((o 84), .inl (k 2, 256, .inr (.inl f84))), ((o 5), .inr (1, [.ref (o 3), .ref (o 4), .int clawNow, .int charder, .int ctold, .int creply, .int cwet, .ref (o 72)])), ((o 72), .inl (k 0, 17, .inl f72)), ((o 4), .inr (3, [.ref (o 69), .ref (o 70), .ref (o 71)])), ((o 69), .inl (k 0, 17, .inl f69)), ((o 70), .inl (k 0, 17, .inl f70)), ((o 71), .inl (k 0, 17, .inl f71)), ((o 3), .inr (2, [.int glines, .int (nI ghours), .int glaw, .int godds, .int (nI grows), .int (nI gheads), .int (nI gsayings), .int (nI gslugs), .int (nI gacts), .ref (o 26), .ref (o 27), .ref (o 28), .ref (o 29), .ref (o 30), .ref (o 31), .ref (o 32), .ref (o 33), .ref (o 34), .ref (o 35)])), ((o 26), .inl (k 0, 12, .inl f26)), ((o 30), .inl (k 0, 12, .inl f30)), ((o 31), .inl (k 0, 12, .inl f31))]) S hK hP hD hS 2 rfl (vp_lit (by decide)) (fun _ => rfl) dX9_spread_21 (fun f_3 H locs ef_3 hP hD hS => ?_)
  refine lv_aload_n hx hb dX9_spread_22 rfl (lv_at hl 0 rfl) ?_
  refine lv_iconst (v := 1) hx hb dX9_spread_23 (by decide) ?_
  refine x_put (ws' := [((o 12), .inr (9, [.ref (o 3), .ref (o 5), .ref (o 6), .ref (o 81), .ref (o 82), .int 1, .ref (o 83), .ref (o 84), .int (nI wnext)])), ((o 81), .inl (k 0, 256, .inl f_2)), ((o 82), .inl (k 2, 256, .inr (.inl f_3))), ((o 83), .inl (k 0, 256, .inl f83)), ((o 84), .inl (k 2, 256, .inr (.inl f84))), ((o 5), .inr (1, [.ref (o 3), .ref (o 4), .int clawNow, .int charder, .int ctold, .int creply, .int cwet, .ref (o 72)])), ((o 72), .inl (k 0, 17, .inl f72)), ((o 4), .inr (3, [.ref (o 69), .ref (o 70), .ref (o 71)])), ((o 69), .inl (k 0, 17, .inl f69)), ((o 70), .inl (k 0, 17, .inl f70)), ((o 71), .inl (k 0, 17, .inl f71)), ((o 3), .inr (2, [.int glines, .int (nI ghours), .int glaw, .int godds, .int (nI grows), .int (nI gheads), .int (nI gsayings), .int (nI gslugs), .int (nI gacts), .ref (o 26), .ref (o 27), .ref (o 28), .ref (o 29), .ref (o 30), .ref (o 31), .ref (o 32), .ref (o 33), .ref (o 34), .ref (o 35)])), ((o 26), .inl (k 0, 12, .inl f26)), ((o 30), .inl (k 0, 12, .inl f30)), ((o 31), .inl (k 0, 12, .inl f31))]) S hK hP hD hS 0 rfl cfX9 5 lkX9_42 (by decide) rfl rfl rfl (Nat.le_of_ble_eq_true rfl) rfl dX9_spread_24 (fun H locs hP hD hS => ?_)
  refine lv_iconst (v := 0) hx hb dX9_spread_27 (by decide) ?_
  refine lv_istore_n (lv' := [(2, .int 0), (0, .ref (o 12)), (1, .int (nI p0))]) hx hb dX9_spread_28 rfl hl (by decide) rfl (fun ls hl => ?_)
  have lp_154 : ∀ (nn j_147 : Nat) (m_148 : Nat) (m_149 : Nat) (g_150 : Nat → Int32) (g_151 : Nat → Int64) (g_152 : Nat → Int32) (g_153 : Nat → Int64) (H : Heap) (locs : List Loc) (ls : Array Slot), j_147 ≤ p0 + 1 → p0 + 1 - j_147 < nn → m_148 ≤ 256 → m_149 ≤ 256 → va_P D vwCl [((o 12), .inr (9, [.ref (o 3), .ref (o 5), .ref (o 6), .ref (o 81), .ref (o 82), .int (nI m_148), .ref (o 83), .ref (o 84), .int (nI m_149)])), ((o 81), .inl (k 0, 256, .inl g_150)), ((o 82), .inl (k 2, 256, .inr (.inl g_151))), ((o 83), .inl (k 0, 256, .inl g_152)), ((o 84), .inl (k 2, 256, .inr (.inl g_153))), ((o 5), .inr (1, [.ref (o 3), .ref (o 4), .int clawNow, .int charder, .int ctold, .int creply, .int cwet, .ref (o 72)])), ((o 72), .inl (k 0, 17, .inl f72)), ((o 4), .inr (3, [.ref (o 69), .ref (o 70), .ref (o 71)])), ((o 69), .inl (k 0, 17, .inl f69)), ((o 70), .inl (k 0, 17, .inl f70)), ((o 71), .inl (k 0, 17, .inl f71)), ((o 3), .inr (2, [.int glines, .int (nI ghours), .int glaw, .int godds, .int (nI grows), .int (nI gheads), .int (nI gsayings), .int (nI gslugs), .int (nI gacts), .ref (o 26), .ref (o 27), .ref (o 28), .ref (o 29), .ref (o 30), .ref (o 31), .ref (o 32), .ref (o 33), .ref (o 34), .ref (o 35)])), ((o 26), .inl (k 0, 12, .inl f26)), ((o 30), .inl (k 0, 12, .inl f30)), ((o 31), .inl (k 0, 12, .inl f31))] H → va_D A [((o 12), .inr (9, [.ref (o 3), .ref (o 5), .ref (o 6), .ref (o 81), .ref (o 82), .int (nI m_148), .ref (o 83), .ref (o 84), .int (nI m_149)])), ((o 81), .inl (k 0, 256, .inl g_150)), ((o 82), .inl (k 2, 256, .inr (.inl g_151))), ((o 83), .inl (k 0, 256, .inl g_152)), ((o 84), .inl (k 2, 256, .inr (.inl g_153))), ((o 5), .inr (1, [.ref (o 3), .ref (o 4), .int clawNow, .int charder, .int ctold, .int creply, .int cwet, .ref (o 72)])), ((o 72), .inl (k 0, 17, .inl f72)), ((o 4), .inr (3, [.ref (o 69), .ref (o 70), .ref (o 71)])), ((o 69), .inl (k 0, 17, .inl f69)), ((o 70), .inl (k 0, 17, .inl f70)), ((o 71), .inl (k 0, 17, .inl f71)), ((o 3), .inr (2, [.int glines, .int (nI ghours), .int glaw, .int godds, .int (nI grows), .int (nI gheads), .int (nI gsayings), .int (nI gslugs), .int (nI gacts), .ref (o 26), .ref (o 27), .ref (o 28), .ref (o 29), .ref (o 30), .ref (o 31), .ref (o 32), .ref (o 33), .ref (o 34), .ref (o 35)])), ((o 26), .inl (k 0, 12, .inl f26)), ((o 30), .inl (k 0, 12, .inl f30)), ((o 31), .inl (k 0, 12, .inl f31))] → va_S A s.heap H locs → lv_has ls 7 [(2, .int (nI j_147)), (0, .ref (o 12)), (1, .int (nI p0))] → W p l e (Rm 3 0 0) s m args below meth c H locs 0 0 Q (F0 m 29 ls []) := by
    intro nn
    induction nn with
    | zero => intro j_147 m_148 m_149 g_150 g_151 g_152 g_153 H locs ls hjj_147 hnj_147 hbm_148 hbm_149; exact absurd hnj_147 (by omega)
    | succ nn ihj_147 =>
      intro j_147 m_148 m_149 g_150 g_151 g_152 g_153 H locs ls hjj_147 hnj_147 hbm_148 hbm_149 hP hD hS hl
      refine lv_iload_n hx hb dX9_spread_29 rfl (lv_at hl 0 rfl) ?_
      refine lv_iload_n hx hb dX9_spread_30 rfl (lv_at hl 2 rfl) ?_
      refine lv_icmp_gt (tgt := 213) hx hb dX9_spread_31 (by decide) (fun c_155 => ?_) (fun c_155 => ?_)
      · skip
        have c_155 : p0 < j_147 := (ni_lt rfl rfl (by omega) (by omega)).mp c_155
        exact x_retv S hr hlk hQ hS ((fun i => ([] : List (Int32)).getD i 0), (fun i => ([m_148, m_149] : List (Nat)).getD i 0), (fun i => ([g_150, g_152] : List (Nat → Int32)).getD i (fun _ => 0)), (fun i => ([g_151, g_153] : List (Nat → Int64)).getD i (fun _ => 0)), (fun i => ([] : List (Int64)).getD i 0)) ⟨(show m_148 ≤ 256 by omega), (show m_149 ≤ 256 by omega)⟩ (x_B hP hD) dX9_spread_213
      · skip
        have c_155 : ¬ p0 < j_147 := fun q => c_155 ((ni_lt rfl rfl (by omega) (by omega)).mpr q)
        refine lv_iload_n hx hb dX9_spread_34 rfl (lv_at hl 0 rfl) ?_
        refine lv_bipush (v := 16) hx hb dX9_spread_35 (by decide) ?_
        refine lv_icmp_ge (tgt := 213) hx hb dX9_spread_37 (by decide) (fun c_156 => ?_) (fun c_156 => ?_)
        · skip
          have c_156 : 16 ≤ j_147 := (ni_le (by decide) rfl (by omega) (by omega)).mp c_156
          exact x_retv S hr hlk hQ hS ((fun i => ([] : List (Int32)).getD i 0), (fun i => ([m_148, m_149] : List (Nat)).getD i 0), (fun i => ([g_150, g_152] : List (Nat → Int32)).getD i (fun _ => 0)), (fun i => ([g_151, g_153] : List (Nat → Int64)).getD i (fun _ => 0)), (fun i => ([] : List (Int64)).getD i 0)) ⟨(show m_148 ≤ 256 by omega), (show m_149 ≤ 256 by omega)⟩ (x_B hP hD) dX9_spread_213
        · skip
          have c_156 : ¬ 16 ≤ j_147 := fun q => c_156 ((ni_le (by decide) rfl (by omega) (by omega)).mpr q)
          refine lv_aload_n hx hb dX9_spread_40 rfl (lv_at hl 1 rfl) ?_
          refine lv_iconst (v := 0) hx hb dX9_spread_41 (by decide) ?_
          refine x_put (ws' := [((o 12), .inr (9, [.ref (o 3), .ref (o 5), .ref (o 6), .ref (o 81), .ref (o 82), .int (nI m_148), .ref (o 83), .ref (o 84), .int 0])), ((o 81), .inl (k 0, 256, .inl g_150)), ((o 82), .inl (k 2, 256, .inr (.inl g_151))), ((o 83), .inl (k 0, 256, .inl g_152)), ((o 84), .inl (k 2, 256, .inr (.inl g_153))), ((o 5), .inr (1, [.ref (o 3), .ref (o 4), .int clawNow, .int charder, .int ctold, .int creply, .int cwet, .ref (o 72)])), ((o 72), .inl (k 0, 17, .inl f72)), ((o 4), .inr (3, [.ref (o 69), .ref (o 70), .ref (o 71)])), ((o 69), .inl (k 0, 17, .inl f69)), ((o 70), .inl (k 0, 17, .inl f70)), ((o 71), .inl (k 0, 17, .inl f71)), ((o 3), .inr (2, [.int glines, .int (nI ghours), .int glaw, .int godds, .int (nI grows), .int (nI gheads), .int (nI gsayings), .int (nI gslugs), .int (nI gacts), .ref (o 26), .ref (o 27), .ref (o 28), .ref (o 29), .ref (o 30), .ref (o 31), .ref (o 32), .ref (o 33), .ref (o 34), .ref (o 35)])), ((o 26), .inl (k 0, 12, .inl f26)), ((o 30), .inl (k 0, 12, .inl f30)), ((o 31), .inl (k 0, 12, .inl f31))]) S hK hP hD hS 0 rfl cfX9 8 lkX9_62 (by decide) rfl rfl rfl (Nat.le_of_ble_eq_true rfl) rfl dX9_spread_42 (fun H locs hP hD hS => ?_)
          refine lv_aload_n hx hb dX9_spread_45 rfl (lv_at hl 1 rfl) ?_
          refine x_get S hK hP 0 rfl cfX9 1 lkX9_29 (by decide) rfl dX9_spread_46 ?_
          refine lv_iload_n hx hb dX9_spread_49 rfl (lv_at hl 0 rfl) ?_
          refine x_roVi (As := [.int (nI j_147)]) S hK hP hD hZ (fun _ h => h) hA hS hA hl mwX1_takersAt lkX9_65 (ctX1_takersAt_c l D k z o clawNow charder ctold creply cwet f72 f69 f70 f71 glines ghours glaw godds grows gheads gsayings gslugs gacts f26 f30 f31 j_147 (by omega) (by omega) (by omega) (by omega) (by omega) (by omega) (by omega)) [5, 6, 7, 8, 9, 10, 11, 12, 13, 14] rfl (by decide) rfl rfl rfl rfl rfl ⟨Nat.le_of_ble_eq_true rfl, Nat.le_of_ble_eq_true rfl, Nat.le_of_ble_eq_true rfl⟩ dX9_spread_50 ⟨Nat.le_of_ble_eq_true rfl, Nat.le_of_ble_eq_true rfl⟩ (fun r_157 H locs hr_157 hP hS => ?_)
          refine lv_istore_n (lv' := [(3, .int r_157), (2, .int (nI j_147)), (0, .ref (o 12)), (1, .int (nI p0))]) hx hb dX9_spread_53 rfl hl (by decide) rfl (fun ls hl => ?_)
          refine lv_iconst (v := 0) hx hb dX9_spread_54 (by decide) ?_
          refine lv_istore (lv' := [(4, .int 0), (3, .int r_157), (2, .int (nI j_147)), (0, .ref (o 12)), (1, .int (nI p0))]) hx hb dX9_spread_55 hl (by decide) rfl (fun ls hl => ?_)
          have lp_191 : ∀ (nn j_187 : Nat) (m_188 : Nat) (g_189 : Nat → Int32) (g_190 : Nat → Int64) (H : Heap) (locs : List Loc) (ls : Array Slot), j_187 ≤ m_148 → m_148 - j_187 < nn → m_188 ≤ 256 → va_P D vwCl [((o 12), .inr (9, [.ref (o 3), .ref (o 5), .ref (o 6), .ref (o 81), .ref (o 82), .int (nI m_148), .ref (o 83), .ref (o 84), .int (nI m_188)])), ((o 81), .inl (k 0, 256, .inl g_150)), ((o 82), .inl (k 2, 256, .inr (.inl g_151))), ((o 83), .inl (k 0, 256, .inl g_189)), ((o 84), .inl (k 2, 256, .inr (.inl g_190))), ((o 5), .inr (1, [.ref (o 3), .ref (o 4), .int clawNow, .int charder, .int ctold, .int creply, .int cwet, .ref (o 72)])), ((o 72), .inl (k 0, 17, .inl f72)), ((o 4), .inr (3, [.ref (o 69), .ref (o 70), .ref (o 71)])), ((o 69), .inl (k 0, 17, .inl f69)), ((o 70), .inl (k 0, 17, .inl f70)), ((o 71), .inl (k 0, 17, .inl f71)), ((o 3), .inr (2, [.int glines, .int (nI ghours), .int glaw, .int godds, .int (nI grows), .int (nI gheads), .int (nI gsayings), .int (nI gslugs), .int (nI gacts), .ref (o 26), .ref (o 27), .ref (o 28), .ref (o 29), .ref (o 30), .ref (o 31), .ref (o 32), .ref (o 33), .ref (o 34), .ref (o 35)])), ((o 26), .inl (k 0, 12, .inl f26)), ((o 30), .inl (k 0, 12, .inl f30)), ((o 31), .inl (k 0, 12, .inl f31))] H → va_D A [((o 12), .inr (9, [.ref (o 3), .ref (o 5), .ref (o 6), .ref (o 81), .ref (o 82), .int (nI m_148), .ref (o 83), .ref (o 84), .int (nI m_188)])), ((o 81), .inl (k 0, 256, .inl g_150)), ((o 82), .inl (k 2, 256, .inr (.inl g_151))), ((o 83), .inl (k 0, 256, .inl g_189)), ((o 84), .inl (k 2, 256, .inr (.inl g_190))), ((o 5), .inr (1, [.ref (o 3), .ref (o 4), .int clawNow, .int charder, .int ctold, .int creply, .int cwet, .ref (o 72)])), ((o 72), .inl (k 0, 17, .inl f72)), ((o 4), .inr (3, [.ref (o 69), .ref (o 70), .ref (o 71)])), ((o 69), .inl (k 0, 17, .inl f69)), ((o 70), .inl (k 0, 17, .inl f70)), ((o 71), .inl (k 0, 17, .inl f71)), ((o 3), .inr (2, [.int glines, .int (nI ghours), .int glaw, .int godds, .int (nI grows), .int (nI gheads), .int (nI gsayings), .int (nI gslugs), .int (nI gacts), .ref (o 26), .ref (o 27), .ref (o 28), .ref (o 29), .ref (o 30), .ref (o 31), .ref (o 32), .ref (o 33), .ref (o 34), .ref (o 35)])), ((o 26), .inl (k 0, 12, .inl f26)), ((o 30), .inl (k 0, 12, .inl f30)), ((o 31), .inl (k 0, 12, .inl f31))] → va_S A s.heap H locs → lv_has ls 7 [(4, .int (nI j_187)), (3, .int r_157), (2, .int (nI j_147)), (0, .ref (o 12)), (1, .int (nI p0))] → W p l e (Rm 3 0 0) s m args below meth c H locs 0 0 Q (F0 m 57 ls []) := by
            intro nn
            induction nn with
            | zero => intro j_187 m_188 g_189 g_190 H locs ls hjj_187 hnj_187 hbm_188; exact absurd hnj_187 (by omega)
            | succ nn ihj_187 =>
              intro j_187 m_188 g_189 g_190 H locs ls hjj_187 hnj_187 hbm_188 hP hD hS hl
              refine lv_iload hx hb dX9_spread_57 (lv_at hl 0 rfl) ?_
              refine lv_aload_n hx hb dX9_spread_59 rfl (lv_at hl 3 rfl) ?_
              refine x_get S hK hP 0 rfl cfX9 5 lkX9_42 (by decide) rfl dX9_spread_60 ?_
              refine lv_icmp_ge (tgt := 165) hx hb dX9_spread_63 (by decide) (fun c_192 => ?_) (fun c_192 => ?_)
              · skip
                have c_192 : m_148 ≤ j_187 := (ni_le rfl rfl (by omega) (by omega)).mp c_192
                refine lv_aload_n hx hb dX9_spread_165 rfl (lv_at hl 3 rfl) ?_
                refine x_get S hK hP 0 rfl cfX9 6 lkX9_19 (by decide) rfl dX9_spread_166 ?_
                refine lv_iconst (v := 0) hx hb dX9_spread_169 (by decide) ?_
                refine lv_aload_n hx hb dX9_spread_170 rfl (lv_at hl 3 rfl) ?_
                refine x_get S hK hP 0 rfl cfX9 3 lkX9_11 (by decide) rfl dX9_spread_171 ?_
                refine lv_iconst (v := 0) hx hb dX9_spread_174 (by decide) ?_
                refine lv_aload_n hx hb dX9_spread_175 rfl (lv_at hl 3 rfl) ?_
                refine x_get S hK hP 0 rfl cfX9 8 lkX9_62 (by decide) rfl dX9_spread_176 ?_
                refine x_copyi (ws' := fun f_193 => [((o 12), .inr (9, [.ref (o 3), .ref (o 5), .ref (o 6), .ref (o 81), .ref (o 82), .int (nI m_148), .ref (o 83), .ref (o 84), .int (nI m_188)])), ((o 81), .inl (k 0, 256, .inl f_193)), ((o 82), .inl (k 2, 256, .inr (.inl g_151))), ((o 83), .inl (k 0, 256, .inl g_189)), ((o 84), .inl (k 2, 256, .inr (.inl g_190))), ((o 5), .inr (1, [.ref (o 3), .ref (o 4), .int clawNow, .int charder, .int ctold, .int creply, .int cwet, .ref (o 72)])), ((o 72), .inl (k 0, 17, .inl f72)), ((o 4), .inr (3, [.ref (o 69), .ref (o 70), .ref (o 71)])), ((o 69), .inl (k 0, 17, .inl f69)), ((o 70), .inl (k 0, 17, .inl f70)), ((o 71), .inl (k 0, 17, .inl f71)), ((o 3), .inr (2, [.int glines, .int (nI ghours), .int glaw, .int godds, .int (nI grows), .int (nI gheads), .int (nI gsayings), .int (nI gslugs), .int (nI gacts), .ref (o 26), .ref (o 27), .ref (o 28), .ref (o 29), .ref (o 30), .ref (o 31), .ref (o 32), .ref (o 33), .ref (o 34), .ref (o 35)])), ((o 26), .inl (k 0, 12, .inl f26)), ((o 30), .inl (k 0, 12, .inl f30)), ((o 31), .inl (k 0, 12, .inl f31))]) S hK hP hD hS hl lkX9_83 3 1 rfl rfl (ni_nn (a := 0) (by decide) (by omega)) (ni_nn (a := 0) (by decide) (by omega)) (ni_nn (a := m_188) rfl (by omega)) (ni_cp (a := 0) (b := m_188) (by decide) rfl (by omega) (by omega) (by omega)) (ni_cp (a := 0) (b := m_188) (by decide) rfl (by omega) (by omega) (by omega)) ⟨Nat.le_of_ble_eq_true rfl, Nat.le_of_ble_eq_true rfl⟩ (fun _ => rfl) dX9_spread_179 (fun f_193 H locs ef_193 hP hD hS => ?_)
                refine lv_aload_n hx hb dX9_spread_182 rfl (lv_at hl 3 rfl) ?_
                refine x_get S hK hP 0 rfl cfX9 7 lkX9_22 (by decide) rfl dX9_spread_183 ?_
                refine lv_iconst (v := 0) hx hb dX9_spread_186 (by decide) ?_
                refine lv_aload_n hx hb dX9_spread_187 rfl (lv_at hl 3 rfl) ?_
                refine x_get S hK hP 0 rfl cfX9 4 lkX9_15 (by decide) rfl dX9_spread_188 ?_
                refine lv_iconst (v := 0) hx hb dX9_spread_191 (by decide) ?_
                refine lv_aload_n hx hb dX9_spread_192 rfl (lv_at hl 3 rfl) ?_
                refine x_get S hK hP 0 rfl cfX9 8 lkX9_62 (by decide) rfl dX9_spread_193 ?_
                refine x_copyl (ws' := fun f_194 => [((o 12), .inr (9, [.ref (o 3), .ref (o 5), .ref (o 6), .ref (o 81), .ref (o 82), .int (nI m_148), .ref (o 83), .ref (o 84), .int (nI m_188)])), ((o 81), .inl (k 0, 256, .inl f_193)), ((o 82), .inl (k 2, 256, .inr (.inl f_194))), ((o 83), .inl (k 0, 256, .inl g_189)), ((o 84), .inl (k 2, 256, .inr (.inl g_190))), ((o 5), .inr (1, [.ref (o 3), .ref (o 4), .int clawNow, .int charder, .int ctold, .int creply, .int cwet, .ref (o 72)])), ((o 72), .inl (k 0, 17, .inl f72)), ((o 4), .inr (3, [.ref (o 69), .ref (o 70), .ref (o 71)])), ((o 69), .inl (k 0, 17, .inl f69)), ((o 70), .inl (k 0, 17, .inl f70)), ((o 71), .inl (k 0, 17, .inl f71)), ((o 3), .inr (2, [.int glines, .int (nI ghours), .int glaw, .int godds, .int (nI grows), .int (nI gheads), .int (nI gsayings), .int (nI gslugs), .int (nI gacts), .ref (o 26), .ref (o 27), .ref (o 28), .ref (o 29), .ref (o 30), .ref (o 31), .ref (o 32), .ref (o 33), .ref (o 34), .ref (o 35)])), ((o 26), .inl (k 0, 12, .inl f26)), ((o 30), .inl (k 0, 12, .inl f30)), ((o 31), .inl (k 0, 12, .inl f31))]) S hK hP hD hS hl lkX9_83 4 2 rfl rfl (ni_nn (a := 0) (by decide) (by omega)) (ni_nn (a := 0) (by decide) (by omega)) (ni_nn (a := m_188) rfl (by omega)) (ni_cp (a := 0) (b := m_188) (by decide) rfl (by omega) (by omega) (by omega)) (ni_cp (a := 0) (b := m_188) (by decide) rfl (by omega) (by omega) (by omega)) ⟨Nat.le_of_ble_eq_true rfl, Nat.le_of_ble_eq_true rfl⟩ (fun _ => rfl) dX9_spread_196 (fun f_194 H locs ef_194 hP hD hS => ?_)
                refine lv_aload_n hx hb dX9_spread_199 rfl (lv_at hl 3 rfl) ?_
                refine lv_aload_n hx hb dX9_spread_200 rfl (lv_at hl 3 rfl) ?_
                refine x_get S hK hP 0 rfl cfX9 8 lkX9_62 (by decide) rfl dX9_spread_201 ?_
                refine x_put (ws' := [((o 12), .inr (9, [.ref (o 3), .ref (o 5), .ref (o 6), .ref (o 81), .ref (o 82), .int (nI m_188), .ref (o 83), .ref (o 84), .int (nI m_188)])), ((o 81), .inl (k 0, 256, .inl f_193)), ((o 82), .inl (k 2, 256, .inr (.inl f_194))), ((o 83), .inl (k 0, 256, .inl g_189)), ((o 84), .inl (k 2, 256, .inr (.inl g_190))), ((o 5), .inr (1, [.ref (o 3), .ref (o 4), .int clawNow, .int charder, .int ctold, .int creply, .int cwet, .ref (o 72)])), ((o 72), .inl (k 0, 17, .inl f72)), ((o 4), .inr (3, [.ref (o 69), .ref (o 70), .ref (o 71)])), ((o 69), .inl (k 0, 17, .inl f69)), ((o 70), .inl (k 0, 17, .inl f70)), ((o 71), .inl (k 0, 17, .inl f71)), ((o 3), .inr (2, [.int glines, .int (nI ghours), .int glaw, .int godds, .int (nI grows), .int (nI gheads), .int (nI gsayings), .int (nI gslugs), .int (nI gacts), .ref (o 26), .ref (o 27), .ref (o 28), .ref (o 29), .ref (o 30), .ref (o 31), .ref (o 32), .ref (o 33), .ref (o 34), .ref (o 35)])), ((o 26), .inl (k 0, 12, .inl f26)), ((o 30), .inl (k 0, 12, .inl f30)), ((o 31), .inl (k 0, 12, .inl f31))]) S hK hP hD hS 0 rfl cfX9 5 lkX9_42 (by decide) rfl rfl rfl (Nat.le_of_ble_eq_true rfl) rfl dX9_spread_204 (fun H locs hP hD hS => ?_)
                refine lv_iinc (v := (nI (j_147 + 1))) (lv' := [(2, .int (nI (j_147 + 1))), (4, .int (nI j_187)), (3, .int r_157), (0, .ref (o 12)), (1, .int (nI p0))]) hx hb dX9_spread_207 hl (k := 2) rfl (ni_inc _) (by decide) rfl (fun ls hl => ?_)
                refine lv_goto (tgt := 29) hx hb dX9_spread_210 (by decide) ?_
                exact ihj_147 (j_147 + 1) m_188 m_188 f_193 f_194 g_189 g_190 _ _ _ (by omega) (by omega) (by omega) (by omega) hP hD hS (lv_sub hl [0, 3, 4] rfl)
              · skip
                have c_192 : ¬ m_148 ≤ j_187 := fun q => c_192 ((ni_le rfl rfl (by omega) (by omega)).mpr q)
                refine lv_aload_n hx hb dX9_spread_66 rfl (lv_at hl 3 rfl) ?_
                refine x_get S hK hP 0 rfl cfX9 1 lkX9_29 (by decide) rfl dX9_spread_67 ?_
                refine lv_iload_n hx hb dX9_spread_70 rfl (lv_at hl 2 rfl) ?_
                refine lv_iconst (v := 1) hx hb dX9_spread_71 (by decide) ?_
                refine lv_iadd hx hb dX9_spread_72 ?_
                refine x_is (nI (j_147 + 1)) (ni_add rfl (by decide)) ?_
                refine lv_aload_n hx hb dX9_spread_73 rfl (lv_at hl 3 rfl) ?_
                refine x_get S hK hP 0 rfl cfX9 1 lkX9_29 (by decide) rfl dX9_spread_74 ?_
                refine lv_iload_n hx hb dX9_spread_77 rfl (lv_at hl 1 rfl) ?_
                refine lv_aload_n hx hb dX9_spread_78 rfl (lv_at hl 3 rfl) ?_
                refine x_get S hK hP 0 rfl cfX9 3 lkX9_11 (by decide) rfl dX9_spread_79 ?_
                refine lv_iload hx hb dX9_spread_82 (lv_at hl 0 rfl) ?_
                refine x_iald S hK hP 1 rfl (vp_in_nI (by omega) (by decide)) dX9_spread_84 ?_
                refine lv_topi (fun v_195 ev_195 => ?_)
                refine x_roVi (As := [.int r_157, .int v_195]) S hK hP hD hZ (fun _ h => h) hA hS hA hl mwX1_passTo lkX9_68 (ctX1_passTo_c l D k z o clawNow charder ctold creply cwet f72 f69 f70 f71 glines ghours glaw godds grows gheads gsayings gslugs gacts f26 f30 f31 r_157 v_195 (by omega) (by omega) (by omega) (by omega) (by omega) (by omega)) [5, 6, 7, 8, 9, 10, 11, 12, 13, 14] rfl (by decide) rfl rfl rfl rfl rfl ⟨Nat.le_of_ble_eq_true rfl, Nat.le_of_ble_eq_true rfl, Nat.le_of_ble_eq_true rfl⟩ dX9_spread_85 ⟨Nat.le_of_ble_eq_true rfl, Nat.le_of_ble_eq_true rfl⟩ (fun r_196 H locs hr_196 hP hS => ?_)
                refine x_roVi (As := [.int (nI (j_147 + 1)), .int r_196]) S hK hP hD hZ (fun _ h => h) hA hS hA hl mwX1_arrive lkX9_71 (ctX1_arrive_c l D k z o clawNow charder ctold creply cwet f72 f69 f70 f71 glines ghours glaw godds grows gheads gsayings gslugs gacts f26 f30 f31 (j_147 + 1) r_196 (by omega) (by omega) (by omega) (by omega) (by omega) (by omega) (by omega)) [5, 6, 7, 8, 9, 10, 11, 12, 13, 14] rfl (by decide) rfl rfl rfl rfl rfl ⟨Nat.le_of_ble_eq_true rfl, Nat.le_of_ble_eq_true rfl, Nat.le_of_ble_eq_true rfl⟩ dX9_spread_88 ⟨Nat.le_of_ble_eq_true rfl, Nat.le_of_ble_eq_true rfl⟩ (fun r_198 H locs hr_198 hP hS => ?_)
                refine lv_istore (lv' := [(5, .int r_198), (4, .int (nI j_187)), (3, .int r_157), (2, .int (nI j_147)), (0, .ref (o 12)), (1, .int (nI p0))]) hx hb dX9_spread_91 hl (by decide) rfl (fun ls hl => ?_)
                refine lv_aload_n hx hb dX9_spread_93 rfl (lv_at hl 4 rfl) ?_
                refine x_get S hK hP 0 rfl cfX9 1 lkX9_29 (by decide) rfl dX9_spread_94 ?_
                refine lv_iload_n hx hb dX9_spread_97 rfl (lv_at hl 3 rfl) ?_
                refine lv_iconst (v := 1) hx hb dX9_spread_98 (by decide) ?_
                refine lv_iadd hx hb dX9_spread_99 ?_
                refine x_is (nI (j_147 + 1)) (ni_add rfl (by decide)) ?_
                refine lv_aload_n hx hb dX9_spread_100 rfl (lv_at hl 4 rfl) ?_
                refine x_get S hK hP 0 rfl cfX9 3 lkX9_11 (by decide) rfl dX9_spread_101 ?_
                refine lv_iload hx hb dX9_spread_104 (lv_at hl 1 rfl) ?_
                refine x_iald S hK hP 1 rfl (vp_in_nI (by omega) (by decide)) dX9_spread_106 ?_
                refine lv_topi (fun v_200 ev_200 => ?_)
                refine x_roVi (As := [.int (nI (j_147 + 1)), .int v_200]) S hK hP hD hZ (fun _ h => h) hA hS hA hl mwX1_arrive lkX9_71 (ctX1_arrive_c l D k z o clawNow charder ctold creply cwet f72 f69 f70 f71 glines ghours glaw godds grows gheads gsayings gslugs gacts f26 f30 f31 (j_147 + 1) v_200 (by omega) (by omega) (by omega) (by omega) (by omega) (by omega) (by omega)) [5, 6, 7, 8, 9, 10, 11, 12, 13, 14] rfl (by decide) rfl rfl rfl rfl rfl ⟨Nat.le_of_ble_eq_true rfl, Nat.le_of_ble_eq_true rfl, Nat.le_of_ble_eq_true rfl⟩ dX9_spread_107 ⟨Nat.le_of_ble_eq_true rfl, Nat.le_of_ble_eq_true rfl⟩ (fun r_201 H locs hr_201 hP hS => ?_)
                refine lv_istore (lv' := [(6, .int r_201), (5, .int r_198), (4, .int (nI j_187)), (3, .int r_157), (2, .int (nI j_147)), (0, .ref (o 12)), (1, .int (nI p0))]) hx hb dX9_spread_110 hl (by decide) rfl (fun ls hl => ?_)
                refine lv_aload_n hx hb dX9_spread_112 rfl (lv_at hl 5 rfl) ?_
                refine lv_iload hx hb dX9_spread_113 (lv_at hl 1 rfl) ?_
                refine lv_aload_n hx hb dX9_spread_115 rfl (lv_at hl 5 rfl) ?_
                refine x_get S hK hP 0 rfl cfX9 4 lkX9_15 (by decide) rfl dX9_spread_116 ?_
                refine lv_iload hx hb dX9_spread_119 (lv_at hl 2 rfl) ?_
                refine x_lald S hK hP 2 rfl (vp_in_nI (by omega) (by decide)) dX9_spread_121 ?_
                refine lv_topl (fun v_203 ev_203 => ?_)
                refine lv_bipush (v := 10) hx hb dX9_spread_122 (by decide) ?_
                refine lv_aload_n hx hb dX9_spread_124 rfl (lv_at hl 5 rfl) ?_
                refine x_get S hK hP 0 rfl cfX9 0 lkX9_25 (by decide) rfl dX9_spread_125 ?_
                refine x_get S hK hP 11 rfl cfX2 3 lkX9_74 (by decide) rfl dX9_spread_128 ?_
                refine lv_isub hx hb dX9_spread_131 ?_
                refine lv_topi (fun v_204 ev_204 => ?_)
                refine lv_i2l (v := v_204.toInt64) hx hb dX9_spread_132 rfl ?_
                refine lv_lmul hx hb dX9_spread_133 ?_
                refine lv_topl (fun v_205 ev_205 => ?_)
                refine x_muVv (wr := []) (As := [.int r_198, .long v_205]) S hK hP hD hZ hS hA hl mwX9_addNext lkX9_79 (ctX9_addNext l D k z o m_148 m_188 g_150 g_151 g_189 g_190 clawNow charder ctold creply cwet f72 f69 f70 f71 glines ghours glaw godds grows gheads gsayings gslugs gacts f26 f30 f31 r_198 v_205 (by omega) (by omega) (by omega) (by omega) (by omega) (by omega) (by omega) (by omega)) [0, 1, 2, 3, 4, 5, 6, 7, 8, 9, 10, 11, 12, 13, 14] [] rfl rfl (by decide) (by decide) (by decide) rfl rfl rfl rfl rfl ⟨Nat.le_of_ble_eq_true rfl, Nat.le_of_ble_eq_true rfl, Nat.le_of_ble_eq_true rfl⟩ dX9_spread_134 ⟨Nat.le_of_ble_eq_true rfl, Nat.le_of_ble_eq_true rfl⟩ (fun u_207 H locs hr_206 hP hD hS => ?_)
                have hP : va_P D vwCl [((o 12), .inr (9, [.ref (o 3), .ref (o 5), .ref (o 6), .ref (o 81), .ref (o 82), .int (nI m_148), .ref (o 83), .ref (o 84), .int (nI (u_207.2.1 0))])), ((o 81), .inl (k 0, 256, .inl g_150)), ((o 82), .inl (k 2, 256, .inr (.inl g_151))), ((o 83), .inl (k 0, 256, .inl (u_207.2.2.1 0))), ((o 84), .inl (k 2, 256, .inr (.inl (u_207.2.2.2.1 0)))), ((o 5), .inr (1, [.ref (o 3), .ref (o 4), .int clawNow, .int charder, .int ctold, .int creply, .int cwet, .ref (o 72)])), ((o 72), .inl (k 0, 17, .inl f72)), ((o 4), .inr (3, [.ref (o 69), .ref (o 70), .ref (o 71)])), ((o 69), .inl (k 0, 17, .inl f69)), ((o 70), .inl (k 0, 17, .inl f70)), ((o 71), .inl (k 0, 17, .inl f71)), ((o 3), .inr (2, [.int glines, .int (nI ghours), .int glaw, .int godds, .int (nI grows), .int (nI gheads), .int (nI gsayings), .int (nI gslugs), .int (nI gacts), .ref (o 26), .ref (o 27), .ref (o 28), .ref (o 29), .ref (o 30), .ref (o 31), .ref (o 32), .ref (o 33), .ref (o 34), .ref (o 35)])), ((o 26), .inl (k 0, 12, .inl f26)), ((o 30), .inl (k 0, 12, .inl f30)), ((o 31), .inl (k 0, 12, .inl f31))] H := hP.sub [0, 1, 2, 3, 4, 5, 6, 7, 8, 9, 10, 11, 12, 13, 14] rfl
                have hD : va_D A [((o 12), .inr (9, [.ref (o 3), .ref (o 5), .ref (o 6), .ref (o 81), .ref (o 82), .int (nI m_148), .ref (o 83), .ref (o 84), .int (nI (u_207.2.1 0))])), ((o 81), .inl (k 0, 256, .inl g_150)), ((o 82), .inl (k 2, 256, .inr (.inl g_151))), ((o 83), .inl (k 0, 256, .inl (u_207.2.2.1 0))), ((o 84), .inl (k 2, 256, .inr (.inl (u_207.2.2.2.1 0)))), ((o 5), .inr (1, [.ref (o 3), .ref (o 4), .int clawNow, .int charder, .int ctold, .int creply, .int cwet, .ref (o 72)])), ((o 72), .inl (k 0, 17, .inl f72)), ((o 4), .inr (3, [.ref (o 69), .ref (o 70), .ref (o 71)])), ((o 69), .inl (k 0, 17, .inl f69)), ((o 70), .inl (k 0, 17, .inl f70)), ((o 71), .inl (k 0, 17, .inl f71)), ((o 3), .inr (2, [.int glines, .int (nI ghours), .int glaw, .int godds, .int (nI grows), .int (nI gheads), .int (nI gsayings), .int (nI gslugs), .int (nI gacts), .ref (o 26), .ref (o 27), .ref (o 28), .ref (o 29), .ref (o 30), .ref (o 31), .ref (o 32), .ref (o 33), .ref (o 34), .ref (o 35)])), ((o 26), .inl (k 0, 12, .inl f26)), ((o 30), .inl (k 0, 12, .inl f30)), ((o 31), .inl (k 0, 12, .inl f31))] := hD.sub [0, 1, 2, 3, 4, 5, 6, 7, 8, 9, 10, 11, 12, 13, 14] (by decide) rfl
                have hg_208 := hr_206
                refine lv_aload_n hx hb dX9_spread_137 rfl (lv_at hl 5 rfl) ?_
                refine lv_iload hx hb dX9_spread_138 (lv_at hl 0 rfl) ?_
                refine lv_aload_n hx hb dX9_spread_140 rfl (lv_at hl 5 rfl) ?_
                refine x_get S hK hP 0 rfl cfX9 4 lkX9_15 (by decide) rfl dX9_spread_141 ?_
                refine lv_iload hx hb dX9_spread_144 (lv_at hl 2 rfl) ?_
                refine x_lald S hK hP 2 rfl (vp_in_nI (by omega) (by decide)) dX9_spread_146 ?_
                refine lv_topl (fun v_209 ev_209 => ?_)
                refine lv_aload_n hx hb dX9_spread_147 rfl (lv_at hl 5 rfl) ?_
                refine x_get S hK hP 0 rfl cfX9 0 lkX9_25 (by decide) rfl dX9_spread_148 ?_
                refine x_get S hK hP 11 rfl cfX2 3 lkX9_74 (by decide) rfl dX9_spread_151 ?_
                refine lv_i2l (v := godds.toInt64) hx hb dX9_spread_154 rfl ?_
                refine lv_lmul hx hb dX9_spread_155 ?_
                refine lv_topl (fun v_210 ev_210 => ?_)
                refine x_muVv (wr := []) (As := [.int r_201, .long v_210]) S hK hP hD hZ hS hA hl mwX9_addNext lkX9_79 (ctX9_addNext l D k z o m_148 (u_207.2.1 0) g_150 g_151 (u_207.2.2.1 0) (u_207.2.2.2.1 0) clawNow charder ctold creply cwet f72 f69 f70 f71 glines ghours glaw godds grows gheads gsayings gslugs gacts f26 f30 f31 r_201 v_210 (by omega) (by omega) (by omega) (by omega) (by omega) (by omega) (by omega) (by omega)) [0, 1, 2, 3, 4, 5, 6, 7, 8, 9, 10, 11, 12, 13, 14] [] rfl rfl (by decide) (by decide) (by decide) rfl rfl rfl rfl rfl ⟨Nat.le_of_ble_eq_true rfl, Nat.le_of_ble_eq_true rfl, Nat.le_of_ble_eq_true rfl⟩ dX9_spread_156 ⟨Nat.le_of_ble_eq_true rfl, Nat.le_of_ble_eq_true rfl⟩ (fun u_212 H locs hr_211 hP hD hS => ?_)
                have hP : va_P D vwCl [((o 12), .inr (9, [.ref (o 3), .ref (o 5), .ref (o 6), .ref (o 81), .ref (o 82), .int (nI m_148), .ref (o 83), .ref (o 84), .int (nI (u_212.2.1 0))])), ((o 81), .inl (k 0, 256, .inl g_150)), ((o 82), .inl (k 2, 256, .inr (.inl g_151))), ((o 83), .inl (k 0, 256, .inl (u_212.2.2.1 0))), ((o 84), .inl (k 2, 256, .inr (.inl (u_212.2.2.2.1 0)))), ((o 5), .inr (1, [.ref (o 3), .ref (o 4), .int clawNow, .int charder, .int ctold, .int creply, .int cwet, .ref (o 72)])), ((o 72), .inl (k 0, 17, .inl f72)), ((o 4), .inr (3, [.ref (o 69), .ref (o 70), .ref (o 71)])), ((o 69), .inl (k 0, 17, .inl f69)), ((o 70), .inl (k 0, 17, .inl f70)), ((o 71), .inl (k 0, 17, .inl f71)), ((o 3), .inr (2, [.int glines, .int (nI ghours), .int glaw, .int godds, .int (nI grows), .int (nI gheads), .int (nI gsayings), .int (nI gslugs), .int (nI gacts), .ref (o 26), .ref (o 27), .ref (o 28), .ref (o 29), .ref (o 30), .ref (o 31), .ref (o 32), .ref (o 33), .ref (o 34), .ref (o 35)])), ((o 26), .inl (k 0, 12, .inl f26)), ((o 30), .inl (k 0, 12, .inl f30)), ((o 31), .inl (k 0, 12, .inl f31))] H := hP.sub [0, 1, 2, 3, 4, 5, 6, 7, 8, 9, 10, 11, 12, 13, 14] rfl
                have hD : va_D A [((o 12), .inr (9, [.ref (o 3), .ref (o 5), .ref (o 6), .ref (o 81), .ref (o 82), .int (nI m_148), .ref (o 83), .ref (o 84), .int (nI (u_212.2.1 0))])), ((o 81), .inl (k 0, 256, .inl g_150)), ((o 82), .inl (k 2, 256, .inr (.inl g_151))), ((o 83), .inl (k 0, 256, .inl (u_212.2.2.1 0))), ((o 84), .inl (k 2, 256, .inr (.inl (u_212.2.2.2.1 0)))), ((o 5), .inr (1, [.ref (o 3), .ref (o 4), .int clawNow, .int charder, .int ctold, .int creply, .int cwet, .ref (o 72)])), ((o 72), .inl (k 0, 17, .inl f72)), ((o 4), .inr (3, [.ref (o 69), .ref (o 70), .ref (o 71)])), ((o 69), .inl (k 0, 17, .inl f69)), ((o 70), .inl (k 0, 17, .inl f70)), ((o 71), .inl (k 0, 17, .inl f71)), ((o 3), .inr (2, [.int glines, .int (nI ghours), .int glaw, .int godds, .int (nI grows), .int (nI gheads), .int (nI gsayings), .int (nI gslugs), .int (nI gacts), .ref (o 26), .ref (o 27), .ref (o 28), .ref (o 29), .ref (o 30), .ref (o 31), .ref (o 32), .ref (o 33), .ref (o 34), .ref (o 35)])), ((o 26), .inl (k 0, 12, .inl f26)), ((o 30), .inl (k 0, 12, .inl f30)), ((o 31), .inl (k 0, 12, .inl f31))] := hD.sub [0, 1, 2, 3, 4, 5, 6, 7, 8, 9, 10, 11, 12, 13, 14] (by decide) rfl
                have hg_213 := hr_211
                refine lv_iinc (v := (nI (j_187 + 1))) (lv' := [(4, .int (nI (j_187 + 1))), (6, .int r_201), (5, .int r_198), (3, .int r_157), (2, .int (nI j_147)), (0, .ref (o 12)), (1, .int (nI p0))]) hx hb dX9_spread_159 hl (k := 2) rfl (ni_inc _) (by decide) rfl (fun ls hl => ?_)
                refine lv_goto (tgt := 57) hx hb dX9_spread_162 (by decide) ?_
                exact ihj_187 (j_187 + 1) (u_212.2.1 0) (u_212.2.2.1 0) (u_212.2.2.2.1 0) _ _ _ (by omega) (by omega) (by omega) hP hD hS (lv_sub hl [0, 3, 4, 5, 6] rfl)
          exact lp_191 (m_148 + 1) 0 0 g_152 g_153 _ _ _ (by omega) (by omega) (by omega) hP hD hS (lv_sub hl [0, 1, 2, 3, 4] rfl)
  exact lp_154 (p0 + 1 + 1) 0 1 wnext f_2 f_3 f83 f84 _ _ _ (by omega) (by omega) (by omega) (by omega) hP hD hS (lv_sub hl [0, 1, 2] rfl)

set_option maxHeartbeats 4000000 in
set_option maxRecDepth 100000 in
theorem ctX9_weightOfView (l : Launch) (D : va_G) (k : Nat → ClassId) (z : Nat → Nat) (o : Nat → Nat) (wsize : Nat) (wnext : Nat) (f81 : Nat → Int32) (f82 : Nat → Int64) (f83 : Nat → Int32) (f84 : Nat → Int64) (clawNow : Int32) (charder : Int32) (ctold : Int32) (creply : Int32) (cwet : Int32) (f72 : Nat → Int32) (f69 : Nat → Int32) (f70 : Nat → Int32) (f71 : Nat → Int32) (glines : Int32) (ghours : Nat) (glaw : Int32) (godds : Int32) (grows : Nat) (gheads : Nat) (gsayings : Nat) (gslugs : Nat) (gacts : Nat) (f26 : Nat → Int32) (f30 : Nat → Int32) (f31 : Nat → Int32) (p0 : Int32) (p1 : Int32) (p2 : Nat) (hwsize : wsize ≤ 256) (hwnext : wnext ≤ 256) (hghours : ghours ≤ 16) (hgrows : grows ≤ 4) (hgheads : gheads ≤ 12) (hgsayings : gsayings ≤ 8) (hgslugs : gslugs ≤ 4) (hgacts : gacts ≤ 30) (hp2 : p2 ≤ 7) : MU l yX9_weightOfView cX9_weightOfView 7 (some .long) 4 D k z [.ref (o 12), .int p0, .int p1, .int (nI p2)] [((o 12), .inr (9, [.ref (o 3), .ref (o 5), .ref (o 6), .ref (o 81), .ref (o 82), .int (nI wsize), .ref (o 83), .ref (o 84), .int (nI wnext)])), ((o 81), .inl (k 0, 256, .inl f81)), ((o 82), .inl (k 2, 256, .inr (.inl f82))), ((o 83), .inl (k 0, 256, .inl f83)), ((o 84), .inl (k 2, 256, .inr (.inl f84))), ((o 5), .inr (1, [.ref (o 3), .ref (o 4), .int clawNow, .int charder, .int ctold, .int creply, .int cwet, .ref (o 72)])), ((o 72), .inl (k 0, 17, .inl f72)), ((o 4), .inr (3, [.ref (o 69), .ref (o 70), .ref (o 71)])), ((o 69), .inl (k 0, 17, .inl f69)), ((o 70), .inl (k 0, 17, .inl f70)), ((o 71), .inl (k 0, 17, .inl f71)), ((o 3), .inr (2, [.int glines, .int (nI ghours), .int glaw, .int godds, .int (nI grows), .int (nI gheads), .int (nI gsayings), .int (nI gslugs), .int (nI gacts), .ref (o 26), .ref (o 27), .ref (o 28), .ref (o 29), .ref (o 30), .ref (o 31), .ref (o 32), .ref (o 33), .ref (o 34), .ref (o 35)])), ((o 26), .inl (k 0, 12, .inl f26)), ((o 30), .inl (k 0, 12, .inl f30)), ((o 31), .inl (k 0, 12, .inl f31))] 0 0 (Ul D (fun (r : Int64) (u : (Nat → Int32) × (Nat → Nat) × (Nat → Nat → Int32) × (Nat → Nat → Int64) × (Nat → Int64)) => (u.2.1 0 ≤ 256) ∧ (u.2.1 1 ≤ 256)) (fun u : (Nat → Int32) × (Nat → Nat) × (Nat → Nat → Int32) × (Nat → Nat → Int64) × (Nat → Int64) => [((o 12), .inr (9, [.ref (o 3), .ref (o 5), .ref (o 6), .ref (o 81), .ref (o 82), .int (nI (u.2.1 0)), .ref (o 83), .ref (o 84), .int (nI (u.2.1 1))])), ((o 81), .inl (k 0, 256, .inl (u.2.2.1 0))), ((o 82), .inl (k 2, 256, .inr (.inl (u.2.2.2.1 0)))), ((o 83), .inl (k 0, 256, .inl (u.2.2.1 1))), ((o 84), .inl (k 2, 256, .inr (.inl (u.2.2.2.1 1)))), ((o 5), .inr (1, [.ref (o 3), .ref (o 4), .int clawNow, .int charder, .int ctold, .int creply, .int cwet, .ref (o 72)])), ((o 72), .inl (k 0, 17, .inl f72)), ((o 4), .inr (3, [.ref (o 69), .ref (o 70), .ref (o 71)])), ((o 69), .inl (k 0, 17, .inl f69)), ((o 70), .inl (k 0, 17, .inl f70)), ((o 71), .inl (k 0, 17, .inl f71)), ((o 3), .inr (2, [.int glines, .int (nI ghours), .int glaw, .int godds, .int (nI grows), .int (nI gheads), .int (nI gsayings), .int (nI gslugs), .int (nI gacts), .ref (o 26), .ref (o 27), .ref (o 28), .ref (o 29), .ref (o 30), .ref (o 31), .ref (o 32), .ref (o 33), .ref (o 34), .ref (o 35)])), ((o 26), .inl (k 0, 12, .inl f26)), ((o 30), .inl (k 0, 12, .inl f30)), ((o 31), .inl (k 0, 12, .inl f31))])) := by
  refine MU.of (by decide) (Nat.le_of_ble_eq_true rfl) ?_
  intro p e s m below meth c ls A args Q S hr hlk hnm hQ hK hP hD hZ hA hS hl
  have hx := S.1
  have hb := S.2.1
  have hl : lv_has ls 7 [(0, .ref (o 12)), (1, .int p0), (2, .int p1), (3, .int (nI p2))] := hl
  refine lv_aload_n hx hb dX9_weightOfView_0 rfl (lv_at hl 0 rfl) ?_
  refine lv_iload_n hx hb dX9_weightOfView_1 rfl (lv_at hl 3 rfl) ?_
  refine x_muVv (wr := []) (As := [.int (nI p2)]) S hK hP hD hZ hS hA hl mwX9_spread lkX9_38 (ctX9_spread l D k z o wsize wnext f81 f82 f83 f84 clawNow charder ctold creply cwet f72 f69 f70 f71 glines ghours glaw godds grows gheads gsayings gslugs gacts f26 f30 f31 p2 (by omega) (by omega) (by omega) (by omega) (by omega) (by omega) (by omega) (by omega) (by omega)) [0, 1, 2, 3, 4, 5, 6, 7, 8, 9, 10, 11, 12, 13, 14] [] rfl rfl (by decide) (by decide) (by decide) rfl rfl rfl rfl rfl ⟨Nat.le_of_ble_eq_true rfl, Nat.le_of_ble_eq_true rfl, Nat.le_of_ble_eq_true rfl⟩ dX9_weightOfView_2 ⟨Nat.le_of_ble_eq_true rfl, Nat.le_of_ble_eq_true rfl⟩ (fun u_2 H locs hr_1 hP hD hS => ?_)
  have hP : va_P D vwCl [((o 12), .inr (9, [.ref (o 3), .ref (o 5), .ref (o 6), .ref (o 81), .ref (o 82), .int (nI (u_2.2.1 0)), .ref (o 83), .ref (o 84), .int (nI (u_2.2.1 1))])), ((o 81), .inl (k 0, 256, .inl (u_2.2.2.1 0))), ((o 82), .inl (k 2, 256, .inr (.inl (u_2.2.2.2.1 0)))), ((o 83), .inl (k 0, 256, .inl (u_2.2.2.1 1))), ((o 84), .inl (k 2, 256, .inr (.inl (u_2.2.2.2.1 1)))), ((o 5), .inr (1, [.ref (o 3), .ref (o 4), .int clawNow, .int charder, .int ctold, .int creply, .int cwet, .ref (o 72)])), ((o 72), .inl (k 0, 17, .inl f72)), ((o 4), .inr (3, [.ref (o 69), .ref (o 70), .ref (o 71)])), ((o 69), .inl (k 0, 17, .inl f69)), ((o 70), .inl (k 0, 17, .inl f70)), ((o 71), .inl (k 0, 17, .inl f71)), ((o 3), .inr (2, [.int glines, .int (nI ghours), .int glaw, .int godds, .int (nI grows), .int (nI gheads), .int (nI gsayings), .int (nI gslugs), .int (nI gacts), .ref (o 26), .ref (o 27), .ref (o 28), .ref (o 29), .ref (o 30), .ref (o 31), .ref (o 32), .ref (o 33), .ref (o 34), .ref (o 35)])), ((o 26), .inl (k 0, 12, .inl f26)), ((o 30), .inl (k 0, 12, .inl f30)), ((o 31), .inl (k 0, 12, .inl f31))] H := hP.sub [0, 1, 2, 3, 4, 5, 6, 7, 8, 9, 10, 11, 12, 13, 14] rfl
  have hD : va_D A [((o 12), .inr (9, [.ref (o 3), .ref (o 5), .ref (o 6), .ref (o 81), .ref (o 82), .int (nI (u_2.2.1 0)), .ref (o 83), .ref (o 84), .int (nI (u_2.2.1 1))])), ((o 81), .inl (k 0, 256, .inl (u_2.2.2.1 0))), ((o 82), .inl (k 2, 256, .inr (.inl (u_2.2.2.2.1 0)))), ((o 83), .inl (k 0, 256, .inl (u_2.2.2.1 1))), ((o 84), .inl (k 2, 256, .inr (.inl (u_2.2.2.2.1 1)))), ((o 5), .inr (1, [.ref (o 3), .ref (o 4), .int clawNow, .int charder, .int ctold, .int creply, .int cwet, .ref (o 72)])), ((o 72), .inl (k 0, 17, .inl f72)), ((o 4), .inr (3, [.ref (o 69), .ref (o 70), .ref (o 71)])), ((o 69), .inl (k 0, 17, .inl f69)), ((o 70), .inl (k 0, 17, .inl f70)), ((o 71), .inl (k 0, 17, .inl f71)), ((o 3), .inr (2, [.int glines, .int (nI ghours), .int glaw, .int godds, .int (nI grows), .int (nI gheads), .int (nI gsayings), .int (nI gslugs), .int (nI gacts), .ref (o 26), .ref (o 27), .ref (o 28), .ref (o 29), .ref (o 30), .ref (o 31), .ref (o 32), .ref (o 33), .ref (o 34), .ref (o 35)])), ((o 26), .inl (k 0, 12, .inl f26)), ((o 30), .inl (k 0, 12, .inl f30)), ((o 31), .inl (k 0, 12, .inl f31))] := hD.sub [0, 1, 2, 3, 4, 5, 6, 7, 8, 9, 10, 11, 12, 13, 14] (by decide) rfl
  obtain ⟨hg_3, hg_4⟩ := hr_1
  refine lv_lconst (v := 0) hx hb dX9_weightOfView_5 (by decide) ?_
  refine lv_lstore (lv' := [(4, .long 0), (0, .ref (o 12)), (1, .int p0), (2, .int p1), (3, .int (nI p2))]) hx hb dX9_weightOfView_6 hl (by decide) rfl (fun ls hl => ?_)
  refine lv_iconst (v := 0) hx hb dX9_weightOfView_8 (by decide) ?_
  refine lv_istore (lv' := [(6, .int 0), (4, .long 0), (0, .ref (o 12)), (1, .int p0), (2, .int p1), (3, .int (nI p2))]) hx hb dX9_weightOfView_9 hl (by decide) rfl (fun ls hl => ?_)
  have lp_25 : ∀ (nn j_23 : Nat) (x_24 : Int64) (H : Heap) (locs : List Loc) (ls : Array Slot), j_23 ≤ u_2.2.1 0 → u_2.2.1 0 - j_23 < nn → va_P D vwCl [((o 12), .inr (9, [.ref (o 3), .ref (o 5), .ref (o 6), .ref (o 81), .ref (o 82), .int (nI (u_2.2.1 0)), .ref (o 83), .ref (o 84), .int (nI (u_2.2.1 1))])), ((o 81), .inl (k 0, 256, .inl (u_2.2.2.1 0))), ((o 82), .inl (k 2, 256, .inr (.inl (u_2.2.2.2.1 0)))), ((o 83), .inl (k 0, 256, .inl (u_2.2.2.1 1))), ((o 84), .inl (k 2, 256, .inr (.inl (u_2.2.2.2.1 1)))), ((o 5), .inr (1, [.ref (o 3), .ref (o 4), .int clawNow, .int charder, .int ctold, .int creply, .int cwet, .ref (o 72)])), ((o 72), .inl (k 0, 17, .inl f72)), ((o 4), .inr (3, [.ref (o 69), .ref (o 70), .ref (o 71)])), ((o 69), .inl (k 0, 17, .inl f69)), ((o 70), .inl (k 0, 17, .inl f70)), ((o 71), .inl (k 0, 17, .inl f71)), ((o 3), .inr (2, [.int glines, .int (nI ghours), .int glaw, .int godds, .int (nI grows), .int (nI gheads), .int (nI gsayings), .int (nI gslugs), .int (nI gacts), .ref (o 26), .ref (o 27), .ref (o 28), .ref (o 29), .ref (o 30), .ref (o 31), .ref (o 32), .ref (o 33), .ref (o 34), .ref (o 35)])), ((o 26), .inl (k 0, 12, .inl f26)), ((o 30), .inl (k 0, 12, .inl f30)), ((o 31), .inl (k 0, 12, .inl f31))] H → va_D A [((o 12), .inr (9, [.ref (o 3), .ref (o 5), .ref (o 6), .ref (o 81), .ref (o 82), .int (nI (u_2.2.1 0)), .ref (o 83), .ref (o 84), .int (nI (u_2.2.1 1))])), ((o 81), .inl (k 0, 256, .inl (u_2.2.2.1 0))), ((o 82), .inl (k 2, 256, .inr (.inl (u_2.2.2.2.1 0)))), ((o 83), .inl (k 0, 256, .inl (u_2.2.2.1 1))), ((o 84), .inl (k 2, 256, .inr (.inl (u_2.2.2.2.1 1)))), ((o 5), .inr (1, [.ref (o 3), .ref (o 4), .int clawNow, .int charder, .int ctold, .int creply, .int cwet, .ref (o 72)])), ((o 72), .inl (k 0, 17, .inl f72)), ((o 4), .inr (3, [.ref (o 69), .ref (o 70), .ref (o 71)])), ((o 69), .inl (k 0, 17, .inl f69)), ((o 70), .inl (k 0, 17, .inl f70)), ((o 71), .inl (k 0, 17, .inl f71)), ((o 3), .inr (2, [.int glines, .int (nI ghours), .int glaw, .int godds, .int (nI grows), .int (nI gheads), .int (nI gsayings), .int (nI gslugs), .int (nI gacts), .ref (o 26), .ref (o 27), .ref (o 28), .ref (o 29), .ref (o 30), .ref (o 31), .ref (o 32), .ref (o 33), .ref (o 34), .ref (o 35)])), ((o 26), .inl (k 0, 12, .inl f26)), ((o 30), .inl (k 0, 12, .inl f30)), ((o 31), .inl (k 0, 12, .inl f31))] → va_S A s.heap H locs → lv_has ls 7 [(6, .int (nI j_23)), (4, .long x_24), (0, .ref (o 12)), (1, .int p0), (2, .int p1), (3, .int (nI p2))] → W p l e (Rm 4 0 0) s m args below meth c H locs 0 0 Q (F0 m 11 ls []) := by
    intro nn
    induction nn with
    | zero => intro j_23 x_24 H locs ls hjj_23 hnj_23; exact absurd hnj_23 (by omega)
    | succ nn ihj_23 =>
      intro j_23 x_24 H locs ls hjj_23 hnj_23 hP hD hS hl
      refine lv_iload hx hb dX9_weightOfView_11 (lv_at hl 0 rfl) ?_
      refine lv_aload_n hx hb dX9_weightOfView_13 rfl (lv_at hl 2 rfl) ?_
      refine x_get S hK hP 0 rfl cfX9 5 lkX9_42 (by decide) rfl dX9_weightOfView_14 ?_
      refine lv_icmp_ge (tgt := 53) hx hb dX9_weightOfView_17 (by decide) (fun c_26 => ?_) (fun c_26 => ?_)
      · skip
        have c_26 : u_2.2.1 0 ≤ j_23 := (ni_le rfl rfl (by omega) (by omega)).mp c_26
        refine lv_lload hx hb dX9_weightOfView_53 (lv_at hl 1 rfl) ?_
        exact x_retl S hr hlk hQ hS ((fun i => ([] : List (Int32)).getD i 0), (fun i => ([u_2.2.1 0, u_2.2.1 1] : List (Nat)).getD i 0), (fun i => ([(u_2.2.2.1 0), (u_2.2.2.1 1)] : List (Nat → Int32)).getD i (fun _ => 0)), (fun i => ([(u_2.2.2.2.1 0), (u_2.2.2.2.1 1)] : List (Nat → Int64)).getD i (fun _ => 0)), (fun i => ([] : List (Int64)).getD i 0)) ⟨(show u_2.2.1 0 ≤ 256 by omega), (show u_2.2.1 1 ≤ 256 by omega)⟩ (x_B hP hD) dX9_weightOfView_55
      · skip
        have c_26 : ¬ u_2.2.1 0 ≤ j_23 := fun q => c_26 ((ni_le rfl rfl (by omega) (by omega)).mpr q)
        refine lv_aload_n hx hb dX9_weightOfView_20 rfl (lv_at hl 2 rfl) ?_
        refine x_get S hK hP 0 rfl cfX9 3 lkX9_11 (by decide) rfl dX9_weightOfView_21 ?_
        refine lv_iload hx hb dX9_weightOfView_24 (lv_at hl 0 rfl) ?_
        refine x_iald S hK hP 1 rfl (vp_in_nI (by omega) (by decide)) dX9_weightOfView_26 ?_
        refine lv_topi (fun v_27 ev_27 => ?_)
        refine lv_iload_n hx hb dX9_weightOfView_27 rfl (lv_at hl 3 rfl) ?_
        refine x_roSNi (As := [.int v_27, .int p0]) S hK hP hD hZ (fun _ h => h) hA hS hA hl mwX10_viewIn lkX9_46 (ctX10_viewIn l D k z v_27 p0 ) [] rfl (by decide) rfl rfl ⟨Nat.le_of_ble_eq_true rfl, Nat.le_of_ble_eq_true rfl, Nat.le_of_ble_eq_true rfl⟩ dX9_weightOfView_28 ⟨Nat.le_of_ble_eq_true rfl, Nat.le_of_ble_eq_true rfl⟩ (fun r_28 H locs hr_28 hP hS => ?_)
        refine lv_iload_n hx hb dX9_weightOfView_31 rfl (lv_at hl 4 rfl) ?_
        refine lv_icmp_ne (tgt := 47) hx hb dX9_weightOfView_32 (by decide) (fun c_30 => ?_) (fun c_30 => ?_)
        · skip
          refine lv_iinc (v := (nI (j_23 + 1))) (lv' := [(6, .int (nI (j_23 + 1))), (4, .long x_24), (0, .ref (o 12)), (1, .int p0), (2, .int p1), (3, .int (nI p2))]) hx hb dX9_weightOfView_47 hl (k := 0) rfl (ni_inc _) (by decide) rfl (fun ls hl => ?_)
          refine lv_goto (tgt := 11) hx hb dX9_weightOfView_50 (by decide) ?_
          exact ihj_23 (j_23 + 1) x_24 _ _ _ (by omega) (by omega) hP hD hS (lv_sub hl [0, 1, 2, 3, 4, 5] rfl)
        · skip
          refine lv_lload hx hb dX9_weightOfView_35 (lv_at hl 1 rfl) ?_
          refine lv_aload_n hx hb dX9_weightOfView_37 rfl (lv_at hl 2 rfl) ?_
          refine x_get S hK hP 0 rfl cfX9 4 lkX9_15 (by decide) rfl dX9_weightOfView_38 ?_
          refine lv_iload hx hb dX9_weightOfView_41 (lv_at hl 0 rfl) ?_
          refine x_lald S hK hP 2 rfl (vp_in_nI (by omega) (by decide)) dX9_weightOfView_43 ?_
          refine lv_topl (fun v_31 ev_31 => ?_)
          refine lv_ladd hx hb dX9_weightOfView_44 ?_
          refine lv_topl (fun v_32 ev_32 => ?_)
          refine lv_lstore (lv' := [(4, .long v_32), (6, .int (nI j_23)), (0, .ref (o 12)), (1, .int p0), (2, .int p1), (3, .int (nI p2))]) hx hb dX9_weightOfView_45 hl (by decide) rfl (fun ls hl => ?_)
          refine lv_iinc (v := (nI (j_23 + 1))) (lv' := [(6, .int (nI (j_23 + 1))), (4, .long v_32), (0, .ref (o 12)), (1, .int p0), (2, .int p1), (3, .int (nI p2))]) hx hb dX9_weightOfView_47 hl (k := 1) rfl (ni_inc _) (by decide) rfl (fun ls hl => ?_)
          refine lv_goto (tgt := 11) hx hb dX9_weightOfView_50 (by decide) ?_
          exact ihj_23 (j_23 + 1) v_32 _ _ _ (by omega) (by omega) hP hD hS (lv_sub hl [0, 1, 2, 3, 4, 5] rfl)
  exact lp_25 (u_2.2.1 0 + 1) 0 0 _ _ _ (by omega) (by omega) hP hD hS (lv_sub hl [0, 1, 2, 3, 4, 5] rfl)

set_option maxHeartbeats 4000000 in
set_option maxRecDepth 100000 in
theorem ctX9_weightOfOnes (l : Launch) (D : va_G) (k : Nat → ClassId) (z : Nat → Nat) (o : Nat → Nat) (wsize : Nat) (wnext : Nat) (f81 : Nat → Int32) (f82 : Nat → Int64) (f83 : Nat → Int32) (f84 : Nat → Int64) (clawNow : Int32) (charder : Int32) (ctold : Int32) (creply : Int32) (cwet : Int32) (f72 : Nat → Int32) (f69 : Nat → Int32) (f70 : Nat → Int32) (f71 : Nat → Int32) (glines : Int32) (ghours : Nat) (glaw : Int32) (godds : Int32) (grows : Nat) (gheads : Nat) (gsayings : Nat) (gslugs : Nat) (gacts : Nat) (f26 : Nat → Int32) (f30 : Nat → Int32) (f31 : Nat → Int32) (p0 : Nat) (hwsize : wsize ≤ 256) (hwnext : wnext ≤ 256) (hghours : ghours ≤ 16) (hgrows : grows ≤ 4) (hgheads : gheads ≤ 12) (hgsayings : gsayings ≤ 8) (hgslugs : gslugs ≤ 4) (hgacts : gacts ≤ 30) (hp0 : p0 ≤ 7) : MU l yX9_weightOfOnes cX9_weightOfOnes 5 (some .long) 4 D k z [.ref (o 12), .int (nI p0)] [((o 12), .inr (9, [.ref (o 3), .ref (o 5), .ref (o 6), .ref (o 81), .ref (o 82), .int (nI wsize), .ref (o 83), .ref (o 84), .int (nI wnext)])), ((o 81), .inl (k 0, 256, .inl f81)), ((o 82), .inl (k 2, 256, .inr (.inl f82))), ((o 83), .inl (k 0, 256, .inl f83)), ((o 84), .inl (k 2, 256, .inr (.inl f84))), ((o 5), .inr (1, [.ref (o 3), .ref (o 4), .int clawNow, .int charder, .int ctold, .int creply, .int cwet, .ref (o 72)])), ((o 72), .inl (k 0, 17, .inl f72)), ((o 4), .inr (3, [.ref (o 69), .ref (o 70), .ref (o 71)])), ((o 69), .inl (k 0, 17, .inl f69)), ((o 70), .inl (k 0, 17, .inl f70)), ((o 71), .inl (k 0, 17, .inl f71)), ((o 3), .inr (2, [.int glines, .int (nI ghours), .int glaw, .int godds, .int (nI grows), .int (nI gheads), .int (nI gsayings), .int (nI gslugs), .int (nI gacts), .ref (o 26), .ref (o 27), .ref (o 28), .ref (o 29), .ref (o 30), .ref (o 31), .ref (o 32), .ref (o 33), .ref (o 34), .ref (o 35)])), ((o 26), .inl (k 0, 12, .inl f26)), ((o 30), .inl (k 0, 12, .inl f30)), ((o 31), .inl (k 0, 12, .inl f31))] 0 0 (Ul D (fun (r : Int64) (u : (Nat → Int32) × (Nat → Nat) × (Nat → Nat → Int32) × (Nat → Nat → Int64) × (Nat → Int64)) => (u.2.1 0 ≤ 256) ∧ (u.2.1 1 ≤ 256)) (fun u : (Nat → Int32) × (Nat → Nat) × (Nat → Nat → Int32) × (Nat → Nat → Int64) × (Nat → Int64) => [((o 12), .inr (9, [.ref (o 3), .ref (o 5), .ref (o 6), .ref (o 81), .ref (o 82), .int (nI (u.2.1 0)), .ref (o 83), .ref (o 84), .int (nI (u.2.1 1))])), ((o 81), .inl (k 0, 256, .inl (u.2.2.1 0))), ((o 82), .inl (k 2, 256, .inr (.inl (u.2.2.2.1 0)))), ((o 83), .inl (k 0, 256, .inl (u.2.2.1 1))), ((o 84), .inl (k 2, 256, .inr (.inl (u.2.2.2.1 1)))), ((o 5), .inr (1, [.ref (o 3), .ref (o 4), .int clawNow, .int charder, .int ctold, .int creply, .int cwet, .ref (o 72)])), ((o 72), .inl (k 0, 17, .inl f72)), ((o 4), .inr (3, [.ref (o 69), .ref (o 70), .ref (o 71)])), ((o 69), .inl (k 0, 17, .inl f69)), ((o 70), .inl (k 0, 17, .inl f70)), ((o 71), .inl (k 0, 17, .inl f71)), ((o 3), .inr (2, [.int glines, .int (nI ghours), .int glaw, .int godds, .int (nI grows), .int (nI gheads), .int (nI gsayings), .int (nI gslugs), .int (nI gacts), .ref (o 26), .ref (o 27), .ref (o 28), .ref (o 29), .ref (o 30), .ref (o 31), .ref (o 32), .ref (o 33), .ref (o 34), .ref (o 35)])), ((o 26), .inl (k 0, 12, .inl f26)), ((o 30), .inl (k 0, 12, .inl f30)), ((o 31), .inl (k 0, 12, .inl f31))])) := by
  refine MU.of (by decide) (Nat.le_of_ble_eq_true rfl) ?_
  intro p e s m below meth c ls A args Q S hr hlk hnm hQ hK hP hD hZ hA hS hl
  have hx := S.1
  have hb := S.2.1
  have hl : lv_has ls 5 [(0, .ref (o 12)), (1, .int (nI p0))] := hl
  refine lv_aload_n hx hb dX9_weightOfOnes_0 rfl (lv_at hl 0 rfl) ?_
  refine lv_iload_n hx hb dX9_weightOfOnes_1 rfl (lv_at hl 1 rfl) ?_
  refine x_muVv (wr := []) (As := [.int (nI p0)]) S hK hP hD hZ hS hA hl mwX9_spread lkX9_38 (ctX9_spread l D k z o wsize wnext f81 f82 f83 f84 clawNow charder ctold creply cwet f72 f69 f70 f71 glines ghours glaw godds grows gheads gsayings gslugs gacts f26 f30 f31 p0 (by omega) (by omega) (by omega) (by omega) (by omega) (by omega) (by omega) (by omega) (by omega)) [0, 1, 2, 3, 4, 5, 6, 7, 8, 9, 10, 11, 12, 13, 14] [] rfl rfl (by decide) (by decide) (by decide) rfl rfl rfl rfl rfl ⟨Nat.le_of_ble_eq_true rfl, Nat.le_of_ble_eq_true rfl, Nat.le_of_ble_eq_true rfl⟩ dX9_weightOfOnes_2 ⟨Nat.le_of_ble_eq_true rfl, Nat.le_of_ble_eq_true rfl⟩ (fun u_2 H locs hr_1 hP hD hS => ?_)
  have hP : va_P D vwCl [((o 12), .inr (9, [.ref (o 3), .ref (o 5), .ref (o 6), .ref (o 81), .ref (o 82), .int (nI (u_2.2.1 0)), .ref (o 83), .ref (o 84), .int (nI (u_2.2.1 1))])), ((o 81), .inl (k 0, 256, .inl (u_2.2.2.1 0))), ((o 82), .inl (k 2, 256, .inr (.inl (u_2.2.2.2.1 0)))), ((o 83), .inl (k 0, 256, .inl (u_2.2.2.1 1))), ((o 84), .inl (k 2, 256, .inr (.inl (u_2.2.2.2.1 1)))), ((o 5), .inr (1, [.ref (o 3), .ref (o 4), .int clawNow, .int charder, .int ctold, .int creply, .int cwet, .ref (o 72)])), ((o 72), .inl (k 0, 17, .inl f72)), ((o 4), .inr (3, [.ref (o 69), .ref (o 70), .ref (o 71)])), ((o 69), .inl (k 0, 17, .inl f69)), ((o 70), .inl (k 0, 17, .inl f70)), ((o 71), .inl (k 0, 17, .inl f71)), ((o 3), .inr (2, [.int glines, .int (nI ghours), .int glaw, .int godds, .int (nI grows), .int (nI gheads), .int (nI gsayings), .int (nI gslugs), .int (nI gacts), .ref (o 26), .ref (o 27), .ref (o 28), .ref (o 29), .ref (o 30), .ref (o 31), .ref (o 32), .ref (o 33), .ref (o 34), .ref (o 35)])), ((o 26), .inl (k 0, 12, .inl f26)), ((o 30), .inl (k 0, 12, .inl f30)), ((o 31), .inl (k 0, 12, .inl f31))] H := hP.sub [0, 1, 2, 3, 4, 5, 6, 7, 8, 9, 10, 11, 12, 13, 14] rfl
  have hD : va_D A [((o 12), .inr (9, [.ref (o 3), .ref (o 5), .ref (o 6), .ref (o 81), .ref (o 82), .int (nI (u_2.2.1 0)), .ref (o 83), .ref (o 84), .int (nI (u_2.2.1 1))])), ((o 81), .inl (k 0, 256, .inl (u_2.2.2.1 0))), ((o 82), .inl (k 2, 256, .inr (.inl (u_2.2.2.2.1 0)))), ((o 83), .inl (k 0, 256, .inl (u_2.2.2.1 1))), ((o 84), .inl (k 2, 256, .inr (.inl (u_2.2.2.2.1 1)))), ((o 5), .inr (1, [.ref (o 3), .ref (o 4), .int clawNow, .int charder, .int ctold, .int creply, .int cwet, .ref (o 72)])), ((o 72), .inl (k 0, 17, .inl f72)), ((o 4), .inr (3, [.ref (o 69), .ref (o 70), .ref (o 71)])), ((o 69), .inl (k 0, 17, .inl f69)), ((o 70), .inl (k 0, 17, .inl f70)), ((o 71), .inl (k 0, 17, .inl f71)), ((o 3), .inr (2, [.int glines, .int (nI ghours), .int glaw, .int godds, .int (nI grows), .int (nI gheads), .int (nI gsayings), .int (nI gslugs), .int (nI gacts), .ref (o 26), .ref (o 27), .ref (o 28), .ref (o 29), .ref (o 30), .ref (o 31), .ref (o 32), .ref (o 33), .ref (o 34), .ref (o 35)])), ((o 26), .inl (k 0, 12, .inl f26)), ((o 30), .inl (k 0, 12, .inl f30)), ((o 31), .inl (k 0, 12, .inl f31))] := hD.sub [0, 1, 2, 3, 4, 5, 6, 7, 8, 9, 10, 11, 12, 13, 14] (by decide) rfl
  obtain ⟨hg_3, hg_4⟩ := hr_1
  refine lv_lconst (v := 0) hx hb dX9_weightOfOnes_5 (by decide) ?_
  refine lv_lstore_n (lv' := [(2, .long 0), (0, .ref (o 12)), (1, .int (nI p0))]) hx hb dX9_weightOfOnes_6 rfl hl (by decide) rfl (fun ls hl => ?_)
  refine lv_iconst (v := 0) hx hb dX9_weightOfOnes_7 (by decide) ?_
  refine lv_istore (lv' := [(4, .int 0), (2, .long 0), (0, .ref (o 12)), (1, .int (nI p0))]) hx hb dX9_weightOfOnes_8 hl (by decide) rfl (fun ls hl => ?_)
  have lp_31 : ∀ (nn j_29 : Nat) (x_30 : Int64) (H : Heap) (locs : List Loc) (ls : Array Slot), j_29 ≤ u_2.2.1 0 → u_2.2.1 0 - j_29 < nn → va_P D vwCl [((o 12), .inr (9, [.ref (o 3), .ref (o 5), .ref (o 6), .ref (o 81), .ref (o 82), .int (nI (u_2.2.1 0)), .ref (o 83), .ref (o 84), .int (nI (u_2.2.1 1))])), ((o 81), .inl (k 0, 256, .inl (u_2.2.2.1 0))), ((o 82), .inl (k 2, 256, .inr (.inl (u_2.2.2.2.1 0)))), ((o 83), .inl (k 0, 256, .inl (u_2.2.2.1 1))), ((o 84), .inl (k 2, 256, .inr (.inl (u_2.2.2.2.1 1)))), ((o 5), .inr (1, [.ref (o 3), .ref (o 4), .int clawNow, .int charder, .int ctold, .int creply, .int cwet, .ref (o 72)])), ((o 72), .inl (k 0, 17, .inl f72)), ((o 4), .inr (3, [.ref (o 69), .ref (o 70), .ref (o 71)])), ((o 69), .inl (k 0, 17, .inl f69)), ((o 70), .inl (k 0, 17, .inl f70)), ((o 71), .inl (k 0, 17, .inl f71)), ((o 3), .inr (2, [.int glines, .int (nI ghours), .int glaw, .int godds, .int (nI grows), .int (nI gheads), .int (nI gsayings), .int (nI gslugs), .int (nI gacts), .ref (o 26), .ref (o 27), .ref (o 28), .ref (o 29), .ref (o 30), .ref (o 31), .ref (o 32), .ref (o 33), .ref (o 34), .ref (o 35)])), ((o 26), .inl (k 0, 12, .inl f26)), ((o 30), .inl (k 0, 12, .inl f30)), ((o 31), .inl (k 0, 12, .inl f31))] H → va_D A [((o 12), .inr (9, [.ref (o 3), .ref (o 5), .ref (o 6), .ref (o 81), .ref (o 82), .int (nI (u_2.2.1 0)), .ref (o 83), .ref (o 84), .int (nI (u_2.2.1 1))])), ((o 81), .inl (k 0, 256, .inl (u_2.2.2.1 0))), ((o 82), .inl (k 2, 256, .inr (.inl (u_2.2.2.2.1 0)))), ((o 83), .inl (k 0, 256, .inl (u_2.2.2.1 1))), ((o 84), .inl (k 2, 256, .inr (.inl (u_2.2.2.2.1 1)))), ((o 5), .inr (1, [.ref (o 3), .ref (o 4), .int clawNow, .int charder, .int ctold, .int creply, .int cwet, .ref (o 72)])), ((o 72), .inl (k 0, 17, .inl f72)), ((o 4), .inr (3, [.ref (o 69), .ref (o 70), .ref (o 71)])), ((o 69), .inl (k 0, 17, .inl f69)), ((o 70), .inl (k 0, 17, .inl f70)), ((o 71), .inl (k 0, 17, .inl f71)), ((o 3), .inr (2, [.int glines, .int (nI ghours), .int glaw, .int godds, .int (nI grows), .int (nI gheads), .int (nI gsayings), .int (nI gslugs), .int (nI gacts), .ref (o 26), .ref (o 27), .ref (o 28), .ref (o 29), .ref (o 30), .ref (o 31), .ref (o 32), .ref (o 33), .ref (o 34), .ref (o 35)])), ((o 26), .inl (k 0, 12, .inl f26)), ((o 30), .inl (k 0, 12, .inl f30)), ((o 31), .inl (k 0, 12, .inl f31))] → va_S A s.heap H locs → lv_has ls 5 [(4, .int (nI j_29)), (2, .long x_30), (0, .ref (o 12)), (1, .int (nI p0))] → W p l e (Rm 4 0 0) s m args below meth c H locs 0 0 Q (F0 m 10 ls []) := by
    intro nn
    induction nn with
    | zero => intro j_29 x_30 H locs ls hjj_29 hnj_29; exact absurd hnj_29 (by omega)
    | succ nn ihj_29 =>
      intro j_29 x_30 H locs ls hjj_29 hnj_29 hP hD hS hl
      refine lv_iload hx hb dX9_weightOfOnes_10 (lv_at hl 0 rfl) ?_
      refine lv_aload_n hx hb dX9_weightOfOnes_12 rfl (lv_at hl 2 rfl) ?_
      refine x_get S hK hP 0 rfl cfX9 5 lkX9_42 (by decide) rfl dX9_weightOfOnes_13 ?_
      refine lv_icmp_ge (tgt := 51) hx hb dX9_weightOfOnes_16 (by decide) (fun c_32 => ?_) (fun c_32 => ?_)
      · skip
        have c_32 : u_2.2.1 0 ≤ j_29 := (ni_le rfl rfl (by omega) (by omega)).mp c_32
        refine lv_lload_n hx hb dX9_weightOfOnes_51 rfl (lv_at hl 1 rfl) ?_
        exact x_retl S hr hlk hQ hS ((fun i => ([] : List (Int32)).getD i 0), (fun i => ([u_2.2.1 0, u_2.2.1 1] : List (Nat)).getD i 0), (fun i => ([(u_2.2.2.1 0), (u_2.2.2.1 1)] : List (Nat → Int32)).getD i (fun _ => 0)), (fun i => ([(u_2.2.2.2.1 0), (u_2.2.2.2.1 1)] : List (Nat → Int64)).getD i (fun _ => 0)), (fun i => ([] : List (Int64)).getD i 0)) ⟨(show u_2.2.1 0 ≤ 256 by omega), (show u_2.2.1 1 ≤ 256 by omega)⟩ (x_B hP hD) dX9_weightOfOnes_52
      · skip
        have c_32 : ¬ u_2.2.1 0 ≤ j_29 := fun q => c_32 ((ni_le rfl rfl (by omega) (by omega)).mpr q)
        refine lv_lload_n hx hb dX9_weightOfOnes_19 rfl (lv_at hl 1 rfl) ?_
        refine lv_aload_n hx hb dX9_weightOfOnes_20 rfl (lv_at hl 2 rfl) ?_
        refine x_get S hK hP 0 rfl cfX9 4 lkX9_15 (by decide) rfl dX9_weightOfOnes_21 ?_
        refine lv_iload hx hb dX9_weightOfOnes_24 (lv_at hl 0 rfl) ?_
        refine x_lald S hK hP 2 rfl (vp_in_nI (by omega) (by decide)) dX9_weightOfOnes_26 ?_
        refine lv_topl (fun v_33 ev_33 => ?_)
        refine lv_aload_n hx hb dX9_weightOfOnes_27 rfl (lv_at hl 2 rfl) ?_
        refine x_get S hK hP 0 rfl cfX9 3 lkX9_11 (by decide) rfl dX9_weightOfOnes_28 ?_
        refine lv_iload hx hb dX9_weightOfOnes_31 (lv_at hl 0 rfl) ?_
        refine x_iald S hK hP 1 rfl (vp_in_nI (by omega) (by decide)) dX9_weightOfOnes_33 ?_
        refine lv_topi (fun v_34 ev_34 => ?_)
        refine lv_iconst (v := 1) hx hb dX9_weightOfOnes_34 (by decide) ?_
        refine x_roSNi (As := [.int v_34, .int 1]) S hK hP hD hZ (fun _ h => h) hA hS hA hl mwX10_holdersIn lkX9_50 (ctX10_holdersIn l D k z v_34 1 ) [] rfl (by decide) rfl rfl ⟨Nat.le_of_ble_eq_true rfl, Nat.le_of_ble_eq_true rfl, Nat.le_of_ble_eq_true rfl⟩ dX9_weightOfOnes_35 ⟨Nat.le_of_ble_eq_true rfl, Nat.le_of_ble_eq_true rfl⟩ (fun r_35 H locs hr_35 hP hS => ?_)
        refine x_roSi (As := [.int r_35]) S hK hP hD hZ (fun _ h => h) hA hS hA hl mwJ6_bitCount_0f7a4 lkX9_53 (ctJ6_bitCount_0f7a4 l D k z r_35 ) [] rfl (by decide) rfl rfl ⟨Nat.le_of_ble_eq_true rfl, Nat.le_of_ble_eq_true rfl, Nat.le_of_ble_eq_true rfl⟩ dX9_weightOfOnes_38 ⟨Nat.le_of_ble_eq_true rfl, Nat.le_of_ble_eq_true rfl⟩ (fun r_37 H locs hr_37 hP hS => ?_)
        obtain ⟨n_39, rfl, hn_39⟩ := hr_37
        refine lv_i2l (v := (nI n_39).toInt64) hx hb dX9_weightOfOnes_41 rfl ?_
        refine lv_lmul hx hb dX9_weightOfOnes_42 ?_
        refine lv_topl (fun v_40 ev_40 => ?_)
        refine lv_ladd hx hb dX9_weightOfOnes_43 ?_
        refine lv_topl (fun v_41 ev_41 => ?_)
        refine lv_lstore_n (lv' := [(2, .long v_41), (4, .int (nI j_29)), (0, .ref (o 12)), (1, .int (nI p0))]) hx hb dX9_weightOfOnes_44 rfl hl (by decide) rfl (fun ls hl => ?_)
        refine lv_iinc (v := (nI (j_29 + 1))) (lv' := [(4, .int (nI (j_29 + 1))), (2, .long v_41), (0, .ref (o 12)), (1, .int (nI p0))]) hx hb dX9_weightOfOnes_45 hl (k := 1) rfl (ni_inc _) (by decide) rfl (fun ls hl => ?_)
        refine lv_goto (tgt := 10) hx hb dX9_weightOfOnes_48 (by decide) ?_
        exact ihj_29 (j_29 + 1) v_41 _ _ _ (by omega) (by omega) hP hD hS (lv_sub hl [0, 1, 2, 3] rfl)
  exact lp_31 (u_2.2.1 0 + 1) 0 0 _ _ _ (by omega) (by omega) hP hD hS (lv_sub hl [0, 1, 2, 3] rfl)

set_option maxHeartbeats 4000000 in
set_option maxRecDepth 100000 in
theorem ctX9_drawnWet (l : Launch) (D : va_G) (k : Nat → ClassId) (z : Nat → Nat) (o : Nat → Nat) (wsize : Nat) (wnext : Nat) (f81 : Nat → Int32) (f82 : Nat → Int64) (f83 : Nat → Int32) (f84 : Nat → Int64) (glines : Int32) (ghours : Nat) (glaw : Int32) (godds : Int32) (grows : Nat) (gheads : Nat) (gsayings : Nat) (gslugs : Nat) (gacts : Nat) (p0 : Int32) (hwsize : wsize ≤ 256) (hwnext : wnext ≤ 256) (hghours : ghours ≤ 16) (hgrows : grows ≤ 4) (hgheads : gheads ≤ 12) (hgsayings : gsayings ≤ 8) (hgslugs : gslugs ≤ 4) (hgacts : gacts ≤ 30) : RO l yX9_drawnWet cX9_drawnWet 6 (some .int) 0 D k z [.ref (o 12), .int p0] [((o 12), .inr (9, [.ref (o 3), .ref (o 5), .ref (o 6), .ref (o 81), .ref (o 82), .int (nI wsize), .ref (o 83), .ref (o 84), .int (nI wnext)])), ((o 81), .inl (k 0, 256, .inl f81)), ((o 82), .inl (k 2, 256, .inr (.inl f82))), ((o 83), .inl (k 0, 256, .inl f83)), ((o 84), .inl (k 2, 256, .inr (.inl f84))), ((o 3), .inr (2, [.int glines, .int (nI ghours), .int glaw, .int godds, .int (nI grows), .int (nI gheads), .int (nI gsayings), .int (nI gslugs), .int (nI gacts), .ref (o 26), .ref (o 27), .ref (o 28), .ref (o 29), .ref (o 30), .ref (o 31), .ref (o 32), .ref (o 33), .ref (o 34), .ref (o 35)]))] (Qi (fun r : Int32 => True)) := by
  refine RO.of (by decide) (Nat.le_of_ble_eq_true rfl) ?_
  intro p e s m below meth c ls A B args Q S hr hlk hQ hK hP hDW hZ hAB hBA hA hS hl
  have hx := S.1
  have hb := S.2.1
  have hl : lv_has ls 6 [(0, .ref (o 12)), (1, .int p0)] := hl
  refine lv_iload_n hx hb dX9_drawnWet_0 rfl (lv_at hl 1 rfl) ?_
  refine lv_i2l (v := p0.toInt64) hx hb dX9_drawnWet_1 rfl ?_
  refine lv_lstore_n (lv' := [(2, .long p0.toInt64), (0, .ref (o 12)), (1, .int p0)]) hx hb dX9_drawnWet_2 rfl hl (by decide) rfl (fun ls hl => ?_)
  refine lv_iconst (v := 0) hx hb dX9_drawnWet_3 (by decide) ?_
  refine lv_istore (lv' := [(4, .int 0), (2, .long p0.toInt64), (0, .ref (o 12)), (1, .int p0)]) hx hb dX9_drawnWet_4 hl (by decide) rfl (fun ls hl => ?_)
  refine lv_iconst (v := 0) hx hb dX9_drawnWet_6 (by decide) ?_
  refine lv_istore (lv' := [(5, .int 0), (4, .int 0), (2, .long p0.toInt64), (0, .ref (o 12)), (1, .int p0)]) hx hb dX9_drawnWet_7 hl (by decide) rfl (fun ls hl => ?_)
  have lp_27 : ∀ (nn j_24 : Nat) (x_25 : Int64) (x_26 : Int32) (H : Heap) (locs : List Loc) (ls : Array Slot), j_24 ≤ ghours → ghours - j_24 < nn → va_P D vwCl [((o 12), .inr (9, [.ref (o 3), .ref (o 5), .ref (o 6), .ref (o 81), .ref (o 82), .int (nI wsize), .ref (o 83), .ref (o 84), .int (nI wnext)])), ((o 81), .inl (k 0, 256, .inl f81)), ((o 82), .inl (k 2, 256, .inr (.inl f82))), ((o 83), .inl (k 0, 256, .inl f83)), ((o 84), .inl (k 2, 256, .inr (.inl f84))), ((o 3), .inr (2, [.int glines, .int (nI ghours), .int glaw, .int godds, .int (nI grows), .int (nI gheads), .int (nI gsayings), .int (nI gslugs), .int (nI gacts), .ref (o 26), .ref (o 27), .ref (o 28), .ref (o 29), .ref (o 30), .ref (o 31), .ref (o 32), .ref (o 33), .ref (o 34), .ref (o 35)]))] H → va_S A s.heap H locs → lv_has ls 6 [(5, .int (nI j_24)), (4, .int x_26), (2, .long x_25), (0, .ref (o 12)), (1, .int p0)] → W p l e (Rm 0 0 0) s m args below meth c H locs 0 0 Q (F0 m 9 ls []) := by
    intro nn
    induction nn with
    | zero => intro j_24 x_25 x_26 H locs ls hjj_24 hnj_24; exact absurd hnj_24 (by omega)
    | succ nn ihj_24 =>
      intro j_24 x_25 x_26 H locs ls hjj_24 hnj_24 hP hS hl
      refine lv_iload hx hb dX9_drawnWet_9 (lv_at hl 0 rfl) ?_
      refine lv_aload_n hx hb dX9_drawnWet_11 rfl (lv_at hl 3 rfl) ?_
      refine x_get S hK hP 0 rfl cfX9 0 lkX9_25 (by decide) rfl dX9_drawnWet_12 ?_
      refine x_get S hK hP 5 rfl cfX2 1 lkX9_89 (by decide) rfl dX9_drawnWet_15 ?_
      refine lv_icmp_ge (tgt := 71) hx hb dX9_drawnWet_18 (by decide) (fun c_28 => ?_) (fun c_28 => ?_)
      · skip
        have c_28 : ghours ≤ j_24 := (ni_le rfl rfl (by omega) (by omega)).mp c_28
        refine lv_iload hx hb dX9_drawnWet_71 (lv_at hl 1 rfl) ?_
        exact x_reti S hr hlk hQ hS () trivial x_T dX9_drawnWet_73
      · skip
        have c_28 : ¬ ghours ≤ j_24 := fun q => c_28 ((ni_le rfl rfl (by omega) (by omega)).mpr q)
        refine lv_ldc2 hx hb S.2.2.2.1 (S.2.2.2.2 _ lkX9_92) dX9_drawnWet_21 ?_
        refine lv_lload_n hx hb dX9_drawnWet_24 rfl (lv_at hl 2 rfl) ?_
        refine lv_lmul hx hb dX9_drawnWet_25 ?_
        refine lv_topl (fun v_29 ev_29 => ?_)
        refine lv_ldc2 hx hb S.2.2.2.1 (S.2.2.2.2 _ lkX9_94) dX9_drawnWet_26 ?_
        refine lv_ladd hx hb dX9_drawnWet_29 ?_
        refine lv_topl (fun v_30 ev_30 => ?_)
        refine lv_ldc2 hx hb S.2.2.2.1 (S.2.2.2.2 _ lkX9_96) dX9_drawnWet_30 ?_
        refine lv_lrem hx hb dX9_drawnWet_33 (by decide) ?_
        refine lv_topl (fun v_31 ev_31 => ?_)
        refine lv_lstore_n (lv' := [(2, .long v_31), (5, .int (nI j_24)), (4, .int x_26), (0, .ref (o 12)), (1, .int p0)]) hx hb dX9_drawnWet_34 rfl hl (by decide) rfl (fun ls hl => ?_)
        refine lv_lload_n hx hb dX9_drawnWet_35 rfl (lv_at hl 0 rfl) ?_
        refine lv_ldc2 hx hb S.2.2.2.1 (S.2.2.2.2 _ lkX9_98) dX9_drawnWet_36 ?_
        refine lv_ldiv hx hb dX9_drawnWet_39 (by decide) ?_
        refine lv_topl (fun v_32 ev_32 => ?_)
        refine lv_ldc2 hx hb S.2.2.2.1 (S.2.2.2.2 _ lkX9_36) dX9_drawnWet_40 ?_
        refine lv_lrem hx hb dX9_drawnWet_43 (by decide) ?_
        refine lv_topl (fun v_33 ev_33 => ?_)
        refine lv_aload_n hx hb dX9_drawnWet_44 rfl (lv_at hl 3 rfl) ?_
        refine x_get S hK hP 0 rfl cfX9 0 lkX9_25 (by decide) rfl dX9_drawnWet_45 ?_
        refine x_get S hK hP 5 rfl cfX2 3 lkX9_74 (by decide) rfl dX9_drawnWet_48 ?_
        refine lv_i2l (v := godds.toInt64) hx hb dX9_drawnWet_51 rfl ?_
        refine W.lcmp hx hb dX9_drawnWet_52 ?_
        refine lv_if_ge (tgt := 65) hx hb dX9_drawnWet_53 (by decide) (fun c_34 => ?_) (fun c_34 => ?_)
        · skip
          have c_34 : godds.toInt64 ≤ v_33 := (lg_cmp_ge _ _).mp c_34
          refine lv_iinc (v := (nI (j_24 + 1))) (lv' := [(5, .int (nI (j_24 + 1))), (2, .long v_31), (4, .int x_26), (0, .ref (o 12)), (1, .int p0)]) hx hb dX9_drawnWet_65 hl (k := 1) rfl (ni_inc _) (by decide) rfl (fun ls hl => ?_)
          refine lv_goto (tgt := 9) hx hb dX9_drawnWet_68 (by decide) ?_
          exact ihj_24 (j_24 + 1) v_31 x_26 _ _ _ (by omega) (by omega) hP hS (lv_sub hl [0, 2, 1, 3, 4] rfl)
        · skip
          have c_34 : ¬ godds.toInt64 ≤ v_33 := fun q => c_34 ((lg_cmp_ge _ _).mpr q)
          refine lv_iload hx hb dX9_drawnWet_56 (lv_at hl 2 rfl) ?_
          refine lv_iconst (v := 1) hx hb dX9_drawnWet_58 (by decide) ?_
          refine lv_iload hx hb dX9_drawnWet_59 (lv_at hl 1 rfl) ?_
          refine lv_ishl hx hb dX9_drawnWet_61 ?_
          refine lv_topi (fun v_35 ev_35 => ?_)
          refine lv_ior hx hb dX9_drawnWet_62 ?_
          refine lv_topi (fun v_36 ev_36 => ?_)
          refine lv_istore (lv' := [(4, .int v_36), (2, .long v_31), (5, .int (nI j_24)), (0, .ref (o 12)), (1, .int p0)]) hx hb dX9_drawnWet_63 hl (by decide) rfl (fun ls hl => ?_)
          refine lv_iinc (v := (nI (j_24 + 1))) (lv' := [(5, .int (nI (j_24 + 1))), (4, .int v_36), (2, .long v_31), (0, .ref (o 12)), (1, .int p0)]) hx hb dX9_drawnWet_65 hl (k := 2) rfl (ni_inc _) (by decide) rfl (fun ls hl => ?_)
          refine lv_goto (tgt := 9) hx hb dX9_drawnWet_68 (by decide) ?_
          exact ihj_24 (j_24 + 1) v_31 v_36 _ _ _ (by omega) (by omega) hP hS (lv_sub hl [0, 1, 2, 3, 4] rfl)
  exact lp_27 (ghours + 1) 0 p0.toInt64 0 _ _ _ (by omega) (by omega) hP hS (lv_sub hl [0, 1, 2, 3, 4] rfl)

set_option maxHeartbeats 4000000 in
set_option maxRecDepth 100000 in
theorem ctX9_luckySummers (l : Launch) (D : va_G) (k : Nat → ClassId) (z : Nat → Nat) (o : Nat → Nat) (wsize : Nat) (wnext : Nat) (f81 : Nat → Int32) (f82 : Nat → Int64) (f83 : Nat → Int32) (f84 : Nat → Int64) (tlawNow : Int32) (tharder : Int32) (ttold : Int32) (treply : Int32) (twet : Int32) (f73 : Nat → Int32) (f69 : Nat → Int32) (f70 : Nat → Int32) (f71 : Nat → Int32) (glines : Int32) (ghours : Nat) (glaw : Int32) (godds : Int32) (grows : Nat) (gheads : Nat) (gsayings : Nat) (gslugs : Nat) (gacts : Nat) (f26 : Nat → Int32) (f30 : Nat → Int32) (f31 : Nat → Int32) (p0 : Int32) (p1 : Nat) (p2 : Int32) (p3 : Int32) (hwsize : wsize ≤ 256) (hwnext : wnext ≤ 256) (hghours : ghours ≤ 16) (hgrows : grows ≤ 4) (hgheads : gheads ≤ 12) (hgsayings : gsayings ≤ 8) (hgslugs : gslugs ≤ 4) (hgacts : gacts ≤ 30) (hp1 : p1 ≤ 20) : MU l yX9_luckySummers cX9_luckySummers 7 (some .int) 4 D k z [.ref (o 12), .int p0, .int (nI p1), .int p2, .int p3] [((o 12), .inr (9, [.ref (o 3), .ref (o 5), .ref (o 6), .ref (o 81), .ref (o 82), .int (nI wsize), .ref (o 83), .ref (o 84), .int (nI wnext)])), ((o 81), .inl (k 0, 256, .inl f81)), ((o 82), .inl (k 2, 256, .inr (.inl f82))), ((o 83), .inl (k 0, 256, .inl f83)), ((o 84), .inl (k 2, 256, .inr (.inl f84))), ((o 6), .inr (1, [.ref (o 3), .ref (o 4), .int tlawNow, .int tharder, .int ttold, .int treply, .int twet, .ref (o 73)])), ((o 73), .inl (k 0, 17, .inl f73)), ((o 4), .inr (3, [.ref (o 69), .ref (o 70), .ref (o 71)])), ((o 69), .inl (k 0, 17, .inl f69)), ((o 70), .inl (k 0, 17, .inl f70)), ((o 71), .inl (k 0, 17, .inl f71)), ((o 3), .inr (2, [.int glines, .int (nI ghours), .int glaw, .int godds, .int (nI grows), .int (nI gheads), .int (nI gsayings), .int (nI gslugs), .int (nI gacts), .ref (o 26), .ref (o 27), .ref (o 28), .ref (o 29), .ref (o 30), .ref (o 31), .ref (o 32), .ref (o 33), .ref (o 34), .ref (o 35)])), ((o 26), .inl (k 0, 12, .inl f26)), ((o 30), .inl (k 0, 12, .inl f30)), ((o 31), .inl (k 0, 12, .inl f31))] 0 0 (Ui D (fun (r : Int32) (u : (Nat → Int32) × (Nat → Nat) × (Nat → Nat → Int32) × (Nat → Nat → Int64) × (Nat → Int64)) => True) (fun u : (Nat → Int32) × (Nat → Nat) × (Nat → Nat → Int32) × (Nat → Nat → Int64) × (Nat → Int64) => [((o 12), .inr (9, [.ref (o 3), .ref (o 5), .ref (o 6), .ref (o 81), .ref (o 82), .int (nI wsize), .ref (o 83), .ref (o 84), .int (nI wnext)])), ((o 81), .inl (k 0, 256, .inl f81)), ((o 82), .inl (k 2, 256, .inr (.inl f82))), ((o 83), .inl (k 0, 256, .inl f83)), ((o 84), .inl (k 2, 256, .inr (.inl f84))), ((o 6), .inr (1, [.ref (o 3), .ref (o 4), .int (u.1 0), .int (u.1 1), .int (u.1 2), .int (u.1 3), .int (u.1 4), .ref (o 73)])), ((o 73), .inl (k 0, 17, .inl (u.2.2.1 0))), ((o 4), .inr (3, [.ref (o 69), .ref (o 70), .ref (o 71)])), ((o 69), .inl (k 0, 17, .inl f69)), ((o 70), .inl (k 0, 17, .inl f70)), ((o 71), .inl (k 0, 17, .inl f71)), ((o 3), .inr (2, [.int glines, .int (nI ghours), .int glaw, .int godds, .int (nI grows), .int (nI gheads), .int (nI gsayings), .int (nI gslugs), .int (nI gacts), .ref (o 26), .ref (o 27), .ref (o 28), .ref (o 29), .ref (o 30), .ref (o 31), .ref (o 32), .ref (o 33), .ref (o 34), .ref (o 35)])), ((o 26), .inl (k 0, 12, .inl f26)), ((o 30), .inl (k 0, 12, .inl f30)), ((o 31), .inl (k 0, 12, .inl f31))])) := by
  refine MU.of (by decide) (Nat.le_of_ble_eq_true rfl) ?_
  intro p e s m below meth c ls A args Q S hr hlk hnm hQ hK hP hD hZ hA hS hl
  have hx := S.1
  have hb := S.2.1
  have hl : lv_has ls 7 [(0, .ref (o 12)), (1, .int p0), (2, .int (nI p1)), (3, .int p2), (4, .int p3)] := hl
  refine lv_iconst (v := 0) hx hb dX9_luckySummers_0 (by decide) ?_
  refine lv_istore (lv' := [(5, .int 0), (0, .ref (o 12)), (1, .int p0), (2, .int (nI p1)), (3, .int p2), (4, .int p3)]) hx hb dX9_luckySummers_1 hl (by decide) rfl (fun ls hl => ?_)
  refine lv_iconst (v := 0) hx hb dX9_luckySummers_3 (by decide) ?_
  refine lv_istore (lv' := [(6, .int 0), (5, .int 0), (0, .ref (o 12)), (1, .int p0), (2, .int (nI p1)), (3, .int p2), (4, .int p3)]) hx hb dX9_luckySummers_4 hl (by decide) rfl (fun ls hl => ?_)
  have lp_42 : ∀ (nn j_34 : Nat) (x_35 : Int32) (x_36 : Int32) (x_37 : Int32) (x_38 : Int32) (x_39 : Int32) (g_40 : Nat → Int32) (x_41 : Int32) (H : Heap) (locs : List Loc) (ls : Array Slot), j_34 ≤ p1 → p1 - j_34 < nn → va_P D vwCl [((o 12), .inr (9, [.ref (o 3), .ref (o 5), .ref (o 6), .ref (o 81), .ref (o 82), .int (nI wsize), .ref (o 83), .ref (o 84), .int (nI wnext)])), ((o 81), .inl (k 0, 256, .inl f81)), ((o 82), .inl (k 2, 256, .inr (.inl f82))), ((o 83), .inl (k 0, 256, .inl f83)), ((o 84), .inl (k 2, 256, .inr (.inl f84))), ((o 6), .inr (1, [.ref (o 3), .ref (o 4), .int x_35, .int x_36, .int x_37, .int x_38, .int x_39, .ref (o 73)])), ((o 73), .inl (k 0, 17, .inl g_40)), ((o 4), .inr (3, [.ref (o 69), .ref (o 70), .ref (o 71)])), ((o 69), .inl (k 0, 17, .inl f69)), ((o 70), .inl (k 0, 17, .inl f70)), ((o 71), .inl (k 0, 17, .inl f71)), ((o 3), .inr (2, [.int glines, .int (nI ghours), .int glaw, .int godds, .int (nI grows), .int (nI gheads), .int (nI gsayings), .int (nI gslugs), .int (nI gacts), .ref (o 26), .ref (o 27), .ref (o 28), .ref (o 29), .ref (o 30), .ref (o 31), .ref (o 32), .ref (o 33), .ref (o 34), .ref (o 35)])), ((o 26), .inl (k 0, 12, .inl f26)), ((o 30), .inl (k 0, 12, .inl f30)), ((o 31), .inl (k 0, 12, .inl f31))] H → va_D A [((o 12), .inr (9, [.ref (o 3), .ref (o 5), .ref (o 6), .ref (o 81), .ref (o 82), .int (nI wsize), .ref (o 83), .ref (o 84), .int (nI wnext)])), ((o 81), .inl (k 0, 256, .inl f81)), ((o 82), .inl (k 2, 256, .inr (.inl f82))), ((o 83), .inl (k 0, 256, .inl f83)), ((o 84), .inl (k 2, 256, .inr (.inl f84))), ((o 6), .inr (1, [.ref (o 3), .ref (o 4), .int x_35, .int x_36, .int x_37, .int x_38, .int x_39, .ref (o 73)])), ((o 73), .inl (k 0, 17, .inl g_40)), ((o 4), .inr (3, [.ref (o 69), .ref (o 70), .ref (o 71)])), ((o 69), .inl (k 0, 17, .inl f69)), ((o 70), .inl (k 0, 17, .inl f70)), ((o 71), .inl (k 0, 17, .inl f71)), ((o 3), .inr (2, [.int glines, .int (nI ghours), .int glaw, .int godds, .int (nI grows), .int (nI gheads), .int (nI gsayings), .int (nI gslugs), .int (nI gacts), .ref (o 26), .ref (o 27), .ref (o 28), .ref (o 29), .ref (o 30), .ref (o 31), .ref (o 32), .ref (o 33), .ref (o 34), .ref (o 35)])), ((o 26), .inl (k 0, 12, .inl f26)), ((o 30), .inl (k 0, 12, .inl f30)), ((o 31), .inl (k 0, 12, .inl f31))] → va_S A s.heap H locs → lv_has ls 7 [(6, .int (nI j_34)), (5, .int x_41), (0, .ref (o 12)), (1, .int p0), (2, .int (nI p1)), (3, .int p2), (4, .int p3)] → W p l e (Rm 4 0 0) s m args below meth c H locs 0 0 Q (F0 m 6 ls []) := by
    intro nn
    induction nn with
    | zero => intro j_34 x_35 x_36 x_37 x_38 x_39 g_40 x_41 H locs ls hjj_34 hnj_34; exact absurd hnj_34 (by omega)
    | succ nn ihj_34 =>
      intro j_34 x_35 x_36 x_37 x_38 x_39 g_40 x_41 H locs ls hjj_34 hnj_34 hP hD hS hl
      refine lv_iload hx hb dX9_luckySummers_6 (lv_at hl 0 rfl) ?_
      refine lv_iload_n hx hb dX9_luckySummers_8 rfl (lv_at hl 4 rfl) ?_
      refine lv_icmp_ge (tgt := 63) hx hb dX9_luckySummers_9 (by decide) (fun c_43 => ?_) (fun c_43 => ?_)
      · skip
        have c_43 : p1 ≤ j_34 := (ni_le rfl rfl (by omega) (by omega)).mp c_43
        refine lv_iload hx hb dX9_luckySummers_63 (lv_at hl 1 rfl) ?_
        exact x_reti S hr hlk hQ hS ((fun i => ([x_35, x_36, x_37, x_38, x_39] : List (Int32)).getD i 0), (fun i => ([] : List (Nat)).getD i 0), (fun i => ([g_40] : List (Nat → Int32)).getD i (fun _ => 0)), (fun i => ([] : List (Nat → Int64)).getD i (fun _ => 0)), (fun i => ([] : List (Int64)).getD i 0)) trivial (x_B hP hD) dX9_luckySummers_65
      · skip
        have c_43 : ¬ p1 ≤ j_34 := fun q => c_43 ((ni_le rfl rfl (by omega) (by omega)).mpr q)
        refine lv_aload_n hx hb dX9_luckySummers_12 rfl (lv_at hl 2 rfl) ?_
        refine x_get S hK hP 0 rfl cfX9 2 lkX9_33 (by decide) rfl dX9_luckySummers_13 ?_
        refine lv_aload_n hx hb dX9_luckySummers_16 rfl (lv_at hl 2 rfl) ?_
        refine lv_iload_n hx hb dX9_luckySummers_17 rfl (lv_at hl 3 rfl) ?_
        refine lv_iload hx hb dX9_luckySummers_18 (lv_at hl 0 rfl) ?_
        refine lv_iadd hx hb dX9_luckySummers_20 ?_
        refine lv_topi (fun v_44 ev_44 => ?_)
        refine x_roVi (As := [.int v_44]) S hK hP hD hZ (fun _ h => h) hA hS hA hl mwX9_drawnWet lkX9_100 (ctX9_drawnWet l D k z o wsize wnext f81 f82 f83 f84 glines ghours glaw godds grows gheads gsayings gslugs gacts v_44 (by omega) (by omega) (by omega) (by omega) (by omega) (by omega) (by omega) (by omega)) [0, 1, 2, 3, 4, 11] rfl (by decide) rfl rfl rfl rfl rfl ⟨Nat.le_of_ble_eq_true rfl, Nat.le_of_ble_eq_true rfl, Nat.le_of_ble_eq_true rfl⟩ dX9_luckySummers_21 ⟨Nat.le_of_ble_eq_true rfl, Nat.le_of_ble_eq_true rfl⟩ (fun r_45 H locs hr_45 hP hS => ?_)
        refine x_muVv (wr := [((o 12), .inr (9, [.ref (o 3), .ref (o 5), .ref (o 6), .ref (o 81), .ref (o 82), .int (nI wsize), .ref (o 83), .ref (o 84), .int (nI wnext)])), ((o 81), .inl (k 0, 256, .inl f81)), ((o 82), .inl (k 2, 256, .inr (.inl f82))), ((o 83), .inl (k 0, 256, .inl f83)), ((o 84), .inl (k 2, 256, .inr (.inl f84)))]) (As := [.int r_45]) S hK hP hD hZ hS hA hl mwX1_asWet lkX9_103 (ctX1_asWet_c l D k z (fun i => ([0, 0, 0, (o 3), (o 4), (o 6), 0, 0, 0, 0, 0, 0, 0, 0, 0, 0, 0, 0, 0, 0, 0, 0, 0, 0, 0, 0, (o 26), (o 27), (o 28), (o 29), (o 30), (o 31), (o 32), (o 33), (o 34), (o 35), 0, 0, 0, 0, 0, 0, 0, 0, 0, 0, 0, 0, 0, 0, 0, 0, 0, 0, 0, 0, 0, 0, 0, 0, 0, 0, 0, 0, 0, 0, 0, 0, 0, (o 69), (o 70), (o 71), (o 73)] : List Nat).getD i 0) x_35 x_36 x_37 x_38 x_39 g_40 f69 f70 f71 glines ghours glaw godds grows gheads gsayings gslugs gacts f26 f30 f31 r_45 (by omega) (by omega) (by omega) (by omega) (by omega) (by omega)) [5, 6, 7, 8, 9, 10, 11, 12, 13, 14] [0, 1, 2, 3, 4] rfl rfl (by decide) (by decide) (by decide) rfl rfl rfl rfl rfl ⟨Nat.le_of_ble_eq_true rfl, Nat.le_of_ble_eq_true rfl, Nat.le_of_ble_eq_true rfl⟩ dX9_luckySummers_24 ⟨Nat.le_of_ble_eq_true rfl, Nat.le_of_ble_eq_true rfl⟩ (fun u_48 H locs hr_47 hP hD hS => ?_)
        have hP : va_P D vwCl [((o 12), .inr (9, [.ref (o 3), .ref (o 5), .ref (o 6), .ref (o 81), .ref (o 82), .int (nI wsize), .ref (o 83), .ref (o 84), .int (nI wnext)])), ((o 81), .inl (k 0, 256, .inl f81)), ((o 82), .inl (k 2, 256, .inr (.inl f82))), ((o 83), .inl (k 0, 256, .inl f83)), ((o 84), .inl (k 2, 256, .inr (.inl f84))), ((o 6), .inr (1, [.ref (o 3), .ref (o 4), .int (u_48.1 0), .int (u_48.1 1), .int (u_48.1 2), .int (u_48.1 3), .int (u_48.1 4), .ref (o 73)])), ((o 73), .inl (k 0, 17, .inl g_40)), ((o 4), .inr (3, [.ref (o 69), .ref (o 70), .ref (o 71)])), ((o 69), .inl (k 0, 17, .inl f69)), ((o 70), .inl (k 0, 17, .inl f70)), ((o 71), .inl (k 0, 17, .inl f71)), ((o 3), .inr (2, [.int glines, .int (nI ghours), .int glaw, .int godds, .int (nI grows), .int (nI gheads), .int (nI gsayings), .int (nI gslugs), .int (nI gacts), .ref (o 26), .ref (o 27), .ref (o 28), .ref (o 29), .ref (o 30), .ref (o 31), .ref (o 32), .ref (o 33), .ref (o 34), .ref (o 35)])), ((o 26), .inl (k 0, 12, .inl f26)), ((o 30), .inl (k 0, 12, .inl f30)), ((o 31), .inl (k 0, 12, .inl f31))] H := hP.sub [0, 1, 2, 3, 4, 5, 6, 7, 8, 9, 10, 11, 12, 13, 14] rfl
        have hD : va_D A [((o 12), .inr (9, [.ref (o 3), .ref (o 5), .ref (o 6), .ref (o 81), .ref (o 82), .int (nI wsize), .ref (o 83), .ref (o 84), .int (nI wnext)])), ((o 81), .inl (k 0, 256, .inl f81)), ((o 82), .inl (k 2, 256, .inr (.inl f82))), ((o 83), .inl (k 0, 256, .inl f83)), ((o 84), .inl (k 2, 256, .inr (.inl f84))), ((o 6), .inr (1, [.ref (o 3), .ref (o 4), .int (u_48.1 0), .int (u_48.1 1), .int (u_48.1 2), .int (u_48.1 3), .int (u_48.1 4), .ref (o 73)])), ((o 73), .inl (k 0, 17, .inl g_40)), ((o 4), .inr (3, [.ref (o 69), .ref (o 70), .ref (o 71)])), ((o 69), .inl (k 0, 17, .inl f69)), ((o 70), .inl (k 0, 17, .inl f70)), ((o 71), .inl (k 0, 17, .inl f71)), ((o 3), .inr (2, [.int glines, .int (nI ghours), .int glaw, .int godds, .int (nI grows), .int (nI gheads), .int (nI gsayings), .int (nI gslugs), .int (nI gacts), .ref (o 26), .ref (o 27), .ref (o 28), .ref (o 29), .ref (o 30), .ref (o 31), .ref (o 32), .ref (o 33), .ref (o 34), .ref (o 35)])), ((o 26), .inl (k 0, 12, .inl f26)), ((o 30), .inl (k 0, 12, .inl f30)), ((o 31), .inl (k 0, 12, .inl f31))] := hD.sub [0, 1, 2, 3, 4, 5, 6, 7, 8, 9, 10, 11, 12, 13, 14] (by decide) rfl
        refine lv_aload_n hx hb dX9_luckySummers_27 rfl (lv_at hl 2 rfl) ?_
        refine x_get S hK hP 0 rfl cfX9 2 lkX9_33 (by decide) rfl dX9_luckySummers_28 ?_
        refine x_muVv (wr := [((o 12), .inr (9, [.ref (o 3), .ref (o 5), .ref (o 6), .ref (o 81), .ref (o 82), .int (nI wsize), .ref (o 83), .ref (o 84), .int (nI wnext)])), ((o 81), .inl (k 0, 256, .inl f81)), ((o 82), .inl (k 2, 256, .inr (.inl f82))), ((o 83), .inl (k 0, 256, .inl f83)), ((o 84), .inl (k 2, 256, .inr (.inl f84)))]) (As := []) S hK hP hD hZ hS hA hl mwX1_run lkX9_106 (ctX1_run_c l D k z (fun i => ([0, 0, 0, (o 3), (o 4), (o 6), 0, 0, 0, 0, 0, 0, 0, 0, 0, 0, 0, 0, 0, 0, 0, 0, 0, 0, 0, 0, (o 26), (o 27), (o 28), (o 29), (o 30), (o 31), (o 32), (o 33), (o 34), (o 35), 0, 0, 0, 0, 0, 0, 0, 0, 0, 0, 0, 0, 0, 0, 0, 0, 0, 0, 0, 0, 0, 0, 0, 0, 0, 0, 0, 0, 0, 0, 0, 0, 0, (o 69), (o 70), (o 71), (o 73)] : List Nat).getD i 0) (u_48.1 0) (u_48.1 1) (u_48.1 2) (u_48.1 3) (u_48.1 4) g_40 f69 f70 f71 glines ghours glaw godds grows gheads gsayings gslugs gacts f26 f30 f31 (by omega) (by omega) (by omega) (by omega) (by omega) (by omega)) [5, 6, 7, 8, 9, 10, 11, 12, 13, 14] [0, 1, 2, 3, 4] rfl rfl (by decide) (by decide) (by decide) rfl rfl rfl rfl rfl ⟨Nat.le_of_ble_eq_true rfl, Nat.le_of_ble_eq_true rfl, Nat.le_of_ble_eq_true rfl⟩ dX9_luckySummers_31 ⟨Nat.le_of_ble_eq_true rfl, Nat.le_of_ble_eq_true rfl⟩ (fun u_50 H locs hr_49 hP hD hS => ?_)
        have hP : va_P D vwCl [((o 12), .inr (9, [.ref (o 3), .ref (o 5), .ref (o 6), .ref (o 81), .ref (o 82), .int (nI wsize), .ref (o 83), .ref (o 84), .int (nI wnext)])), ((o 81), .inl (k 0, 256, .inl f81)), ((o 82), .inl (k 2, 256, .inr (.inl f82))), ((o 83), .inl (k 0, 256, .inl f83)), ((o 84), .inl (k 2, 256, .inr (.inl f84))), ((o 6), .inr (1, [.ref (o 3), .ref (o 4), .int (u_48.1 0), .int (u_48.1 1), .int (u_48.1 2), .int (u_48.1 3), .int (u_48.1 4), .ref (o 73)])), ((o 73), .inl (k 0, 17, .inl (u_50.2.2.1 0))), ((o 4), .inr (3, [.ref (o 69), .ref (o 70), .ref (o 71)])), ((o 69), .inl (k 0, 17, .inl f69)), ((o 70), .inl (k 0, 17, .inl f70)), ((o 71), .inl (k 0, 17, .inl f71)), ((o 3), .inr (2, [.int glines, .int (nI ghours), .int glaw, .int godds, .int (nI grows), .int (nI gheads), .int (nI gsayings), .int (nI gslugs), .int (nI gacts), .ref (o 26), .ref (o 27), .ref (o 28), .ref (o 29), .ref (o 30), .ref (o 31), .ref (o 32), .ref (o 33), .ref (o 34), .ref (o 35)])), ((o 26), .inl (k 0, 12, .inl f26)), ((o 30), .inl (k 0, 12, .inl f30)), ((o 31), .inl (k 0, 12, .inl f31))] H := hP.sub [0, 1, 2, 3, 4, 5, 6, 7, 8, 9, 10, 11, 12, 13, 14] rfl
        have hD : va_D A [((o 12), .inr (9, [.ref (o 3), .ref (o 5), .ref (o 6), .ref (o 81), .ref (o 82), .int (nI wsize), .ref (o 83), .ref (o 84), .int (nI wnext)])), ((o 81), .inl (k 0, 256, .inl f81)), ((o 82), .inl (k 2, 256, .inr (.inl f82))), ((o 83), .inl (k 0, 256, .inl f83)), ((o 84), .inl (k 2, 256, .inr (.inl f84))), ((o 6), .inr (1, [.ref (o 3), .ref (o 4), .int (u_48.1 0), .int (u_48.1 1), .int (u_48.1 2), .int (u_48.1 3), .int (u_48.1 4), .ref (o 73)])), ((o 73), .inl (k 0, 17, .inl (u_50.2.2.1 0))), ((o 4), .inr (3, [.ref (o 69), .ref (o 70), .ref (o 71)])), ((o 69), .inl (k 0, 17, .inl f69)), ((o 70), .inl (k 0, 17, .inl f70)), ((o 71), .inl (k 0, 17, .inl f71)), ((o 3), .inr (2, [.int glines, .int (nI ghours), .int glaw, .int godds, .int (nI grows), .int (nI gheads), .int (nI gsayings), .int (nI gslugs), .int (nI gacts), .ref (o 26), .ref (o 27), .ref (o 28), .ref (o 29), .ref (o 30), .ref (o 31), .ref (o 32), .ref (o 33), .ref (o 34), .ref (o 35)])), ((o 26), .inl (k 0, 12, .inl f26)), ((o 30), .inl (k 0, 12, .inl f30)), ((o 31), .inl (k 0, 12, .inl f31))] := hD.sub [0, 1, 2, 3, 4, 5, 6, 7, 8, 9, 10, 11, 12, 13, 14] (by decide) rfl
        refine lv_aload_n hx hb dX9_luckySummers_34 rfl (lv_at hl 2 rfl) ?_
        refine x_get S hK hP 0 rfl cfX9 2 lkX9_33 (by decide) rfl dX9_luckySummers_35 ?_
        refine lv_iload_n hx hb dX9_luckySummers_38 rfl (lv_at hl 5 rfl) ?_
        refine lv_aload_n hx hb dX9_luckySummers_39 rfl (lv_at hl 2 rfl) ?_
        refine x_get S hK hP 0 rfl cfX9 0 lkX9_25 (by decide) rfl dX9_luckySummers_40 ?_
        refine x_get S hK hP 11 rfl cfX2 1 lkX9_89 (by decide) rfl dX9_luckySummers_43 ?_
        refine x_roVi (As := [.int p2, .int (nI ghours)]) S hK hP hD hZ (fun _ h => h) hA hS hA hl mwX1_viewAt lkX9_109 (ctX1_viewAt_c l D k z (fun i => ([0, 0, 0, (o 3), (o 4), (o 6), 0, 0, 0, 0, 0, 0, 0, 0, 0, 0, 0, 0, 0, 0, 0, 0, 0, 0, 0, 0, (o 26), (o 27), (o 28), (o 29), (o 30), (o 31), (o 32), (o 33), (o 34), (o 35), 0, 0, 0, 0, 0, 0, 0, 0, 0, 0, 0, 0, 0, 0, 0, 0, 0, 0, 0, 0, 0, 0, 0, 0, 0, 0, 0, 0, 0, 0, 0, 0, 0, (o 69), (o 70), (o 71), (o 73)] : List Nat).getD i 0) (u_48.1 0) (u_48.1 1) (u_48.1 2) (u_48.1 3) (u_48.1 4) (u_50.2.2.1 0) f69 f70 f71 glines ghours glaw godds grows gheads gsayings gslugs gacts f26 f30 f31 p2 ghours (by omega) (by omega) (by omega) (by omega) (by omega) (by omega) (by omega)) [5, 6, 7, 8, 9, 10, 11, 12, 13, 14] rfl (by decide) rfl rfl rfl rfl rfl ⟨Nat.le_of_ble_eq_true rfl, Nat.le_of_ble_eq_true rfl, Nat.le_of_ble_eq_true rfl⟩ dX9_luckySummers_46 ⟨Nat.le_of_ble_eq_true rfl, Nat.le_of_ble_eq_true rfl⟩ (fun r_51 H locs hr_51 hP hS => ?_)
        refine lv_iload hx hb dX9_luckySummers_49 (lv_at hl 6 rfl) ?_
        refine lv_icmp_ne (tgt := 57) hx hb dX9_luckySummers_51 (by decide) (fun c_53 => ?_) (fun c_53 => ?_)
        · skip
          refine lv_iinc (v := (nI (j_34 + 1))) (lv' := [(6, .int (nI (j_34 + 1))), (5, .int x_41), (0, .ref (o 12)), (1, .int p0), (2, .int (nI p1)), (3, .int p2), (4, .int p3)]) hx hb dX9_luckySummers_57 hl (k := 0) rfl (ni_inc _) (by decide) rfl (fun ls hl => ?_)
          refine lv_goto (tgt := 6) hx hb dX9_luckySummers_60 (by decide) ?_
          exact ihj_34 (j_34 + 1) (u_48.1 0) (u_48.1 1) (u_48.1 2) (u_48.1 3) (u_48.1 4) (u_50.2.2.1 0) x_41 _ _ _ (by omega) (by omega) hP hD hS (lv_sub hl [0, 1, 2, 3, 4, 5, 6] rfl)
        · skip
          obtain ⟨v_54, ev_54⟩ : ∃ y : Int32, y = x_41 + Int32.ofInt (1) := ⟨_, rfl⟩
          refine lv_iinc (v := v_54) (lv' := [(5, .int v_54), (6, .int (nI j_34)), (0, .ref (o 12)), (1, .int p0), (2, .int (nI p1)), (3, .int p2), (4, .int p3)]) hx hb dX9_luckySummers_54 hl (k := 1) rfl ev_54.symm (by decide) rfl (fun ls hl => ?_)
          refine lv_iinc (v := (nI (j_34 + 1))) (lv' := [(6, .int (nI (j_34 + 1))), (5, .int v_54), (0, .ref (o 12)), (1, .int p0), (2, .int (nI p1)), (3, .int p2), (4, .int p3)]) hx hb dX9_luckySummers_57 hl (k := 1) rfl (ni_inc _) (by decide) rfl (fun ls hl => ?_)
          refine lv_goto (tgt := 6) hx hb dX9_luckySummers_60 (by decide) ?_
          exact ihj_34 (j_34 + 1) (u_48.1 0) (u_48.1 1) (u_48.1 2) (u_48.1 3) (u_48.1 4) (u_50.2.2.1 0) v_54 _ _ _ (by omega) (by omega) hP hD hS (lv_sub hl [0, 1, 2, 3, 4, 5, 6] rfl)
  exact lp_42 (p1 + 1) 0 tlawNow tharder ttold treply twet f73 0 _ _ _ (by omega) (by omega) hP hD hS (lv_sub hl [0, 1, 2, 3, 4, 5, 6] rfl)

