theorem dX11_see_0 : decode cX11_see 0 = .ok (.iload_n 1, 1) := by decide +kernel
theorem dX11_see_1 : decode cX11_see 1 = .ok (.aload_n 0, 1) := by decide +kernel
theorem dX11_see_2 : decode cX11_see 2 = .ok (.getfield 109, 3) := by decide +kernel
theorem dX11_see_5 : decode cX11_see 5 = .ok (.if_icmp .ge 16, 3) := by decide +kernel
theorem dX11_see_8 : decode cX11_see 8 = .ok (.aload_n 0, 1) := by decide +kernel
theorem dX11_see_9 : decode cX11_see 9 = .ok (.getfield 20, 3) := by decide +kernel
theorem dX11_see_12 : decode cX11_see 12 = .ok (.iload_n 1, 1) := by decide +kernel
theorem dX11_see_13 : decode cX11_see 13 = .ok (.baload, 1) := by decide +kernel
theorem dX11_see_14 : decode cX11_see 14 = .ok (.sipush 255, 3) := by decide +kernel
theorem dX11_see_17 : decode cX11_see 17 = .ok (.iand, 1) := by decide +kernel
theorem dX11_see_18 : decode cX11_see 18 = .ok (.goto 4, 3) := by decide +kernel
theorem dX11_see_21 : decode cX11_see 21 = .ok (.iconst (-1), 1) := by decide +kernel
theorem dX11_see_22 : decode cX11_see 22 = .ok (.ireturn, 1) := by decide +kernel
theorem dX11_good_0 : decode cX11_good 0 = .ok (.aload_n 0, 1) := by decide +kernel
theorem dX11_good_1 : decode cX11_good 1 = .ok (.getfield 143, 3) := by decide +kernel
theorem dX11_good_4 : decode cX11_good 4 = .ok (.ifCond .ne 7, 3) := by decide +kernel
theorem dX11_good_7 : decode cX11_good 7 = .ok (.iconst 1, 1) := by decide +kernel
theorem dX11_good_8 : decode cX11_good 8 = .ok (.goto 4, 3) := by decide +kernel
theorem dX11_good_11 : decode cX11_good 11 = .ok (.iconst 0, 1) := by decide +kernel
theorem dX11_good_12 : decode cX11_good 12 = .ok (.ireturn, 1) := by decide +kernel
theorem dX11_errs_0 : decode cX11_errs 0 = .ok (.aload_n 0, 1) := by decide +kernel
theorem dX11_errs_1 : decode cX11_errs 1 = .ok (.invokevirtual 146, 3) := by decide +kernel
theorem dX11_errs_4 : decode cX11_errs 4 = .ok (.ifCond .ne 4, 3) := by decide +kernel
theorem dX11_errs_7 : decode cX11_errs 7 = .ok (.return_, 1) := by decide +kernel
theorem dX11_errs_8 : decode cX11_errs 8 = .ok (.aload_n 0, 1) := by decide +kernel
theorem dX11_errs_9 : decode cX11_errs 9 = .ok (.iload_n 1, 1) := by decide +kernel
theorem dX11_errs_10 : decode cX11_errs 10 = .ok (.putfield 143, 3) := by decide +kernel
theorem dX11_errs_13 : decode cX11_errs 13 = .ok (.aload_n 0, 1) := by decide +kernel
theorem dX11_errs_14 : decode cX11_errs 14 = .ok (.aload_n 0, 1) := by decide +kernel
theorem dX11_errs_15 : decode cX11_errs 15 = .ok (.getfield 119, 3) := by decide +kernel
theorem dX11_errs_18 : decode cX11_errs 18 = .ok (.putfield 27, 3) := by decide +kernel
theorem dX11_errs_21 : decode cX11_errs 21 = .ok (.return_, 1) := by decide +kernel
theorem dX11_advance_0 : decode cX11_advance 0 = .ok (.aload_n 0, 1) := by decide +kernel
theorem dX11_advance_1 : decode cX11_advance 1 = .ok (.aload_n 0, 1) := by decide +kernel
theorem dX11_advance_2 : decode cX11_advance 2 = .ok (.getfield 112, 3) := by decide +kernel
theorem dX11_advance_5 : decode cX11_advance 5 = .ok (.invokevirtual 115, 3) := by decide +kernel
theorem dX11_advance_8 : decode cX11_advance 8 = .ok (.bipush 32, 2) := by decide +kernel
theorem dX11_advance_10 : decode cX11_advance 10 = .ok (.if_icmp .eq 16, 3) := by decide +kernel
theorem dX11_advance_13 : decode cX11_advance 13 = .ok (.aload_n 0, 1) := by decide +kernel
theorem dX11_advance_14 : decode cX11_advance 14 = .ok (.aload_n 0, 1) := by decide +kernel
theorem dX11_advance_15 : decode cX11_advance 15 = .ok (.getfield 112, 3) := by decide +kernel
theorem dX11_advance_18 : decode cX11_advance 18 = .ok (.invokevirtual 115, 3) := by decide +kernel
theorem dX11_advance_21 : decode cX11_advance 21 = .ok (.bipush 10, 2) := by decide +kernel
theorem dX11_advance_23 : decode cX11_advance 23 = .ok (.if_icmp .ne 16, 3) := by decide +kernel
theorem dX11_advance_26 : decode cX11_advance 26 = .ok (.aload_n 0, 1) := by decide +kernel
theorem dX11_advance_27 : decode cX11_advance 27 = .ok (.dup, 1) := by decide +kernel
theorem dX11_advance_28 : decode cX11_advance 28 = .ok (.getfield 112, 3) := by decide +kernel
theorem dX11_advance_31 : decode cX11_advance 31 = .ok (.iconst 1, 1) := by decide +kernel
theorem dX11_advance_32 : decode cX11_advance 32 = .ok (.iadd, 1) := by decide +kernel
theorem dX11_advance_33 : decode cX11_advance 33 = .ok (.putfield 112, 3) := by decide +kernel
theorem dX11_advance_36 : decode cX11_advance 36 = .ok (.goto (-36), 3) := by decide +kernel
theorem dX11_advance_39 : decode cX11_advance 39 = .ok (.aload_n 0, 1) := by decide +kernel
theorem dX11_advance_40 : decode cX11_advance 40 = .ok (.aload_n 0, 1) := by decide +kernel
theorem dX11_advance_41 : decode cX11_advance 41 = .ok (.getfield 112, 3) := by decide +kernel
theorem dX11_advance_44 : decode cX11_advance 44 = .ok (.putfield 119, 3) := by decide +kernel
theorem dX11_advance_47 : decode cX11_advance 47 = .ok (.aload_n 0, 1) := by decide +kernel
theorem dX11_advance_48 : decode cX11_advance 48 = .ok (.aload_n 0, 1) := by decide +kernel
theorem dX11_advance_49 : decode cX11_advance 49 = .ok (.getfield 112, 3) := by decide +kernel
theorem dX11_advance_52 : decode cX11_advance 52 = .ok (.invokevirtual 115, 3) := by decide +kernel
theorem dX11_advance_55 : decode cX11_advance 55 = .ok (.istore_n 1, 1) := by decide +kernel
theorem dX11_advance_56 : decode cX11_advance 56 = .ok (.iload_n 1, 1) := by decide +kernel
theorem dX11_advance_57 : decode cX11_advance 57 = .ok (.iconst (-1), 1) := by decide +kernel
theorem dX11_advance_58 : decode cX11_advance 58 = .ok (.if_icmp .ne 11, 3) := by decide +kernel
theorem dX11_advance_61 : decode cX11_advance 61 = .ok (.aload_n 0, 1) := by decide +kernel
theorem dX11_advance_62 : decode cX11_advance 62 = .ok (.iconst 0, 1) := by decide +kernel
theorem dX11_advance_63 : decode cX11_advance 63 = .ok (.putfield 122, 3) := by decide +kernel
theorem dX11_advance_66 : decode cX11_advance 66 = .ok (.goto 173, 3) := by decide +kernel
theorem dX11_advance_69 : decode cX11_advance 69 = .ok (.iload_n 1, 1) := by decide +kernel
theorem dX11_advance_70 : decode cX11_advance 70 = .ok (.i2l, 1) := by decide +kernel
theorem dX11_advance_71 : decode cX11_advance 71 = .ok (.ldc2_w 125, 3) := by decide +kernel
theorem dX11_advance_74 : decode cX11_advance 74 = .ok (.ldc2_w 127, 3) := by decide +kernel
theorem dX11_advance_77 : decode cX11_advance 77 = .ok (.invokestatic 91, 3) := by decide +kernel
theorem dX11_advance_80 : decode cX11_advance 80 = .ok (.ifCond .eq 45, 3) := by decide +kernel
theorem dX11_advance_83 : decode cX11_advance 83 = .ok (.aload_n 0, 1) := by decide +kernel
theorem dX11_advance_84 : decode cX11_advance 84 = .ok (.aload_n 0, 1) := by decide +kernel
theorem dX11_advance_85 : decode cX11_advance 85 = .ok (.getfield 112, 3) := by decide +kernel
theorem dX11_advance_88 : decode cX11_advance 88 = .ok (.invokevirtual 115, 3) := by decide +kernel
theorem dX11_advance_91 : decode cX11_advance 91 = .ok (.i2l, 1) := by decide +kernel
theorem dX11_advance_92 : decode cX11_advance 92 = .ok (.ldc2_w 125, 3) := by decide +kernel
theorem dX11_advance_95 : decode cX11_advance 95 = .ok (.ldc2_w 127, 3) := by decide +kernel
theorem dX11_advance_98 : decode cX11_advance 98 = .ok (.invokestatic 91, 3) := by decide +kernel
theorem dX11_advance_101 : decode cX11_advance 101 = .ok (.ifCond .eq 16, 3) := by decide +kernel
theorem dX11_advance_104 : decode cX11_advance 104 = .ok (.aload_n 0, 1) := by decide +kernel
theorem dX11_advance_105 : decode cX11_advance 105 = .ok (.dup, 1) := by decide +kernel
theorem dX11_advance_106 : decode cX11_advance 106 = .ok (.getfield 112, 3) := by decide +kernel
theorem dX11_advance_109 : decode cX11_advance 109 = .ok (.iconst 1, 1) := by decide +kernel
theorem dX11_advance_110 : decode cX11_advance 110 = .ok (.iadd, 1) := by decide +kernel
theorem dX11_advance_111 : decode cX11_advance 111 = .ok (.putfield 112, 3) := by decide +kernel
theorem dX11_advance_114 : decode cX11_advance 114 = .ok (.goto (-31), 3) := by decide +kernel
theorem dX11_advance_117 : decode cX11_advance 117 = .ok (.aload_n 0, 1) := by decide +kernel
theorem dX11_advance_118 : decode cX11_advance 118 = .ok (.iconst 1, 1) := by decide +kernel
theorem dX11_advance_119 : decode cX11_advance 119 = .ok (.putfield 122, 3) := by decide +kernel
theorem dX11_advance_122 : decode cX11_advance 122 = .ok (.goto 117, 3) := by decide +kernel
theorem dX11_advance_125 : decode cX11_advance 125 = .ok (.iload_n 1, 1) := by decide +kernel
theorem dX11_advance_126 : decode cX11_advance 126 = .ok (.i2l, 1) := by decide +kernel
theorem dX11_advance_127 : decode cX11_advance 127 = .ok (.ldc2_w 129, 3) := by decide +kernel
theorem dX11_advance_130 : decode cX11_advance 130 = .ok (.ldc2_w 131, 3) := by decide +kernel
theorem dX11_advance_133 : decode cX11_advance 133 = .ok (.invokestatic 91, 3) := by decide +kernel
theorem dX11_advance_136 : decode cX11_advance 136 = .ok (.ifCond .eq 78, 3) := by decide +kernel
theorem dX11_advance_139 : decode cX11_advance 139 = .ok (.aload_n 0, 1) := by decide +kernel
theorem dX11_advance_140 : decode cX11_advance 140 = .ok (.iconst 0, 1) := by decide +kernel
theorem dX11_advance_141 : decode cX11_advance 141 = .ok (.putfield 133, 3) := by decide +kernel
theorem dX11_advance_144 : decode cX11_advance 144 = .ok (.aload_n 0, 1) := by decide +kernel
theorem dX11_advance_145 : decode cX11_advance 145 = .ok (.aload_n 0, 1) := by decide +kernel
theorem dX11_advance_146 : decode cX11_advance 146 = .ok (.getfield 112, 3) := by decide +kernel
theorem dX11_advance_149 : decode cX11_advance 149 = .ok (.invokevirtual 115, 3) := by decide +kernel
theorem dX11_advance_152 : decode cX11_advance 152 = .ok (.i2l, 1) := by decide +kernel
theorem dX11_advance_153 : decode cX11_advance 153 = .ok (.ldc2_w 129, 3) := by decide +kernel
theorem dX11_advance_156 : decode cX11_advance 156 = .ok (.ldc2_w 131, 3) := by decide +kernel
theorem dX11_advance_159 : decode cX11_advance 159 = .ok (.invokestatic 91, 3) := by decide +kernel
theorem dX11_advance_162 : decode cX11_advance 162 = .ok (.ifCond .eq 44, 3) := by decide +kernel
theorem dX11_advance_165 : decode cX11_advance 165 = .ok (.aload_n 0, 1) := by decide +kernel
theorem dX11_advance_166 : decode cX11_advance 166 = .ok (.ldc 136, 2) := by decide +kernel
theorem dX11_advance_168 : decode cX11_advance 168 = .ok (.bipush 10, 2) := by decide +kernel
theorem dX11_advance_170 : decode cX11_advance 170 = .ok (.aload_n 0, 1) := by decide +kernel
theorem dX11_advance_171 : decode cX11_advance 171 = .ok (.getfield 133, 3) := by decide +kernel
theorem dX11_advance_174 : decode cX11_advance 174 = .ok (.imul, 1) := by decide +kernel
theorem dX11_advance_175 : decode cX11_advance 175 = .ok (.aload_n 0, 1) := by decide +kernel
theorem dX11_advance_176 : decode cX11_advance 176 = .ok (.aload_n 0, 1) := by decide +kernel
theorem dX11_advance_177 : decode cX11_advance 177 = .ok (.getfield 112, 3) := by decide +kernel
theorem dX11_advance_180 : decode cX11_advance 180 = .ok (.invokevirtual 115, 3) := by decide +kernel
theorem dX11_advance_183 : decode cX11_advance 183 = .ok (.iadd, 1) := by decide +kernel
theorem dX11_advance_184 : decode cX11_advance 184 = .ok (.bipush 48, 2) := by decide +kernel
theorem dX11_advance_186 : decode cX11_advance 186 = .ok (.isub, 1) := by decide +kernel
theorem dX11_advance_187 : decode cX11_advance 187 = .ok (.invokestatic 137, 3) := by decide +kernel
theorem dX11_advance_190 : decode cX11_advance 190 = .ok (.putfield 133, 3) := by decide +kernel
theorem dX11_advance_193 : decode cX11_advance 193 = .ok (.aload_n 0, 1) := by decide +kernel
theorem dX11_advance_194 : decode cX11_advance 194 = .ok (.dup, 1) := by decide +kernel
theorem dX11_advance_195 : decode cX11_advance 195 = .ok (.getfield 112, 3) := by decide +kernel
theorem dX11_advance_198 : decode cX11_advance 198 = .ok (.iconst 1, 1) := by decide +kernel
theorem dX11_advance_199 : decode cX11_advance 199 = .ok (.iadd, 1) := by decide +kernel
theorem dX11_advance_200 : decode cX11_advance 200 = .ok (.putfield 112, 3) := by decide +kernel
theorem dX11_advance_203 : decode cX11_advance 203 = .ok (.goto (-59), 3) := by decide +kernel
theorem dX11_advance_206 : decode cX11_advance 206 = .ok (.aload_n 0, 1) := by decide +kernel
theorem dX11_advance_207 : decode cX11_advance 207 = .ok (.iconst 2, 1) := by decide +kernel
theorem dX11_advance_208 : decode cX11_advance 208 = .ok (.putfield 122, 3) := by decide +kernel
theorem dX11_advance_211 : decode cX11_advance 211 = .ok (.goto 28, 3) := by decide +kernel
theorem dX11_advance_214 : decode cX11_advance 214 = .ok (.aload_n 0, 1) := by decide +kernel
theorem dX11_advance_215 : decode cX11_advance 215 = .ok (.iload_n 1, 1) := by decide +kernel
theorem dX11_advance_216 : decode cX11_advance 216 = .ok (.bipush 59, 2) := by decide +kernel
theorem dX11_advance_218 : decode cX11_advance 218 = .ok (.if_icmp .ne 7, 3) := by decide +kernel
theorem dX11_advance_221 : decode cX11_advance 221 = .ok (.iconst 3, 1) := by decide +kernel
theorem dX11_advance_222 : decode cX11_advance 222 = .ok (.goto 4, 3) := by decide +kernel
theorem dX11_advance_225 : decode cX11_advance 225 = .ok (.iconst 4, 1) := by decide +kernel
theorem dX11_advance_226 : decode cX11_advance 226 = .ok (.putfield 122, 3) := by decide +kernel
theorem dX11_advance_229 : decode cX11_advance 229 = .ok (.aload_n 0, 1) := by decide +kernel
theorem dX11_advance_230 : decode cX11_advance 230 = .ok (.dup, 1) := by decide +kernel
theorem dX11_advance_231 : decode cX11_advance 231 = .ok (.getfield 112, 3) := by decide +kernel
theorem dX11_advance_234 : decode cX11_advance 234 = .ok (.iconst 1, 1) := by decide +kernel
theorem dX11_advance_235 : decode cX11_advance 235 = .ok (.iadd, 1) := by decide +kernel
theorem dX11_advance_236 : decode cX11_advance 236 = .ok (.putfield 112, 3) := by decide +kernel
theorem dX11_advance_239 : decode cX11_advance 239 = .ok (.return_, 1) := by decide +kernel
theorem dX11_is_0 : decode cX11_is 0 = .ok (.aload_n 0, 1) := by decide +kernel
theorem dX11_is_1 : decode cX11_is 1 = .ok (.invokevirtual 146, 3) := by decide +kernel
theorem dX11_is_4 : decode cX11_is 4 = .ok (.ifCond .eq 31, 3) := by decide +kernel
theorem dX11_is_7 : decode cX11_is 7 = .ok (.aload_n 0, 1) := by decide +kernel
theorem dX11_is_8 : decode cX11_is 8 = .ok (.getfield 122, 3) := by decide +kernel
theorem dX11_is_11 : decode cX11_is 11 = .ok (.iconst 1, 1) := by decide +kernel
theorem dX11_is_12 : decode cX11_is 12 = .ok (.if_icmp .ne 23, 3) := by decide +kernel
theorem dX11_is_15 : decode cX11_is 15 = .ok (.aload_n 0, 1) := by decide +kernel
theorem dX11_is_16 : decode cX11_is 16 = .ok (.getfield 112, 3) := by decide +kernel
theorem dX11_is_19 : decode cX11_is 19 = .ok (.aload_n 0, 1) := by decide +kernel
theorem dX11_is_20 : decode cX11_is 20 = .ok (.getfield 119, 3) := by decide +kernel
theorem dX11_is_23 : decode cX11_is 23 = .ok (.isub, 1) := by decide +kernel
theorem dX11_is_24 : decode cX11_is 24 = .ok (.aload_n 1, 1) := by decide +kernel
theorem dX11_is_25 : decode cX11_is 25 = .ok (.invokevirtual 149, 3) := by decide +kernel
theorem dX11_is_28 : decode cX11_is 28 = .ok (.if_icmp .ne 7, 3) := by decide +kernel
theorem dX11_is_31 : decode cX11_is 31 = .ok (.iconst 1, 1) := by decide +kernel
theorem dX11_is_32 : decode cX11_is 32 = .ok (.goto 4, 3) := by decide +kernel
theorem dX11_is_35 : decode cX11_is 35 = .ok (.iconst 0, 1) := by decide +kernel
theorem dX11_is_36 : decode cX11_is 36 = .ok (.istore_n 2, 1) := by decide +kernel
theorem dX11_is_37 : decode cX11_is 37 = .ok (.iconst 0, 1) := by decide +kernel
theorem dX11_is_38 : decode cX11_is 38 = .ok (.istore_n 3, 1) := by decide +kernel
theorem dX11_is_39 : decode cX11_is 39 = .ok (.iload_n 3, 1) := by decide +kernel
theorem dX11_is_40 : decode cX11_is 40 = .ok (.aload_n 1, 1) := by decide +kernel
theorem dX11_is_41 : decode cX11_is 41 = .ok (.invokevirtual 149, 3) := by decide +kernel
theorem dX11_is_44 : decode cX11_is 44 = .ok (.if_icmp .ge 38, 3) := by decide +kernel
theorem dX11_is_47 : decode cX11_is 47 = .ok (.iload_n 2, 1) := by decide +kernel
theorem dX11_is_48 : decode cX11_is 48 = .ok (.ifCond .eq 34, 3) := by decide +kernel
theorem dX11_is_51 : decode cX11_is 51 = .ok (.aload_n 0, 1) := by decide +kernel
theorem dX11_is_52 : decode cX11_is 52 = .ok (.getfield 20, 3) := by decide +kernel
theorem dX11_is_55 : decode cX11_is 55 = .ok (.aload_n 0, 1) := by decide +kernel
theorem dX11_is_56 : decode cX11_is 56 = .ok (.getfield 119, 3) := by decide +kernel
theorem dX11_is_59 : decode cX11_is 59 = .ok (.iload_n 3, 1) := by decide +kernel
theorem dX11_is_60 : decode cX11_is 60 = .ok (.iadd, 1) := by decide +kernel
theorem dX11_is_61 : decode cX11_is 61 = .ok (.baload, 1) := by decide +kernel
theorem dX11_is_62 : decode cX11_is 62 = .ok (.aload_n 1, 1) := by decide +kernel
theorem dX11_is_63 : decode cX11_is 63 = .ok (.iload_n 3, 1) := by decide +kernel
theorem dX11_is_64 : decode cX11_is 64 = .ok (.invokevirtual 154, 3) := by decide +kernel
theorem dX11_is_67 : decode cX11_is 67 = .ok (.if_icmp .ne 7, 3) := by decide +kernel
theorem dX11_is_70 : decode cX11_is 70 = .ok (.iconst 1, 1) := by decide +kernel
theorem dX11_is_71 : decode cX11_is 71 = .ok (.goto 4, 3) := by decide +kernel
theorem dX11_is_74 : decode cX11_is 74 = .ok (.iconst 0, 1) := by decide +kernel
theorem dX11_is_75 : decode cX11_is 75 = .ok (.istore_n 2, 1) := by decide +kernel
theorem dX11_is_76 : decode cX11_is 76 = .ok (.iinc 3 1, 3) := by decide +kernel
theorem dX11_is_79 : decode cX11_is 79 = .ok (.goto (-40), 3) := by decide +kernel
theorem dX11_is_82 : decode cX11_is 82 = .ok (.iload_n 2, 1) := by decide +kernel
theorem dX11_is_83 : decode cX11_is 83 = .ok (.ireturn, 1) := by decide +kernel
theorem dX11_takes_0 : decode cX11_takes 0 = .ok (.aload_n 0, 1) := by decide +kernel
theorem dX11_takes_1 : decode cX11_takes 1 = .ok (.aload_n 1, 1) := by decide +kernel
theorem dX11_takes_2 : decode cX11_takes 2 = .ok (.invokevirtual 158, 3) := by decide +kernel
theorem dX11_takes_5 : decode cX11_takes 5 = .ok (.istore_n 2, 1) := by decide +kernel
theorem dX11_takes_6 : decode cX11_takes 6 = .ok (.iload_n 2, 1) := by decide +kernel
theorem dX11_takes_7 : decode cX11_takes 7 = .ok (.ifCond .eq 7, 3) := by decide +kernel
theorem dX11_takes_10 : decode cX11_takes 10 = .ok (.aload_n 0, 1) := by decide +kernel
theorem dX11_takes_11 : decode cX11_takes 11 = .ok (.invokevirtual 162, 3) := by decide +kernel
theorem dX11_takes_14 : decode cX11_takes 14 = .ok (.iload_n 2, 1) := by decide +kernel
theorem dX11_takes_15 : decode cX11_takes 15 = .ok (.ireturn, 1) := by decide +kernel
theorem dX11_expects_0 : decode cX11_expects 0 = .ok (.aload_n 0, 1) := by decide +kernel
theorem dX11_expects_1 : decode cX11_expects 1 = .ok (.aload_n 1, 1) := by decide +kernel
theorem dX11_expects_2 : decode cX11_expects 2 = .ok (.invokevirtual 165, 3) := by decide +kernel
theorem dX11_expects_5 : decode cX11_expects 5 = .ok (.ifCond .ne 8, 3) := by decide +kernel
theorem dX11_expects_8 : decode cX11_expects 8 = .ok (.aload_n 0, 1) := by decide +kernel
theorem dX11_expects_9 : decode cX11_expects 9 = .ok (.iconst 1, 1) := by decide +kernel
theorem dX11_expects_10 : decode cX11_expects 10 = .ok (.invokevirtual 168, 3) := by decide +kernel
theorem dX11_expects_13 : decode cX11_expects 13 = .ok (.return_, 1) := by decide +kernel
theorem dX11_number_0 : decode cX11_number 0 = .ok (.aload_n 0, 1) := by decide +kernel
theorem dX11_number_1 : decode cX11_number 1 = .ok (.invokevirtual 146, 3) := by decide +kernel
theorem dX11_number_4 : decode cX11_number 4 = .ok (.ifCond .eq 16, 3) := by decide +kernel
theorem dX11_number_7 : decode cX11_number 7 = .ok (.aload_n 0, 1) := by decide +kernel
theorem dX11_number_8 : decode cX11_number 8 = .ok (.getfield 122, 3) := by decide +kernel
theorem dX11_number_11 : decode cX11_number 11 = .ok (.iconst 2, 1) := by decide +kernel
theorem dX11_number_12 : decode cX11_number 12 = .ok (.if_icmp .eq 8, 3) := by decide +kernel
theorem dX11_number_15 : decode cX11_number 15 = .ok (.aload_n 0, 1) := by decide +kernel
theorem dX11_number_16 : decode cX11_number 16 = .ok (.iconst 1, 1) := by decide +kernel
theorem dX11_number_17 : decode cX11_number 17 = .ok (.invokevirtual 168, 3) := by decide +kernel
theorem dX11_number_20 : decode cX11_number 20 = .ok (.aload_n 0, 1) := by decide +kernel
theorem dX11_number_21 : decode cX11_number 21 = .ok (.invokevirtual 146, 3) := by decide +kernel
theorem dX11_number_24 : decode cX11_number 24 = .ok (.ifCond .eq 23, 3) := by decide +kernel
theorem dX11_number_27 : decode cX11_number 27 = .ok (.aload_n 0, 1) := by decide +kernel
theorem dX11_number_28 : decode cX11_number 28 = .ok (.getfield 133, 3) := by decide +kernel
theorem dX11_number_31 : decode cX11_number 31 = .ok (.i2l, 1) := by decide +kernel
theorem dX11_number_32 : decode cX11_number 32 = .ok (.iload_n 1, 1) := by decide +kernel
theorem dX11_number_33 : decode cX11_number 33 = .ok (.i2l, 1) := by decide +kernel
theorem dX11_number_34 : decode cX11_number 34 = .ok (.iload_n 2, 1) := by decide +kernel
theorem dX11_number_35 : decode cX11_number 35 = .ok (.i2l, 1) := by decide +kernel
theorem dX11_number_36 : decode cX11_number 36 = .ok (.invokestatic 91, 3) := by decide +kernel
theorem dX11_number_39 : decode cX11_number 39 = .ok (.ifCond .ne 8, 3) := by decide +kernel
theorem dX11_number_42 : decode cX11_number 42 = .ok (.aload_n 0, 1) := by decide +kernel
theorem dX11_number_43 : decode cX11_number 43 = .ok (.iconst 2, 1) := by decide +kernel
theorem dX11_number_44 : decode cX11_number 44 = .ok (.invokevirtual 168, 3) := by decide +kernel
theorem dX11_number_47 : decode cX11_number 47 = .ok (.aload_n 0, 1) := by decide +kernel
theorem dX11_number_48 : decode cX11_number 48 = .ok (.invokevirtual 146, 3) := by decide +kernel
theorem dX11_number_51 : decode cX11_number 51 = .ok (.ifCond .ne 5, 3) := by decide +kernel
theorem dX11_number_54 : decode cX11_number 54 = .ok (.iconst 0, 1) := by decide +kernel
theorem dX11_number_55 : decode cX11_number 55 = .ok (.ireturn, 1) := by decide +kernel
theorem dX11_number_56 : decode cX11_number 56 = .ok (.aload_n 0, 1) := by decide +kernel
theorem dX11_number_57 : decode cX11_number 57 = .ok (.getfield 133, 3) := by decide +kernel
theorem dX11_number_60 : decode cX11_number 60 = .ok (.istore_n 3, 1) := by decide +kernel
theorem dX11_number_61 : decode cX11_number 61 = .ok (.aload_n 0, 1) := by decide +kernel
theorem dX11_number_62 : decode cX11_number 62 = .ok (.invokevirtual 162, 3) := by decide +kernel
theorem dX11_number_65 : decode cX11_number 65 = .ok (.iload_n 3, 1) := by decide +kernel
theorem dX11_number_66 : decode cX11_number 66 = .ok (.ireturn, 1) := by decide +kernel
theorem dX11_told_0 : decode cX11_told 0 = .ok (.aload_n 0, 1) := by decide +kernel
theorem dX11_told_1 : decode cX11_told 1 = .ok (.aload_n 1, 1) := by decide +kernel
theorem dX11_told_2 : decode cX11_told 2 = .ok (.invokevirtual 172, 3) := by decide +kernel
theorem dX11_told_5 : decode cX11_told 5 = .ok (.aload_n 0, 1) := by decide +kernel
theorem dX11_told_6 : decode cX11_told 6 = .ok (.iload_n 2, 1) := by decide +kernel
theorem dX11_told_7 : decode cX11_told 7 = .ok (.iload_n 3, 1) := by decide +kernel
theorem dX11_told_8 : decode cX11_told 8 = .ok (.invokevirtual 176, 3) := by decide +kernel
theorem dX11_told_11 : decode cX11_told 11 = .ok (.ireturn, 1) := by decide +kernel
set_option maxHeartbeats 4000000 in
set_option maxRecDepth 100000 in
theorem ctX11_see (l : Launch) (D : va_G) (k : Nat → ClassId) (z : Nat → Nat) (n : Nat → Nat) (mthrown : Int32) (mtaped : Nat) (msize : Nat) (mat : Nat) (mfrom : Nat) (mtoken : Int32) (mvalue : Int32) (mfaultKind : Int32) (mfaultPlace : Int32) (mmoreMany : Nat) (mlawNow : Int32) (mwetSet : Int32) (moverAll : Int32) (mones : Int32) (mtwos : Int32) (mgone : Int32) (mroundNow : Int32) (msampleFor : Int64) (msampleAll : Int64) (maskWorst : Int32) (moftenAll : Int64) (moftenView : Int64) (moftenOnes : Int64) (ftape : Nat → Int32) (p0 : Nat) (hmtaped : mtaped ≤ 600) (hmsize : msize ≤ 600) (hmat : mat ≤ 600) (hmfrom : mfrom ≤ 600) (hmmoreMany : mmoreMany ≤ 14) (hp0 : p0 ≤ 600) : RO l yX11_see cX11_see 2 (some .int) 0 D k z [.ref (n 0), .int (nI p0)] [((n 0), .inr (11, [.int mthrown, .ref (n 1), .ref (n 2), .ref (n 3), .ref (n 4), .int (nI mtaped), .ref (n 5), .int (nI msize), .int (nI mat), .int (nI mfrom), .int mtoken, .int mvalue, .int mfaultKind, .int mfaultPlace, .ref (n 6), .ref (n 7), .ref (n 8), .ref (n 9), .ref (n 10), .ref (n 11), .ref (n 12), .int (nI mmoreMany), .int mlawNow, .int mwetSet, .int moverAll, .ref (n 13), .ref (n 14), .ref (n 15), .int mones, .int mtwos, .int mgone, .ref (n 16), .ref (n 17), .int mroundNow, .ref (n 18), .long msampleFor, .long msampleAll, .ref (n 19), .int maskWorst, .long moftenAll, .long moftenView, .long moftenOnes, .ref (n 20), .ref (n 21), .ref (n 22), .ref (n 23)])), ((n 4), .inl (k 1, 600, .inl ftape))] (Qi (fun r : Int32 => (r = -1 ∨ p0 < msize))) := by
  refine RO.of (by decide) (Nat.le_of_ble_eq_true rfl) ?_
  intro p e s m below meth c ls A B args Q S hr hlk hQ hK hP hDW hZ hAB hBA hA hS hl
  have hx := S.1
  have hb := S.2.1
  have hl : lv_has ls 2 [(0, .ref (n 0)), (1, .int (nI p0))] := hl
  refine lv_iload_n hx hb dX11_see_0 rfl (lv_at hl 1 rfl) ?_
  refine lv_aload_n hx hb dX11_see_1 rfl (lv_at hl 0 rfl) ?_
  refine x_get S hK hP 0 rfl cfX11 7 lkX11_109 (by decide) rfl dX11_see_2 ?_
  refine lv_icmp_ge (tgt := 21) hx hb dX11_see_5 (by decide) (fun c_1 => ?_) (fun c_1 => ?_)
  · skip
    have c_1 : msize ≤ p0 := (ni_le rfl rfl (by omega) (by omega)).mp c_1
    refine lv_iconst (v := (-1)) hx hb dX11_see_21 (by decide) ?_
    exact x_reti S hr hlk hQ hS () (Or.inl rfl) x_T dX11_see_22
  · skip
    have c_1 : ¬ msize ≤ p0 := fun q => c_1 ((ni_le rfl rfl (by omega) (by omega)).mpr q)
    refine lv_aload_n hx hb dX11_see_8 rfl (lv_at hl 0 rfl) ?_
    refine x_get S hK hP 0 rfl cfX11 4 lkX11_20 (by decide) rfl dX11_see_9 ?_
    refine lv_iload_n hx hb dX11_see_12 rfl (lv_at hl 1 rfl) ?_
    refine x_bald S hK hP 1 rfl (vp_in_nI (by omega) (by decide)) dX11_see_13 ?_
    refine lv_topi (fun v_2 ev_2 => ?_)
    refine lv_sipush (v := 255) hx hb dX11_see_14 (by decide) ?_
    refine lv_iand hx hb dX11_see_17 ?_
    refine lv_topi (fun v_3 ev_3 => ?_)
    refine lv_goto (tgt := 22) hx hb dX11_see_18 (by decide) ?_
    exact x_reti S hr hlk hQ hS () (Or.inr (by omega)) x_T dX11_see_22

set_option maxHeartbeats 4000000 in
set_option maxRecDepth 100000 in
theorem ctX11_good (l : Launch) (D : va_G) (k : Nat → ClassId) (z : Nat → Nat) (n : Nat → Nat) (mthrown : Int32) (mtaped : Nat) (msize : Nat) (mat : Nat) (mfrom : Nat) (mtoken : Int32) (mvalue : Int32) (mfaultKind : Int32) (mfaultPlace : Int32) (mmoreMany : Nat) (mlawNow : Int32) (mwetSet : Int32) (moverAll : Int32) (mones : Int32) (mtwos : Int32) (mgone : Int32) (mroundNow : Int32) (msampleFor : Int64) (msampleAll : Int64) (maskWorst : Int32) (moftenAll : Int64) (moftenView : Int64) (moftenOnes : Int64) (hmtaped : mtaped ≤ 600) (hmsize : msize ≤ 600) (hmat : mat ≤ 600) (hmfrom : mfrom ≤ 600) (hmmoreMany : mmoreMany ≤ 14) : RO l yX11_good cX11_good 1 (some .boolean) 0 D k z [.ref (n 0)] [((n 0), .inr (11, [.int mthrown, .ref (n 1), .ref (n 2), .ref (n 3), .ref (n 4), .int (nI mtaped), .ref (n 5), .int (nI msize), .int (nI mat), .int (nI mfrom), .int mtoken, .int mvalue, .int mfaultKind, .int mfaultPlace, .ref (n 6), .ref (n 7), .ref (n 8), .ref (n 9), .ref (n 10), .ref (n 11), .ref (n 12), .int (nI mmoreMany), .int mlawNow, .int mwetSet, .int moverAll, .ref (n 13), .ref (n 14), .ref (n 15), .int mones, .int mtwos, .int mgone, .ref (n 16), .ref (n 17), .int mroundNow, .ref (n 18), .long msampleFor, .long msampleAll, .ref (n 19), .int maskWorst, .long moftenAll, .long moftenView, .long moftenOnes, .ref (n 20), .ref (n 21), .ref (n 22), .ref (n 23)]))] (Qi (fun r : Int32 => (r = (bo (mfaultKind = 0))))) := by
  refine RO.of (by decide) (Nat.le_of_ble_eq_true rfl) ?_
  intro p e s m below meth c ls A B args Q S hr hlk hQ hK hP hDW hZ hAB hBA hA hS hl
  have hx := S.1
  have hb := S.2.1
  have hl : lv_has ls 1 [(0, .ref (n 0))] := hl
  refine lv_aload_n hx hb dX11_good_0 rfl (lv_at hl 0 rfl) ?_
  refine x_get S hK hP 0 rfl cfX11 12 lkX11_143 (by decide) rfl dX11_good_1 ?_
  refine lv_if_ne (tgt := 11) hx hb dX11_good_4 (by decide) (fun c_1 => ?_) (fun c_1 => ?_)
  · skip
    refine lv_iconst (v := 0) hx hb dX11_good_11 (by decide) ?_
    exact x_retz S hr hlk hQ hS rfl () (bo_f c_1).symm x_T dX11_good_12
  · skip
    refine lv_iconst (v := 1) hx hb dX11_good_7 (by decide) ?_
    refine lv_goto (tgt := 12) hx hb dX11_good_8 (by decide) ?_
    exact x_retz S hr hlk hQ hS rfl () (bo_t c_1).symm x_T dX11_good_12

set_option maxHeartbeats 4000000 in
set_option maxRecDepth 100000 in
theorem ctX11_errs (l : Launch) (D : va_G) (k : Nat → ClassId) (z : Nat → Nat) (n : Nat → Nat) (mthrown : Int32) (mtaped : Nat) (msize : Nat) (mat : Nat) (mfrom : Nat) (mtoken : Int32) (mvalue : Int32) (mfaultKind : Int32) (mfaultPlace : Int32) (mmoreMany : Nat) (mlawNow : Int32) (mwetSet : Int32) (moverAll : Int32) (mones : Int32) (mtwos : Int32) (mgone : Int32) (mroundNow : Int32) (msampleFor : Int64) (msampleAll : Int64) (maskWorst : Int32) (moftenAll : Int64) (moftenView : Int64) (moftenOnes : Int64) (p0 : Nat) (hmtaped : mtaped ≤ 600) (hmsize : msize ≤ 600) (hmat : mat ≤ 600) (hmfrom : mfrom ≤ 600) (hmmoreMany : mmoreMany ≤ 14) (hp0 : p0 ≤ 3) (hp1 : 1 ≤ p0) : MU l yX11_errs cX11_errs 2 none 1 D k z [.ref (n 0), .int (nI p0)] [((n 0), .inr (11, [.int mthrown, .ref (n 1), .ref (n 2), .ref (n 3), .ref (n 4), .int (nI mtaped), .ref (n 5), .int (nI msize), .int (nI mat), .int (nI mfrom), .int mtoken, .int mvalue, .int mfaultKind, .int mfaultPlace, .ref (n 6), .ref (n 7), .ref (n 8), .ref (n 9), .ref (n 10), .ref (n 11), .ref (n 12), .int (nI mmoreMany), .int mlawNow, .int mwetSet, .int moverAll, .ref (n 13), .ref (n 14), .ref (n 15), .int mones, .int mtwos, .int mgone, .ref (n 16), .ref (n 17), .int mroundNow, .ref (n 18), .long msampleFor, .long msampleAll, .ref (n 19), .int maskWorst, .long moftenAll, .long moftenView, .long moftenOnes, .ref (n 20), .ref (n 21), .ref (n 22), .ref (n 23)]))] 0 0 (Uv D (fun u : (Nat → Int32) × (Nat → Nat) × (Nat → Nat → Int32) × (Nat → Nat → Int64) × (Nat → Int64) => (¬ (u.1 0) = 0)) (fun u : (Nat → Int32) × (Nat → Nat) × (Nat → Nat → Int32) × (Nat → Nat → Int64) × (Nat → Int64) => [((n 0), .inr (11, [.int mthrown, .ref (n 1), .ref (n 2), .ref (n 3), .ref (n 4), .int (nI mtaped), .ref (n 5), .int (nI msize), .int (nI mat), .int (nI mfrom), .int mtoken, .int mvalue, .int (u.1 0), .int (u.1 1), .ref (n 6), .ref (n 7), .ref (n 8), .ref (n 9), .ref (n 10), .ref (n 11), .ref (n 12), .int (nI mmoreMany), .int mlawNow, .int mwetSet, .int moverAll, .ref (n 13), .ref (n 14), .ref (n 15), .int mones, .int mtwos, .int mgone, .ref (n 16), .ref (n 17), .int mroundNow, .ref (n 18), .long msampleFor, .long msampleAll, .ref (n 19), .int maskWorst, .long moftenAll, .long moftenView, .long moftenOnes, .ref (n 20), .ref (n 21), .ref (n 22), .ref (n 23)]))])) := by
  refine MU.of (by decide) (Nat.le_of_ble_eq_true rfl) ?_
  intro p e s m below meth c ls A args Q S hr hlk hnm hQ hK hP hD hZ hA hS hl
  have hx := S.1
  have hb := S.2.1
  have hl : lv_has ls 2 [(0, .ref (n 0)), (1, .int (nI p0))] := hl
  refine lv_aload_n hx hb dX11_errs_0 rfl (lv_at hl 0 rfl) ?_
  refine x_roVi (As := []) S hK hP hD hZ (fun _ h => h) hA hS hA hl mwX11_good lkX11_146 (ctX11_good l D k z n mthrown mtaped msize mat mfrom mtoken mvalue mfaultKind mfaultPlace mmoreMany mlawNow mwetSet moverAll mones mtwos mgone mroundNow msampleFor msampleAll maskWorst moftenAll moftenView moftenOnes (by omega) (by omega) (by omega) (by omega) (by omega)) [0] rfl (by decide) rfl rfl rfl rfl rfl ⟨Nat.le_of_ble_eq_true rfl, Nat.le_of_ble_eq_true rfl, Nat.le_of_ble_eq_true rfl⟩ dX11_errs_1 ⟨Nat.le_of_ble_eq_true rfl, Nat.le_of_ble_eq_true rfl⟩ (fun r_1 H locs hr_1 hP hS => ?_)
  obtain rfl := hr_1
  refine lv_if_ne (tgt := 8) hx hb dX11_errs_4 (by decide) (fun c_3 => ?_) (fun c_3 => ?_)
  · skip
    have c_3 : mfaultKind = 0 := bo_1.mp c_3
    refine lv_aload_n hx hb dX11_errs_8 rfl (lv_at hl 0 rfl) ?_
    refine lv_iload_n hx hb dX11_errs_9 rfl (lv_at hl 1 rfl) ?_
    refine x_put (ws' := [((n 0), .inr (11, [.int mthrown, .ref (n 1), .ref (n 2), .ref (n 3), .ref (n 4), .int (nI mtaped), .ref (n 5), .int (nI msize), .int (nI mat), .int (nI mfrom), .int mtoken, .int mvalue, .int (nI p0), .int mfaultPlace, .ref (n 6), .ref (n 7), .ref (n 8), .ref (n 9), .ref (n 10), .ref (n 11), .ref (n 12), .int (nI mmoreMany), .int mlawNow, .int mwetSet, .int moverAll, .ref (n 13), .ref (n 14), .ref (n 15), .int mones, .int mtwos, .int mgone, .ref (n 16), .ref (n 17), .int mroundNow, .ref (n 18), .long msampleFor, .long msampleAll, .ref (n 19), .int maskWorst, .long moftenAll, .long moftenView, .long moftenOnes, .ref (n 20), .ref (n 21), .ref (n 22), .ref (n 23)]))]) S hK hP hD hS 0 rfl cfX11 12 lkX11_143 (by decide) rfl rfl rfl (Nat.le_of_ble_eq_true rfl) rfl dX11_errs_10 (fun H locs hP hD hS => ?_)
    refine lv_aload_n hx hb dX11_errs_13 rfl (lv_at hl 0 rfl) ?_
    refine lv_aload_n hx hb dX11_errs_14 rfl (lv_at hl 0 rfl) ?_
    refine x_get S hK hP 0 rfl cfX11 9 lkX11_119 (by decide) rfl dX11_errs_15 ?_
    refine x_put (ws' := [((n 0), .inr (11, [.int mthrown, .ref (n 1), .ref (n 2), .ref (n 3), .ref (n 4), .int (nI mtaped), .ref (n 5), .int (nI msize), .int (nI mat), .int (nI mfrom), .int mtoken, .int mvalue, .int (nI p0), .int (nI mfrom), .ref (n 6), .ref (n 7), .ref (n 8), .ref (n 9), .ref (n 10), .ref (n 11), .ref (n 12), .int (nI mmoreMany), .int mlawNow, .int mwetSet, .int moverAll, .ref (n 13), .ref (n 14), .ref (n 15), .int mones, .int mtwos, .int mgone, .ref (n 16), .ref (n 17), .int mroundNow, .ref (n 18), .long msampleFor, .long msampleAll, .ref (n 19), .int maskWorst, .long moftenAll, .long moftenView, .long moftenOnes, .ref (n 20), .ref (n 21), .ref (n 22), .ref (n 23)]))]) S hK hP hD hS 0 rfl cfX11 13 lkX11_27 (by decide) rfl rfl rfl (Nat.le_of_ble_eq_true rfl) rfl dX11_errs_18 (fun H locs hP hD hS => ?_)
    exact x_retv S hr hlk hQ hS ((fun i => ([(nI p0), (nI mfrom)] : List (Int32)).getD i 0), (fun i => ([] : List (Nat)).getD i 0), (fun i => ([] : List (Nat → Int32)).getD i (fun _ => 0)), (fun i => ([] : List (Nat → Int64)).getD i (fun _ => 0)), (fun i => ([] : List (Int64)).getD i 0)) (nI_ne0 (by omega) (by omega)) (x_B hP hD) dX11_errs_21
  · skip
    have c_3 : ¬ (mfaultKind = 0) := bo_0.mp c_3
    exact x_retv S hr hlk hQ hS ((fun i => ([mfaultKind, mfaultPlace] : List (Int32)).getD i 0), (fun i => ([] : List (Nat)).getD i 0), (fun i => ([] : List (Nat → Int32)).getD i (fun _ => 0)), (fun i => ([] : List (Nat → Int64)).getD i (fun _ => 0)), (fun i => ([] : List (Int64)).getD i 0)) c_3 (x_B hP hD) dX11_errs_7

set_option maxHeartbeats 4000000 in
set_option maxRecDepth 100000 in
theorem ctX11_advance (l : Launch) (D : va_G) (k : Nat → ClassId) (z : Nat → Nat) (n : Nat → Nat) (mthrown : Int32) (mtaped : Nat) (msize : Nat) (mat : Nat) (mfrom : Nat) (mtoken : Int32) (mvalue : Int32) (mfaultKind : Int32) (mfaultPlace : Int32) (mmoreMany : Nat) (mlawNow : Int32) (mwetSet : Int32) (moverAll : Int32) (mones : Int32) (mtwos : Int32) (mgone : Int32) (mroundNow : Int32) (msampleFor : Int64) (msampleAll : Int64) (maskWorst : Int32) (moftenAll : Int64) (moftenView : Int64) (moftenOnes : Int64) (ftape : Nat → Int32) (hmtaped : mtaped ≤ 600) (hmsize : msize ≤ 600) (hmat : mat ≤ 600) (hmfrom : mfrom ≤ 600) (hmmoreMany : mmoreMany ≤ 14) : MU l yX11_advance cX11_advance 2 none 1 D k z [.ref (n 0)] [((n 0), .inr (11, [.int mthrown, .ref (n 1), .ref (n 2), .ref (n 3), .ref (n 4), .int (nI mtaped), .ref (n 5), .int (nI msize), .int (nI mat), .int (nI mfrom), .int mtoken, .int mvalue, .int mfaultKind, .int mfaultPlace, .ref (n 6), .ref (n 7), .ref (n 8), .ref (n 9), .ref (n 10), .ref (n 11), .ref (n 12), .int (nI mmoreMany), .int mlawNow, .int mwetSet, .int moverAll, .ref (n 13), .ref (n 14), .ref (n 15), .int mones, .int mtwos, .int mgone, .ref (n 16), .ref (n 17), .int mroundNow, .ref (n 18), .long msampleFor, .long msampleAll, .ref (n 19), .int maskWorst, .long moftenAll, .long moftenView, .long moftenOnes, .ref (n 20), .ref (n 21), .ref (n 22), .ref (n 23)])), ((n 4), .inl (k 1, 600, .inl ftape))] 0 0 (Uv D (fun u : (Nat → Int32) × (Nat → Nat) × (Nat → Nat → Int32) × (Nat → Nat → Int64) × (Nat → Int64) => (u.2.1 0 ≤ 600) ∧ (u.2.1 1 ≤ 600) ∧ (mat ≤ (u.2.1 1) ∧ (u.2.1 1) ≤ (u.2.1 0))) (fun u : (Nat → Int32) × (Nat → Nat) × (Nat → Nat → Int32) × (Nat → Nat → Int64) × (Nat → Int64) => [((n 0), .inr (11, [.int mthrown, .ref (n 1), .ref (n 2), .ref (n 3), .ref (n 4), .int (nI mtaped), .ref (n 5), .int (nI msize), .int (nI (u.2.1 0)), .int (nI (u.2.1 1)), .int (u.1 0), .int (u.1 1), .int mfaultKind, .int mfaultPlace, .ref (n 6), .ref (n 7), .ref (n 8), .ref (n 9), .ref (n 10), .ref (n 11), .ref (n 12), .int (nI mmoreMany), .int mlawNow, .int mwetSet, .int moverAll, .ref (n 13), .ref (n 14), .ref (n 15), .int mones, .int mtwos, .int mgone, .ref (n 16), .ref (n 17), .int mroundNow, .ref (n 18), .long msampleFor, .long msampleAll, .ref (n 19), .int maskWorst, .long moftenAll, .long moftenView, .long moftenOnes, .ref (n 20), .ref (n 21), .ref (n 22), .ref (n 23)])), ((n 4), .inl (k 1, 600, .inl ftape))])) := by
  refine MU.of (by decide) (Nat.le_of_ble_eq_true rfl) ?_
  intro p e s m below meth c ls A args Q S hr hlk hnm hQ hK hP hD hZ hA hS hl
  have hx := S.1
  have hb := S.2.1
  have hl : lv_has ls 2 [(0, .ref (n 0))] := hl
  have lp_11 : ∀ (nn j_10 : Nat)  (H : Heap) (locs : List Loc) (ls : Array Slot), j_10 ≤ 600 → 600 - j_10 < nn → mat ≤ j_10 → va_P D vwCl [((n 0), .inr (11, [.int mthrown, .ref (n 1), .ref (n 2), .ref (n 3), .ref (n 4), .int (nI mtaped), .ref (n 5), .int (nI msize), .int (nI j_10), .int (nI mfrom), .int mtoken, .int mvalue, .int mfaultKind, .int mfaultPlace, .ref (n 6), .ref (n 7), .ref (n 8), .ref (n 9), .ref (n 10), .ref (n 11), .ref (n 12), .int (nI mmoreMany), .int mlawNow, .int mwetSet, .int moverAll, .ref (n 13), .ref (n 14), .ref (n 15), .int mones, .int mtwos, .int mgone, .ref (n 16), .ref (n 17), .int mroundNow, .ref (n 18), .long msampleFor, .long msampleAll, .ref (n 19), .int maskWorst, .long moftenAll, .long moftenView, .long moftenOnes, .ref (n 20), .ref (n 21), .ref (n 22), .ref (n 23)])), ((n 4), .inl (k 1, 600, .inl ftape))] H → va_D A [((n 0), .inr (11, [.int mthrown, .ref (n 1), .ref (n 2), .ref (n 3), .ref (n 4), .int (nI mtaped), .ref (n 5), .int (nI msize), .int (nI j_10), .int (nI mfrom), .int mtoken, .int mvalue, .int mfaultKind, .int mfaultPlace, .ref (n 6), .ref (n 7), .ref (n 8), .ref (n 9), .ref (n 10), .ref (n 11), .ref (n 12), .int (nI mmoreMany), .int mlawNow, .int mwetSet, .int moverAll, .ref (n 13), .ref (n 14), .ref (n 15), .int mones, .int mtwos, .int mgone, .ref (n 16), .ref (n 17), .int mroundNow, .ref (n 18), .long msampleFor, .long msampleAll, .ref (n 19), .int maskWorst, .long moftenAll, .long moftenView, .long moftenOnes, .ref (n 20), .ref (n 21), .ref (n 22), .ref (n 23)])), ((n 4), .inl (k 1, 600, .inl ftape))] → va_S A s.heap H locs → lv_has ls 2 [(0, .ref (n 0))] → W p l e (Rm 1 0 0) s m args below meth c H locs 0 0 Q (F0 m 0 ls []) := by
    intro nn
    induction nn with
    | zero => intro j_10  H locs ls hjj_10 hnj_10 hloj_10; exact absurd hnj_10 (by omega)
    | succ nn ihj_10 =>
      intro j_10  H locs ls hjj_10 hnj_10 hloj_10 hP hD hS hl
      refine lv_aload_n hx hb dX11_advance_0 rfl (lv_at hl 0 rfl) ?_
      refine lv_aload_n hx hb dX11_advance_1 rfl (lv_at hl 0 rfl) ?_
      refine x_get S hK hP 0 rfl cfX11 8 lkX11_112 (by decide) rfl dX11_advance_2 ?_
      refine x_roVi (As := [.int (nI j_10)]) S hK hP hD hZ (fun _ h => h) hA hS hA hl mwX11_see lkX11_115 (ctX11_see l D k z n mthrown mtaped msize j_10 mfrom mtoken mvalue mfaultKind mfaultPlace mmoreMany mlawNow mwetSet moverAll mones mtwos mgone mroundNow msampleFor msampleAll maskWorst moftenAll moftenView moftenOnes ftape j_10 (by omega) (by omega) (by omega) (by omega) (by omega) (by omega)) [0, 1] rfl (by decide) rfl rfl rfl rfl rfl ⟨Nat.le_of_ble_eq_true rfl, Nat.le_of_ble_eq_true rfl, Nat.le_of_ble_eq_true rfl⟩ dX11_advance_5 ⟨Nat.le_of_ble_eq_true rfl, Nat.le_of_ble_eq_true rfl⟩ (fun r_12 H locs hr_12 hP hS => ?_)
      have hp_14 := hr_12
      refine lv_bipush (v := 32) hx hb dX11_advance_8 (by decide) ?_
      refine lv_icmp_eq (tgt := 26) hx hb dX11_advance_10 (by decide) (fun c_15 => ?_) (fun c_15 => ?_)
      · skip
        have hsz := hp_14.resolve_left (fun q => absurd (c_15.symm.trans q) (by decide))
        refine lv_aload_n hx hb dX11_advance_26 rfl (lv_at hl 0 rfl) ?_
        refine lv_dup hx hb dX11_advance_27 rfl ?_
        refine x_get S hK hP 0 rfl cfX11 8 lkX11_112 (by decide) rfl dX11_advance_28 ?_
        refine lv_iconst (v := 1) hx hb dX11_advance_31 (by decide) ?_
        refine lv_iadd hx hb dX11_advance_32 ?_
        refine x_is (nI (j_10 + 1)) (ni_add rfl (by decide)) ?_
        refine x_put (ws' := [((n 0), .inr (11, [.int mthrown, .ref (n 1), .ref (n 2), .ref (n 3), .ref (n 4), .int (nI mtaped), .ref (n 5), .int (nI msize), .int (nI (j_10 + 1)), .int (nI mfrom), .int mtoken, .int mvalue, .int mfaultKind, .int mfaultPlace, .ref (n 6), .ref (n 7), .ref (n 8), .ref (n 9), .ref (n 10), .ref (n 11), .ref (n 12), .int (nI mmoreMany), .int mlawNow, .int mwetSet, .int moverAll, .ref (n 13), .ref (n 14), .ref (n 15), .int mones, .int mtwos, .int mgone, .ref (n 16), .ref (n 17), .int mroundNow, .ref (n 18), .long msampleFor, .long msampleAll, .ref (n 19), .int maskWorst, .long moftenAll, .long moftenView, .long moftenOnes, .ref (n 20), .ref (n 21), .ref (n 22), .ref (n 23)])), ((n 4), .inl (k 1, 600, .inl ftape))]) S hK hP hD hS 0 rfl cfX11 8 lkX11_112 (by decide) rfl rfl rfl (Nat.le_of_ble_eq_true rfl) rfl dX11_advance_33 (fun H locs hP hD hS => ?_)
        refine lv_goto (tgt := 0) hx hb dX11_advance_36 (by decide) ?_
        exact ihj_10 (j_10 + 1)  _ _ _ (by omega) (by omega) (by omega) hP hD hS (lv_sub hl [0] rfl)
      · skip
        refine lv_aload_n hx hb dX11_advance_13 rfl (lv_at hl 0 rfl) ?_
        refine lv_aload_n hx hb dX11_advance_14 rfl (lv_at hl 0 rfl) ?_
        refine x_get S hK hP 0 rfl cfX11 8 lkX11_112 (by decide) rfl dX11_advance_15 ?_
        refine x_roVi (As := [.int (nI j_10)]) S hK hP hD hZ (fun _ h => h) hA hS hA hl mwX11_see lkX11_115 (ctX11_see l D k z n mthrown mtaped msize j_10 mfrom mtoken mvalue mfaultKind mfaultPlace mmoreMany mlawNow mwetSet moverAll mones mtwos mgone mroundNow msampleFor msampleAll maskWorst moftenAll moftenView moftenOnes ftape j_10 (by omega) (by omega) (by omega) (by omega) (by omega) (by omega)) [0, 1] rfl (by decide) rfl rfl rfl rfl rfl ⟨Nat.le_of_ble_eq_true rfl, Nat.le_of_ble_eq_true rfl, Nat.le_of_ble_eq_true rfl⟩ dX11_advance_18 ⟨Nat.le_of_ble_eq_true rfl, Nat.le_of_ble_eq_true rfl⟩ (fun r_16 H locs hr_16 hP hS => ?_)
        have hp_18 := hr_16
        refine lv_bipush (v := 10) hx hb dX11_advance_21 (by decide) ?_
        refine lv_icmp_ne (tgt := 39) hx hb dX11_advance_23 (by decide) (fun c_19 => ?_) (fun c_19 => ?_)
        · skip
          refine lv_aload_n hx hb dX11_advance_39 rfl (lv_at hl 0 rfl) ?_
          refine lv_aload_n hx hb dX11_advance_40 rfl (lv_at hl 0 rfl) ?_
          refine x_get S hK hP 0 rfl cfX11 8 lkX11_112 (by decide) rfl dX11_advance_41 ?_
          refine x_put (ws' := [((n 0), .inr (11, [.int mthrown, .ref (n 1), .ref (n 2), .ref (n 3), .ref (n 4), .int (nI mtaped), .ref (n 5), .int (nI msize), .int (nI j_10), .int (nI j_10), .int mtoken, .int mvalue, .int mfaultKind, .int mfaultPlace, .ref (n 6), .ref (n 7), .ref (n 8), .ref (n 9), .ref (n 10), .ref (n 11), .ref (n 12), .int (nI mmoreMany), .int mlawNow, .int mwetSet, .int moverAll, .ref (n 13), .ref (n 14), .ref (n 15), .int mones, .int mtwos, .int mgone, .ref (n 16), .ref (n 17), .int mroundNow, .ref (n 18), .long msampleFor, .long msampleAll, .ref (n 19), .int maskWorst, .long moftenAll, .long moftenView, .long moftenOnes, .ref (n 20), .ref (n 21), .ref (n 22), .ref (n 23)])), ((n 4), .inl (k 1, 600, .inl ftape))]) S hK hP hD hS 0 rfl cfX11 9 lkX11_119 (by decide) rfl rfl rfl (Nat.le_of_ble_eq_true rfl) rfl dX11_advance_44 (fun H locs hP hD hS => ?_)
          refine lv_aload_n hx hb dX11_advance_47 rfl (lv_at hl 0 rfl) ?_
          refine lv_aload_n hx hb dX11_advance_48 rfl (lv_at hl 0 rfl) ?_
          refine x_get S hK hP 0 rfl cfX11 8 lkX11_112 (by decide) rfl dX11_advance_49 ?_
          refine x_roVi (As := [.int (nI j_10)]) S hK hP hD hZ (fun _ h => h) hA hS hA hl mwX11_see lkX11_115 (ctX11_see l D k z n mthrown mtaped msize j_10 j_10 mtoken mvalue mfaultKind mfaultPlace mmoreMany mlawNow mwetSet moverAll mones mtwos mgone mroundNow msampleFor msampleAll maskWorst moftenAll moftenView moftenOnes ftape j_10 (by omega) (by omega) (by omega) (by omega) (by omega) (by omega)) [0, 1] rfl (by decide) rfl rfl rfl rfl rfl ⟨Nat.le_of_ble_eq_true rfl, Nat.le_of_ble_eq_true rfl, Nat.le_of_ble_eq_true rfl⟩ dX11_advance_52 ⟨Nat.le_of_ble_eq_true rfl, Nat.le_of_ble_eq_true rfl⟩ (fun r_20 H locs hr_20 hP hS => ?_)
          have hp_22 := hr_20
          refine lv_istore_n (lv' := [(1, .int r_20), (0, .ref (n 0))]) hx hb dX11_advance_55 rfl hl (by decide) rfl (fun ls hl => ?_)
          refine lv_iload_n hx hb dX11_advance_56 rfl (lv_at hl 0 rfl) ?_
          refine lv_iconst (v := (-1)) hx hb dX11_advance_57 (by decide) ?_
          refine lv_icmp_ne (tgt := 69) hx hb dX11_advance_58 (by decide) (fun c_23 => ?_) (fun c_23 => ?_)
          · skip
            refine lv_iload_n hx hb dX11_advance_69 rfl (lv_at hl 0 rfl) ?_
            refine lv_i2l (v := r_20.toInt64) hx hb dX11_advance_70 rfl ?_
            refine lv_ldc2 hx hb S.2.2.2.1 (S.2.2.2.2 _ lkX11_125) dX11_advance_71 ?_
            refine lv_ldc2 hx hb S.2.2.2.1 (S.2.2.2.2 _ lkX11_127) dX11_advance_74 ?_
            refine x_roSi (As := [.long r_20.toInt64, .long 97, .long 122]) S hK hP hD hZ (fun _ h => h) hA hS hA hl mwX11_in lkX11_91 (ctX11_in l D k z r_20.toInt64 97 122 ) [] rfl (by decide) rfl rfl ⟨Nat.le_of_ble_eq_true rfl, Nat.le_of_ble_eq_true rfl, Nat.le_of_ble_eq_true rfl⟩ dX11_advance_77 ⟨Nat.le_of_ble_eq_true rfl, Nat.le_of_ble_eq_true rfl⟩ (fun r_24 H locs hr_24 hP hS => ?_)
            obtain rfl := hr_24
            refine lv_if_eq (tgt := 125) hx hb dX11_advance_80 (by decide) (fun c_26 => ?_) (fun c_26 => ?_)
            · skip
              have c_26 : ¬ (97 ≤ r_20.toInt64 ∧ r_20.toInt64 ≤ 122) := bo_0.mp c_26
              refine lv_iload_n hx hb dX11_advance_125 rfl (lv_at hl 0 rfl) ?_
              refine lv_i2l (v := r_20.toInt64) hx hb dX11_advance_126 rfl ?_
              refine lv_ldc2 hx hb S.2.2.2.1 (S.2.2.2.2 _ lkX11_129) dX11_advance_127 ?_
              refine lv_ldc2 hx hb S.2.2.2.1 (S.2.2.2.2 _ lkX11_131) dX11_advance_130 ?_
              refine x_roSi (As := [.long r_20.toInt64, .long 48, .long 57]) S hK hP hD hZ (fun _ h => h) hA hS hA hl mwX11_in lkX11_91 (ctX11_in l D k z r_20.toInt64 48 57 ) [] rfl (by decide) rfl rfl ⟨Nat.le_of_ble_eq_true rfl, Nat.le_of_ble_eq_true rfl, Nat.le_of_ble_eq_true rfl⟩ dX11_advance_133 ⟨Nat.le_of_ble_eq_true rfl, Nat.le_of_ble_eq_true rfl⟩ (fun r_27 H locs hr_27 hP hS => ?_)
              obtain rfl := hr_27
              refine lv_if_eq (tgt := 214) hx hb dX11_advance_136 (by decide) (fun c_29 => ?_) (fun c_29 => ?_)
              · skip
                have c_29 : ¬ (48 ≤ r_20.toInt64 ∧ r_20.toInt64 ≤ 57) := bo_0.mp c_29
                refine lv_aload_n hx hb dX11_advance_214 rfl (lv_at hl 1 rfl) ?_
                refine lv_iload_n hx hb dX11_advance_215 rfl (lv_at hl 0 rfl) ?_
                refine lv_bipush (v := 59) hx hb dX11_advance_216 (by decide) ?_
                refine lv_icmp_ne (tgt := 225) hx hb dX11_advance_218 (by decide) (fun c_30 => ?_) (fun c_30 => ?_)
                · skip
                  refine lv_iconst (v := 4) hx hb dX11_advance_225 (by decide) ?_
                  refine x_put (ws' := [((n 0), .inr (11, [.int mthrown, .ref (n 1), .ref (n 2), .ref (n 3), .ref (n 4), .int (nI mtaped), .ref (n 5), .int (nI msize), .int (nI j_10), .int (nI j_10), .int 4, .int mvalue, .int mfaultKind, .int mfaultPlace, .ref (n 6), .ref (n 7), .ref (n 8), .ref (n 9), .ref (n 10), .ref (n 11), .ref (n 12), .int (nI mmoreMany), .int mlawNow, .int mwetSet, .int moverAll, .ref (n 13), .ref (n 14), .ref (n 15), .int mones, .int mtwos, .int mgone, .ref (n 16), .ref (n 17), .int mroundNow, .ref (n 18), .long msampleFor, .long msampleAll, .ref (n 19), .int maskWorst, .long moftenAll, .long moftenView, .long moftenOnes, .ref (n 20), .ref (n 21), .ref (n 22), .ref (n 23)])), ((n 4), .inl (k 1, 600, .inl ftape))]) S hK hP hD hS 0 rfl cfX11 10 lkX11_122 (by decide) rfl rfl rfl (Nat.le_of_ble_eq_true rfl) rfl dX11_advance_226 (fun H locs hP hD hS => ?_)
                  have hsz := hp_22.resolve_left c_23
                  refine lv_aload_n hx hb dX11_advance_229 rfl (lv_at hl 1 rfl) ?_
                  refine lv_dup hx hb dX11_advance_230 rfl ?_
                  refine x_get S hK hP 0 rfl cfX11 8 lkX11_112 (by decide) rfl dX11_advance_231 ?_
                  refine lv_iconst (v := 1) hx hb dX11_advance_234 (by decide) ?_
                  refine lv_iadd hx hb dX11_advance_235 ?_
                  refine x_is (nI (j_10 + 1)) (ni_add rfl (by decide)) ?_
                  refine x_put (ws' := [((n 0), .inr (11, [.int mthrown, .ref (n 1), .ref (n 2), .ref (n 3), .ref (n 4), .int (nI mtaped), .ref (n 5), .int (nI msize), .int (nI (j_10 + 1)), .int (nI j_10), .int 4, .int mvalue, .int mfaultKind, .int mfaultPlace, .ref (n 6), .ref (n 7), .ref (n 8), .ref (n 9), .ref (n 10), .ref (n 11), .ref (n 12), .int (nI mmoreMany), .int mlawNow, .int mwetSet, .int moverAll, .ref (n 13), .ref (n 14), .ref (n 15), .int mones, .int mtwos, .int mgone, .ref (n 16), .ref (n 17), .int mroundNow, .ref (n 18), .long msampleFor, .long msampleAll, .ref (n 19), .int maskWorst, .long moftenAll, .long moftenView, .long moftenOnes, .ref (n 20), .ref (n 21), .ref (n 22), .ref (n 23)])), ((n 4), .inl (k 1, 600, .inl ftape))]) S hK hP hD hS 0 rfl cfX11 8 lkX11_112 (by decide) rfl rfl rfl (Nat.le_of_ble_eq_true rfl) rfl dX11_advance_236 (fun H locs hP hD hS => ?_)
                  exact x_retv S hr hlk hQ hS ((fun i => ([4, mvalue] : List (Int32)).getD i 0), (fun i => ([j_10 + 1, j_10] : List (Nat)).getD i 0), (fun i => ([] : List (Nat → Int32)).getD i (fun _ => 0)), (fun i => ([] : List (Nat → Int64)).getD i (fun _ => 0)), (fun i => ([] : List (Int64)).getD i 0)) ⟨(show j_10 + 1 ≤ 600 by omega), (show j_10 ≤ 600 by omega), (show mat ≤ j_10 ∧ j_10 ≤ j_10 + 1 by omega)⟩ (x_B hP hD) dX11_advance_239
                · skip
                  refine lv_iconst (v := 3) hx hb dX11_advance_221 (by decide) ?_
                  refine lv_goto (tgt := 226) hx hb dX11_advance_222 (by decide) ?_
                  refine x_put (ws' := [((n 0), .inr (11, [.int mthrown, .ref (n 1), .ref (n 2), .ref (n 3), .ref (n 4), .int (nI mtaped), .ref (n 5), .int (nI msize), .int (nI j_10), .int (nI j_10), .int 3, .int mvalue, .int mfaultKind, .int mfaultPlace, .ref (n 6), .ref (n 7), .ref (n 8), .ref (n 9), .ref (n 10), .ref (n 11), .ref (n 12), .int (nI mmoreMany), .int mlawNow, .int mwetSet, .int moverAll, .ref (n 13), .ref (n 14), .ref (n 15), .int mones, .int mtwos, .int mgone, .ref (n 16), .ref (n 17), .int mroundNow, .ref (n 18), .long msampleFor, .long msampleAll, .ref (n 19), .int maskWorst, .long moftenAll, .long moftenView, .long moftenOnes, .ref (n 20), .ref (n 21), .ref (n 22), .ref (n 23)])), ((n 4), .inl (k 1, 600, .inl ftape))]) S hK hP hD hS 0 rfl cfX11 10 lkX11_122 (by decide) rfl rfl rfl (Nat.le_of_ble_eq_true rfl) rfl dX11_advance_226 (fun H locs hP hD hS => ?_)
                  have hsz := hp_22.resolve_left c_23
                  refine lv_aload_n hx hb dX11_advance_229 rfl (lv_at hl 1 rfl) ?_
                  refine lv_dup hx hb dX11_advance_230 rfl ?_
                  refine x_get S hK hP 0 rfl cfX11 8 lkX11_112 (by decide) rfl dX11_advance_231 ?_
                  refine lv_iconst (v := 1) hx hb dX11_advance_234 (by decide) ?_
                  refine lv_iadd hx hb dX11_advance_235 ?_
                  refine x_is (nI (j_10 + 1)) (ni_add rfl (by decide)) ?_
                  refine x_put (ws' := [((n 0), .inr (11, [.int mthrown, .ref (n 1), .ref (n 2), .ref (n 3), .ref (n 4), .int (nI mtaped), .ref (n 5), .int (nI msize), .int (nI (j_10 + 1)), .int (nI j_10), .int 3, .int mvalue, .int mfaultKind, .int mfaultPlace, .ref (n 6), .ref (n 7), .ref (n 8), .ref (n 9), .ref (n 10), .ref (n 11), .ref (n 12), .int (nI mmoreMany), .int mlawNow, .int mwetSet, .int moverAll, .ref (n 13), .ref (n 14), .ref (n 15), .int mones, .int mtwos, .int mgone, .ref (n 16), .ref (n 17), .int mroundNow, .ref (n 18), .long msampleFor, .long msampleAll, .ref (n 19), .int maskWorst, .long moftenAll, .long moftenView, .long moftenOnes, .ref (n 20), .ref (n 21), .ref (n 22), .ref (n 23)])), ((n 4), .inl (k 1, 600, .inl ftape))]) S hK hP hD hS 0 rfl cfX11 8 lkX11_112 (by decide) rfl rfl rfl (Nat.le_of_ble_eq_true rfl) rfl dX11_advance_236 (fun H locs hP hD hS => ?_)
                  exact x_retv S hr hlk hQ hS ((fun i => ([3, mvalue] : List (Int32)).getD i 0), (fun i => ([j_10 + 1, j_10] : List (Nat)).getD i 0), (fun i => ([] : List (Nat → Int32)).getD i (fun _ => 0)), (fun i => ([] : List (Nat → Int64)).getD i (fun _ => 0)), (fun i => ([] : List (Int64)).getD i 0)) ⟨(show j_10 + 1 ≤ 600 by omega), (show j_10 ≤ 600 by omega), (show mat ≤ j_10 ∧ j_10 ≤ j_10 + 1 by omega)⟩ (x_B hP hD) dX11_advance_239
              · skip
                have c_29 : 48 ≤ r_20.toInt64 ∧ r_20.toInt64 ≤ 57 := bo_1.mp c_29
                refine lv_aload_n hx hb dX11_advance_139 rfl (lv_at hl 1 rfl) ?_
                refine lv_iconst (v := 0) hx hb dX11_advance_140 (by decide) ?_
                refine x_put (ws' := [((n 0), .inr (11, [.int mthrown, .ref (n 1), .ref (n 2), .ref (n 3), .ref (n 4), .int (nI mtaped), .ref (n 5), .int (nI msize), .int (nI j_10), .int (nI j_10), .int mtoken, .int 0, .int mfaultKind, .int mfaultPlace, .ref (n 6), .ref (n 7), .ref (n 8), .ref (n 9), .ref (n 10), .ref (n 11), .ref (n 12), .int (nI mmoreMany), .int mlawNow, .int mwetSet, .int moverAll, .ref (n 13), .ref (n 14), .ref (n 15), .int mones, .int mtwos, .int mgone, .ref (n 16), .ref (n 17), .int mroundNow, .ref (n 18), .long msampleFor, .long msampleAll, .ref (n 19), .int maskWorst, .long moftenAll, .long moftenView, .long moftenOnes, .ref (n 20), .ref (n 21), .ref (n 22), .ref (n 23)])), ((n 4), .inl (k 1, 600, .inl ftape))]) S hK hP hD hS 0 rfl cfX11 11 lkX11_133 (by decide) rfl rfl rfl (Nat.le_of_ble_eq_true rfl) rfl dX11_advance_141 (fun H locs hP hD hS => ?_)
                have lp_61 : ∀ (nn j_59 : Nat) (x_60 : Int32) (H : Heap) (locs : List Loc) (ls : Array Slot), j_59 ≤ 600 → 600 - j_59 < nn → j_10 ≤ j_59 → va_P D vwCl [((n 0), .inr (11, [.int mthrown, .ref (n 1), .ref (n 2), .ref (n 3), .ref (n 4), .int (nI mtaped), .ref (n 5), .int (nI msize), .int (nI j_59), .int (nI j_10), .int mtoken, .int x_60, .int mfaultKind, .int mfaultPlace, .ref (n 6), .ref (n 7), .ref (n 8), .ref (n 9), .ref (n 10), .ref (n 11), .ref (n 12), .int (nI mmoreMany), .int mlawNow, .int mwetSet, .int moverAll, .ref (n 13), .ref (n 14), .ref (n 15), .int mones, .int mtwos, .int mgone, .ref (n 16), .ref (n 17), .int mroundNow, .ref (n 18), .long msampleFor, .long msampleAll, .ref (n 19), .int maskWorst, .long moftenAll, .long moftenView, .long moftenOnes, .ref (n 20), .ref (n 21), .ref (n 22), .ref (n 23)])), ((n 4), .inl (k 1, 600, .inl ftape))] H → va_D A [((n 0), .inr (11, [.int mthrown, .ref (n 1), .ref (n 2), .ref (n 3), .ref (n 4), .int (nI mtaped), .ref (n 5), .int (nI msize), .int (nI j_59), .int (nI j_10), .int mtoken, .int x_60, .int mfaultKind, .int mfaultPlace, .ref (n 6), .ref (n 7), .ref (n 8), .ref (n 9), .ref (n 10), .ref (n 11), .ref (n 12), .int (nI mmoreMany), .int mlawNow, .int mwetSet, .int moverAll, .ref (n 13), .ref (n 14), .ref (n 15), .int mones, .int mtwos, .int mgone, .ref (n 16), .ref (n 17), .int mroundNow, .ref (n 18), .long msampleFor, .long msampleAll, .ref (n 19), .int maskWorst, .long moftenAll, .long moftenView, .long moftenOnes, .ref (n 20), .ref (n 21), .ref (n 22), .ref (n 23)])), ((n 4), .inl (k 1, 600, .inl ftape))] → va_S A s.heap H locs → lv_has ls 2 [(1, .int r_20), (0, .ref (n 0))] → W p l e (Rm 1 0 0) s m args below meth c H locs 0 0 Q (F0 m 144 ls []) := by
                  intro nn
                  induction nn with
                  | zero => intro j_59 x_60 H locs ls hjj_59 hnj_59 hl2j_59; exact absurd hnj_59 (by omega)
                  | succ nn ihj_59 =>
                    intro j_59 x_60 H locs ls hjj_59 hnj_59 hl2j_59 hP hD hS hl
                    refine lv_aload_n hx hb dX11_advance_144 rfl (lv_at hl 1 rfl) ?_
                    refine lv_aload_n hx hb dX11_advance_145 rfl (lv_at hl 1 rfl) ?_
                    refine x_get S hK hP 0 rfl cfX11 8 lkX11_112 (by decide) rfl dX11_advance_146 ?_
                    refine x_roVi (As := [.int (nI j_59)]) S hK hP hD hZ (fun _ h => h) hA hS hA hl mwX11_see lkX11_115 (ctX11_see l D k z n mthrown mtaped msize j_59 j_10 mtoken x_60 mfaultKind mfaultPlace mmoreMany mlawNow mwetSet moverAll mones mtwos mgone mroundNow msampleFor msampleAll maskWorst moftenAll moftenView moftenOnes ftape j_59 (by omega) (by omega) (by omega) (by omega) (by omega) (by omega)) [0, 1] rfl (by decide) rfl rfl rfl rfl rfl ⟨Nat.le_of_ble_eq_true rfl, Nat.le_of_ble_eq_true rfl, Nat.le_of_ble_eq_true rfl⟩ dX11_advance_149 ⟨Nat.le_of_ble_eq_true rfl, Nat.le_of_ble_eq_true rfl⟩ (fun r_62 H locs hr_62 hP hS => ?_)
                    have hp_64 := hr_62
                    refine lv_i2l (v := r_62.toInt64) hx hb dX11_advance_152 rfl ?_
                    refine lv_ldc2 hx hb S.2.2.2.1 (S.2.2.2.2 _ lkX11_129) dX11_advance_153 ?_
                    refine lv_ldc2 hx hb S.2.2.2.1 (S.2.2.2.2 _ lkX11_131) dX11_advance_156 ?_
                    refine x_roSi (As := [.long r_62.toInt64, .long 48, .long 57]) S hK hP hD hZ (fun _ h => h) hA hS hA hl mwX11_in lkX11_91 (ctX11_in l D k z r_62.toInt64 48 57 ) [] rfl (by decide) rfl rfl ⟨Nat.le_of_ble_eq_true rfl, Nat.le_of_ble_eq_true rfl, Nat.le_of_ble_eq_true rfl⟩ dX11_advance_159 ⟨Nat.le_of_ble_eq_true rfl, Nat.le_of_ble_eq_true rfl⟩ (fun r_65 H locs hr_65 hP hS => ?_)
                    obtain rfl := hr_65
                    refine lv_if_eq (tgt := 206) hx hb dX11_advance_162 (by decide) (fun c_67 => ?_) (fun c_67 => ?_)
                    · skip
                      have c_67 : ¬ (48 ≤ r_62.toInt64 ∧ r_62.toInt64 ≤ 57) := bo_0.mp c_67
                      refine lv_aload_n hx hb dX11_advance_206 rfl (lv_at hl 1 rfl) ?_
                      refine lv_iconst (v := 2) hx hb dX11_advance_207 (by decide) ?_
                      refine x_put (ws' := [((n 0), .inr (11, [.int mthrown, .ref (n 1), .ref (n 2), .ref (n 3), .ref (n 4), .int (nI mtaped), .ref (n 5), .int (nI msize), .int (nI j_59), .int (nI j_10), .int 2, .int x_60, .int mfaultKind, .int mfaultPlace, .ref (n 6), .ref (n 7), .ref (n 8), .ref (n 9), .ref (n 10), .ref (n 11), .ref (n 12), .int (nI mmoreMany), .int mlawNow, .int mwetSet, .int moverAll, .ref (n 13), .ref (n 14), .ref (n 15), .int mones, .int mtwos, .int mgone, .ref (n 16), .ref (n 17), .int mroundNow, .ref (n 18), .long msampleFor, .long msampleAll, .ref (n 19), .int maskWorst, .long moftenAll, .long moftenView, .long moftenOnes, .ref (n 20), .ref (n 21), .ref (n 22), .ref (n 23)])), ((n 4), .inl (k 1, 600, .inl ftape))]) S hK hP hD hS 0 rfl cfX11 10 lkX11_122 (by decide) rfl rfl rfl (Nat.le_of_ble_eq_true rfl) rfl dX11_advance_208 (fun H locs hP hD hS => ?_)
                      refine lv_goto (tgt := 239) hx hb dX11_advance_211 (by decide) ?_
                      exact x_retv S hr hlk hQ hS ((fun i => ([2, x_60] : List (Int32)).getD i 0), (fun i => ([j_59, j_10] : List (Nat)).getD i 0), (fun i => ([] : List (Nat → Int32)).getD i (fun _ => 0)), (fun i => ([] : List (Nat → Int64)).getD i (fun _ => 0)), (fun i => ([] : List (Int64)).getD i 0)) ⟨(show j_59 ≤ 600 by omega), (show j_10 ≤ 600 by omega), (show mat ≤ j_10 ∧ j_10 ≤ j_59 by omega)⟩ (x_B hP hD) dX11_advance_239
                    · skip
                      have c_67 : 48 ≤ r_62.toInt64 ∧ r_62.toInt64 ≤ 57 := bo_1.mp c_67
                      have hsz := hp_64.resolve_left (fun q => absurd (q ▸ c_67).1 (by decide))
                      refine lv_aload_n hx hb dX11_advance_165 rfl (lv_at hl 1 rfl) ?_
                      refine lv_ldc hx hb S.2.2.2.1 (S.2.2.2.2 _ lkX11_136) dX11_advance_166 ?_
                      refine lv_bipush (v := 10) hx hb dX11_advance_168 (by decide) ?_
                      refine lv_aload_n hx hb dX11_advance_170 rfl (lv_at hl 1 rfl) ?_
                      refine x_get S hK hP 0 rfl cfX11 11 lkX11_133 (by decide) rfl dX11_advance_171 ?_
                      refine lv_imul hx hb dX11_advance_174 ?_
                      refine lv_topi (fun v_68 ev_68 => ?_)
                      refine lv_aload_n hx hb dX11_advance_175 rfl (lv_at hl 1 rfl) ?_
                      refine lv_aload_n hx hb dX11_advance_176 rfl (lv_at hl 1 rfl) ?_
                      refine x_get S hK hP 0 rfl cfX11 8 lkX11_112 (by decide) rfl dX11_advance_177 ?_
                      refine x_roVi (As := [.int (nI j_59)]) S hK hP hD hZ (fun _ h => h) hA hS hA hl mwX11_see lkX11_115 (ctX11_see l D k z n mthrown mtaped msize j_59 j_10 mtoken x_60 mfaultKind mfaultPlace mmoreMany mlawNow mwetSet moverAll mones mtwos mgone mroundNow msampleFor msampleAll maskWorst moftenAll moftenView moftenOnes ftape j_59 (by omega) (by omega) (by omega) (by omega) (by omega) (by omega)) [0, 1] rfl (by decide) rfl rfl rfl rfl rfl ⟨Nat.le_of_ble_eq_true rfl, Nat.le_of_ble_eq_true rfl, Nat.le_of_ble_eq_true rfl⟩ dX11_advance_180 ⟨Nat.le_of_ble_eq_true rfl, Nat.le_of_ble_eq_true rfl⟩ (fun r_69 H locs hr_69 hP hS => ?_)
                      have hp_71 := hr_69
                      refine lv_iadd hx hb dX11_advance_183 ?_
                      refine lv_topi (fun v_72 ev_72 => ?_)
                      refine lv_bipush (v := 48) hx hb dX11_advance_184 (by decide) ?_
                      refine lv_isub hx hb dX11_advance_186 ?_
                      refine lv_topi (fun v_73 ev_73 => ?_)
                      refine x_mmin S hl lkX11_137 (Nat.le_of_ble_eq_true rfl) (Nat.le_of_ble_eq_true rfl) ⟨Nat.le_of_ble_eq_true rfl, Nat.le_of_ble_eq_true rfl⟩ dX11_advance_187 (fun v_74 ev_74 => ?_)
                      refine x_put (ws' := [((n 0), .inr (11, [.int mthrown, .ref (n 1), .ref (n 2), .ref (n 3), .ref (n 4), .int (nI mtaped), .ref (n 5), .int (nI msize), .int (nI j_59), .int (nI j_10), .int mtoken, .int v_74, .int mfaultKind, .int mfaultPlace, .ref (n 6), .ref (n 7), .ref (n 8), .ref (n 9), .ref (n 10), .ref (n 11), .ref (n 12), .int (nI mmoreMany), .int mlawNow, .int mwetSet, .int moverAll, .ref (n 13), .ref (n 14), .ref (n 15), .int mones, .int mtwos, .int mgone, .ref (n 16), .ref (n 17), .int mroundNow, .ref (n 18), .long msampleFor, .long msampleAll, .ref (n 19), .int maskWorst, .long moftenAll, .long moftenView, .long moftenOnes, .ref (n 20), .ref (n 21), .ref (n 22), .ref (n 23)])), ((n 4), .inl (k 1, 600, .inl ftape))]) S hK hP hD hS 0 rfl cfX11 11 lkX11_133 (by decide) rfl rfl rfl (Nat.le_of_ble_eq_true rfl) rfl dX11_advance_190 (fun H locs hP hD hS => ?_)
                      refine lv_aload_n hx hb dX11_advance_193 rfl (lv_at hl 1 rfl) ?_
                      refine lv_dup hx hb dX11_advance_194 rfl ?_
                      refine x_get S hK hP 0 rfl cfX11 8 lkX11_112 (by decide) rfl dX11_advance_195 ?_
                      refine lv_iconst (v := 1) hx hb dX11_advance_198 (by decide) ?_
                      refine lv_iadd hx hb dX11_advance_199 ?_
                      refine x_is (nI (j_59 + 1)) (ni_add rfl (by decide)) ?_
                      refine x_put (ws' := [((n 0), .inr (11, [.int mthrown, .ref (n 1), .ref (n 2), .ref (n 3), .ref (n 4), .int (nI mtaped), .ref (n 5), .int (nI msize), .int (nI (j_59 + 1)), .int (nI j_10), .int mtoken, .int v_74, .int mfaultKind, .int mfaultPlace, .ref (n 6), .ref (n 7), .ref (n 8), .ref (n 9), .ref (n 10), .ref (n 11), .ref (n 12), .int (nI mmoreMany), .int mlawNow, .int mwetSet, .int moverAll, .ref (n 13), .ref (n 14), .ref (n 15), .int mones, .int mtwos, .int mgone, .ref (n 16), .ref (n 17), .int mroundNow, .ref (n 18), .long msampleFor, .long msampleAll, .ref (n 19), .int maskWorst, .long moftenAll, .long moftenView, .long moftenOnes, .ref (n 20), .ref (n 21), .ref (n 22), .ref (n 23)])), ((n 4), .inl (k 1, 600, .inl ftape))]) S hK hP hD hS 0 rfl cfX11 8 lkX11_112 (by decide) rfl rfl rfl (Nat.le_of_ble_eq_true rfl) rfl dX11_advance_200 (fun H locs hP hD hS => ?_)
                      refine lv_goto (tgt := 144) hx hb dX11_advance_203 (by decide) ?_
                      exact ihj_59 (j_59 + 1) v_74 _ _ _ (by omega) (by omega) (by omega) hP hD hS (lv_sub hl [0, 1] rfl)
                exact lp_61 (600 + 1) j_10 0 _ _ _ (by omega) (by omega) (by omega) hP hD hS (lv_sub hl [0, 1] rfl)
            · skip
              have c_26 : 97 ≤ r_20.toInt64 ∧ r_20.toInt64 ≤ 122 := bo_1.mp c_26
              have lp_83 : ∀ (nn j_82 : Nat)  (H : Heap) (locs : List Loc) (ls : Array Slot), j_82 ≤ 600 → 600 - j_82 < nn → j_10 ≤ j_82 → va_P D vwCl [((n 0), .inr (11, [.int mthrown, .ref (n 1), .ref (n 2), .ref (n 3), .ref (n 4), .int (nI mtaped), .ref (n 5), .int (nI msize), .int (nI j_82), .int (nI j_10), .int mtoken, .int mvalue, .int mfaultKind, .int mfaultPlace, .ref (n 6), .ref (n 7), .ref (n 8), .ref (n 9), .ref (n 10), .ref (n 11), .ref (n 12), .int (nI mmoreMany), .int mlawNow, .int mwetSet, .int moverAll, .ref (n 13), .ref (n 14), .ref (n 15), .int mones, .int mtwos, .int mgone, .ref (n 16), .ref (n 17), .int mroundNow, .ref (n 18), .long msampleFor, .long msampleAll, .ref (n 19), .int maskWorst, .long moftenAll, .long moftenView, .long moftenOnes, .ref (n 20), .ref (n 21), .ref (n 22), .ref (n 23)])), ((n 4), .inl (k 1, 600, .inl ftape))] H → va_D A [((n 0), .inr (11, [.int mthrown, .ref (n 1), .ref (n 2), .ref (n 3), .ref (n 4), .int (nI mtaped), .ref (n 5), .int (nI msize), .int (nI j_82), .int (nI j_10), .int mtoken, .int mvalue, .int mfaultKind, .int mfaultPlace, .ref (n 6), .ref (n 7), .ref (n 8), .ref (n 9), .ref (n 10), .ref (n 11), .ref (n 12), .int (nI mmoreMany), .int mlawNow, .int mwetSet, .int moverAll, .ref (n 13), .ref (n 14), .ref (n 15), .int mones, .int mtwos, .int mgone, .ref (n 16), .ref (n 17), .int mroundNow, .ref (n 18), .long msampleFor, .long msampleAll, .ref (n 19), .int maskWorst, .long moftenAll, .long moftenView, .long moftenOnes, .ref (n 20), .ref (n 21), .ref (n 22), .ref (n 23)])), ((n 4), .inl (k 1, 600, .inl ftape))] → va_S A s.heap H locs → lv_has ls 2 [(1, .int r_20), (0, .ref (n 0))] → W p l e (Rm 1 0 0) s m args below meth c H locs 0 0 Q (F0 m 83 ls []) := by
                intro nn
                induction nn with
                | zero => intro j_82  H locs ls hjj_82 hnj_82 hl2j_82; exact absurd hnj_82 (by omega)
                | succ nn ihj_82 =>
                  intro j_82  H locs ls hjj_82 hnj_82 hl2j_82 hP hD hS hl
                  refine lv_aload_n hx hb dX11_advance_83 rfl (lv_at hl 1 rfl) ?_
                  refine lv_aload_n hx hb dX11_advance_84 rfl (lv_at hl 1 rfl) ?_
                  refine x_get S hK hP 0 rfl cfX11 8 lkX11_112 (by decide) rfl dX11_advance_85 ?_
                  refine x_roVi (As := [.int (nI j_82)]) S hK hP hD hZ (fun _ h => h) hA hS hA hl mwX11_see lkX11_115 (ctX11_see l D k z n mthrown mtaped msize j_82 j_10 mtoken mvalue mfaultKind mfaultPlace mmoreMany mlawNow mwetSet moverAll mones mtwos mgone mroundNow msampleFor msampleAll maskWorst moftenAll moftenView moftenOnes ftape j_82 (by omega) (by omega) (by omega) (by omega) (by omega) (by omega)) [0, 1] rfl (by decide) rfl rfl rfl rfl rfl ⟨Nat.le_of_ble_eq_true rfl, Nat.le_of_ble_eq_true rfl, Nat.le_of_ble_eq_true rfl⟩ dX11_advance_88 ⟨Nat.le_of_ble_eq_true rfl, Nat.le_of_ble_eq_true rfl⟩ (fun r_84 H locs hr_84 hP hS => ?_)
                  have hp_86 := hr_84
                  refine lv_i2l (v := r_84.toInt64) hx hb dX11_advance_91 rfl ?_
                  refine lv_ldc2 hx hb S.2.2.2.1 (S.2.2.2.2 _ lkX11_125) dX11_advance_92 ?_
                  refine lv_ldc2 hx hb S.2.2.2.1 (S.2.2.2.2 _ lkX11_127) dX11_advance_95 ?_
                  refine x_roSi (As := [.long r_84.toInt64, .long 97, .long 122]) S hK hP hD hZ (fun _ h => h) hA hS hA hl mwX11_in lkX11_91 (ctX11_in l D k z r_84.toInt64 97 122 ) [] rfl (by decide) rfl rfl ⟨Nat.le_of_ble_eq_true rfl, Nat.le_of_ble_eq_true rfl, Nat.le_of_ble_eq_true rfl⟩ dX11_advance_98 ⟨Nat.le_of_ble_eq_true rfl, Nat.le_of_ble_eq_true rfl⟩ (fun r_87 H locs hr_87 hP hS => ?_)
                  obtain rfl := hr_87
                  refine lv_if_eq (tgt := 117) hx hb dX11_advance_101 (by decide) (fun c_89 => ?_) (fun c_89 => ?_)
                  · skip
                    have c_89 : ¬ (97 ≤ r_84.toInt64 ∧ r_84.toInt64 ≤ 122) := bo_0.mp c_89
                    refine lv_aload_n hx hb dX11_advance_117 rfl (lv_at hl 1 rfl) ?_
                    refine lv_iconst (v := 1) hx hb dX11_advance_118 (by decide) ?_
                    refine x_put (ws' := [((n 0), .inr (11, [.int mthrown, .ref (n 1), .ref (n 2), .ref (n 3), .ref (n 4), .int (nI mtaped), .ref (n 5), .int (nI msize), .int (nI j_82), .int (nI j_10), .int 1, .int mvalue, .int mfaultKind, .int mfaultPlace, .ref (n 6), .ref (n 7), .ref (n 8), .ref (n 9), .ref (n 10), .ref (n 11), .ref (n 12), .int (nI mmoreMany), .int mlawNow, .int mwetSet, .int moverAll, .ref (n 13), .ref (n 14), .ref (n 15), .int mones, .int mtwos, .int mgone, .ref (n 16), .ref (n 17), .int mroundNow, .ref (n 18), .long msampleFor, .long msampleAll, .ref (n 19), .int maskWorst, .long moftenAll, .long moftenView, .long moftenOnes, .ref (n 20), .ref (n 21), .ref (n 22), .ref (n 23)])), ((n 4), .inl (k 1, 600, .inl ftape))]) S hK hP hD hS 0 rfl cfX11 10 lkX11_122 (by decide) rfl rfl rfl (Nat.le_of_ble_eq_true rfl) rfl dX11_advance_119 (fun H locs hP hD hS => ?_)
                    refine lv_goto (tgt := 239) hx hb dX11_advance_122 (by decide) ?_
                    exact x_retv S hr hlk hQ hS ((fun i => ([1, mvalue] : List (Int32)).getD i 0), (fun i => ([j_82, j_10] : List (Nat)).getD i 0), (fun i => ([] : List (Nat → Int32)).getD i (fun _ => 0)), (fun i => ([] : List (Nat → Int64)).getD i (fun _ => 0)), (fun i => ([] : List (Int64)).getD i 0)) ⟨(show j_82 ≤ 600 by omega), (show j_10 ≤ 600 by omega), (show mat ≤ j_10 ∧ j_10 ≤ j_82 by omega)⟩ (x_B hP hD) dX11_advance_239
                  · skip
                    have c_89 : 97 ≤ r_84.toInt64 ∧ r_84.toInt64 ≤ 122 := bo_1.mp c_89
                    have hsz := hp_86.resolve_left (fun q => absurd (q ▸ c_89).1 (by decide))
                    refine lv_aload_n hx hb dX11_advance_104 rfl (lv_at hl 1 rfl) ?_
                    refine lv_dup hx hb dX11_advance_105 rfl ?_
                    refine x_get S hK hP 0 rfl cfX11 8 lkX11_112 (by decide) rfl dX11_advance_106 ?_
                    refine lv_iconst (v := 1) hx hb dX11_advance_109 (by decide) ?_
                    refine lv_iadd hx hb dX11_advance_110 ?_
                    refine x_is (nI (j_82 + 1)) (ni_add rfl (by decide)) ?_
                    refine x_put (ws' := [((n 0), .inr (11, [.int mthrown, .ref (n 1), .ref (n 2), .ref (n 3), .ref (n 4), .int (nI mtaped), .ref (n 5), .int (nI msize), .int (nI (j_82 + 1)), .int (nI j_10), .int mtoken, .int mvalue, .int mfaultKind, .int mfaultPlace, .ref (n 6), .ref (n 7), .ref (n 8), .ref (n 9), .ref (n 10), .ref (n 11), .ref (n 12), .int (nI mmoreMany), .int mlawNow, .int mwetSet, .int moverAll, .ref (n 13), .ref (n 14), .ref (n 15), .int mones, .int mtwos, .int mgone, .ref (n 16), .ref (n 17), .int mroundNow, .ref (n 18), .long msampleFor, .long msampleAll, .ref (n 19), .int maskWorst, .long moftenAll, .long moftenView, .long moftenOnes, .ref (n 20), .ref (n 21), .ref (n 22), .ref (n 23)])), ((n 4), .inl (k 1, 600, .inl ftape))]) S hK hP hD hS 0 rfl cfX11 8 lkX11_112 (by decide) rfl rfl rfl (Nat.le_of_ble_eq_true rfl) rfl dX11_advance_111 (fun H locs hP hD hS => ?_)
                    refine lv_goto (tgt := 83) hx hb dX11_advance_114 (by decide) ?_
                    exact ihj_82 (j_82 + 1)  _ _ _ (by omega) (by omega) (by omega) hP hD hS (lv_sub hl [0, 1] rfl)
              exact lp_83 (600 + 1) j_10  _ _ _ (by omega) (by omega) (by omega) hP hD hS (lv_sub hl [0, 1] rfl)
          · skip
            refine lv_aload_n hx hb dX11_advance_61 rfl (lv_at hl 1 rfl) ?_
            refine lv_iconst (v := 0) hx hb dX11_advance_62 (by decide) ?_
            refine x_put (ws' := [((n 0), .inr (11, [.int mthrown, .ref (n 1), .ref (n 2), .ref (n 3), .ref (n 4), .int (nI mtaped), .ref (n 5), .int (nI msize), .int (nI j_10), .int (nI j_10), .int 0, .int mvalue, .int mfaultKind, .int mfaultPlace, .ref (n 6), .ref (n 7), .ref (n 8), .ref (n 9), .ref (n 10), .ref (n 11), .ref (n 12), .int (nI mmoreMany), .int mlawNow, .int mwetSet, .int moverAll, .ref (n 13), .ref (n 14), .ref (n 15), .int mones, .int mtwos, .int mgone, .ref (n 16), .ref (n 17), .int mroundNow, .ref (n 18), .long msampleFor, .long msampleAll, .ref (n 19), .int maskWorst, .long moftenAll, .long moftenView, .long moftenOnes, .ref (n 20), .ref (n 21), .ref (n 22), .ref (n 23)])), ((n 4), .inl (k 1, 600, .inl ftape))]) S hK hP hD hS 0 rfl cfX11 10 lkX11_122 (by decide) rfl rfl rfl (Nat.le_of_ble_eq_true rfl) rfl dX11_advance_63 (fun H locs hP hD hS => ?_)
            refine lv_goto (tgt := 239) hx hb dX11_advance_66 (by decide) ?_
            exact x_retv S hr hlk hQ hS ((fun i => ([0, mvalue] : List (Int32)).getD i 0), (fun i => ([j_10, j_10] : List (Nat)).getD i 0), (fun i => ([] : List (Nat → Int32)).getD i (fun _ => 0)), (fun i => ([] : List (Nat → Int64)).getD i (fun _ => 0)), (fun i => ([] : List (Int64)).getD i 0)) ⟨(show j_10 ≤ 600 by omega), (show j_10 ≤ 600 by omega), (show mat ≤ j_10 ∧ j_10 ≤ j_10 by omega)⟩ (x_B hP hD) dX11_advance_239
        · skip
          have hsz := hp_18.resolve_left (fun q => absurd (c_19.symm.trans q) (by decide))
          refine lv_aload_n hx hb dX11_advance_26 rfl (lv_at hl 0 rfl) ?_
          refine lv_dup hx hb dX11_advance_27 rfl ?_
          refine x_get S hK hP 0 rfl cfX11 8 lkX11_112 (by decide) rfl dX11_advance_28 ?_
          refine lv_iconst (v := 1) hx hb dX11_advance_31 (by decide) ?_
          refine lv_iadd hx hb dX11_advance_32 ?_
          refine x_is (nI (j_10 + 1)) (ni_add rfl (by decide)) ?_
          refine x_put (ws' := [((n 0), .inr (11, [.int mthrown, .ref (n 1), .ref (n 2), .ref (n 3), .ref (n 4), .int (nI mtaped), .ref (n 5), .int (nI msize), .int (nI (j_10 + 1)), .int (nI mfrom), .int mtoken, .int mvalue, .int mfaultKind, .int mfaultPlace, .ref (n 6), .ref (n 7), .ref (n 8), .ref (n 9), .ref (n 10), .ref (n 11), .ref (n 12), .int (nI mmoreMany), .int mlawNow, .int mwetSet, .int moverAll, .ref (n 13), .ref (n 14), .ref (n 15), .int mones, .int mtwos, .int mgone, .ref (n 16), .ref (n 17), .int mroundNow, .ref (n 18), .long msampleFor, .long msampleAll, .ref (n 19), .int maskWorst, .long moftenAll, .long moftenView, .long moftenOnes, .ref (n 20), .ref (n 21), .ref (n 22), .ref (n 23)])), ((n 4), .inl (k 1, 600, .inl ftape))]) S hK hP hD hS 0 rfl cfX11 8 lkX11_112 (by decide) rfl rfl rfl (Nat.le_of_ble_eq_true rfl) rfl dX11_advance_33 (fun H locs hP hD hS => ?_)
          refine lv_goto (tgt := 0) hx hb dX11_advance_36 (by decide) ?_
          exact ihj_10 (j_10 + 1)  _ _ _ (by omega) (by omega) (by omega) hP hD hS (lv_sub hl [0] rfl)
  exact lp_11 (600 + 1) mat  _ _ _ (by omega) (by omega) (by omega) hP hD hS (lv_sub hl [0] rfl)

set_option maxHeartbeats 4000000 in
set_option maxRecDepth 100000 in
theorem ctX11_is (l : Launch) (D : va_G) (k : Nat → ClassId) (z : Nat → Nat) (n : Nat → Nat) (mthrown : Int32) (mtaped : Nat) (msize : Nat) (mat : Nat) (mfrom : Nat) (mtoken : Int32) (mvalue : Int32) (mfaultKind : Int32) (mfaultPlace : Int32) (mmoreMany : Nat) (mlawNow : Int32) (mwetSet : Int32) (moverAll : Int32) (mones : Int32) (mtwos : Int32) (mgone : Int32) (mroundNow : Int32) (msampleFor : Int64) (msampleAll : Int64) (maskWorst : Int32) (moftenAll : Int64) (moftenView : Int64) (moftenOnes : Int64) (ftape : Nat → Int32) (i : Nat) (hmtaped : mtaped ≤ 600) (hmsize : msize ≤ 600) (hmat : mat ≤ 600) (hmfrom : mfrom ≤ 600) (hmmoreMany : mmoreMany ≤ 14) (hi : i < 11) : RO l yX11_is cX11_is 4 (some .boolean) 4 D k z [.ref (n 0), .ref (z i)] [((n 0), .inr (11, [.int mthrown, .ref (n 1), .ref (n 2), .ref (n 3), .ref (n 4), .int (nI mtaped), .ref (n 5), .int (nI msize), .int (nI mat), .int (nI mfrom), .int mtoken, .int mvalue, .int mfaultKind, .int mfaultPlace, .ref (n 6), .ref (n 7), .ref (n 8), .ref (n 9), .ref (n 10), .ref (n 11), .ref (n 12), .int (nI mmoreMany), .int mlawNow, .int mwetSet, .int moverAll, .ref (n 13), .ref (n 14), .ref (n 15), .int mones, .int mtwos, .int mgone, .ref (n 16), .ref (n 17), .int mroundNow, .ref (n 18), .long msampleFor, .long msampleAll, .ref (n 19), .int maskWorst, .long moftenAll, .long moftenView, .long moftenOnes, .ref (n 20), .ref (n 21), .ref (n 22), .ref (n 23)])), ((n 4), .inl (k 1, 600, .inl ftape))] (Qi (fun r : Int32 => (r = (isB mfaultKind mtoken mat mfrom ftape i)))) := by
  refine RO.of (by decide) (Nat.le_of_ble_eq_true rfl) ?_
  intro p e s m below meth c ls A B args Q S hr hlk hQ hK hP hDW hZ hAB hBA hA hS hl
  have hx := S.1
  have hb := S.2.1
  have hsl := sl_lt i
  have hl : lv_has ls 4 [(0, .ref (n 0)), (1, .ref (z i))] := hl
  refine lv_aload_n hx hb dX11_is_0 rfl (lv_at hl 0 rfl) ?_
  refine x_roVi (As := []) S hK hP hDW hZ hAB hBA hS hA hl mwX11_good lkX11_146 (ctX11_good l D k z n mthrown mtaped msize mat mfrom mtoken mvalue mfaultKind mfaultPlace mmoreMany mlawNow mwetSet moverAll mones mtwos mgone mroundNow msampleFor msampleAll maskWorst moftenAll moftenView moftenOnes (by omega) (by omega) (by omega) (by omega) (by omega)) [0] rfl (by decide) rfl rfl rfl rfl rfl ⟨Nat.le_of_ble_eq_true rfl, Nat.le_of_ble_eq_true rfl, Nat.le_of_ble_eq_true rfl⟩ dX11_is_1 ⟨Nat.le_of_ble_eq_true rfl, Nat.le_of_ble_eq_true rfl⟩ (fun r_1 H locs hr_1 hP hS => ?_)
  obtain rfl := hr_1
  refine lv_if_eq (tgt := 35) hx hb dX11_is_4 (by decide) (fun c_3 => ?_) (fun c_3 => ?_)
  · skip
    have c_3 : ¬ (mfaultKind = 0) := bo_0.mp c_3
    refine lv_iconst (v := 0) hx hb dX11_is_35 (by decide) ?_
    refine lv_istore_n (lv' := [(2, .int 0), (0, .ref (n 0)), (1, .ref (z i))]) hx hb dX11_is_36 rfl hl (by decide) rfl (fun ls hl => ?_)
    refine lv_iconst (v := 0) hx hb dX11_is_37 (by decide) ?_
    refine lv_istore_n (lv' := [(3, .int 0), (2, .int 0), (0, .ref (n 0)), (1, .ref (z i))]) hx hb dX11_is_38 rfl hl (by decide) rfl (fun ls hl => ?_)
    refine lv_iload_n hx hb dX11_is_39 rfl (lv_at hl 0 rfl) ?_
    refine lv_aload_n hx hb dX11_is_40 rfl (lv_at hl 3 rfl) ?_
    refine x_roVir (As := []) S hK hP hDW hZ hAB hBA hS hA hl mwJ0_length_8abf5 lkX11_149 (ctJ0_length_8abf5 l D k z i (by omega)) [] rfl (by decide) (x_srec hZ hS hAB (by omega)) rfl rfl ⟨Nat.le_of_ble_eq_true rfl, Nat.le_of_ble_eq_true rfl, Nat.le_of_ble_eq_true rfl⟩ dX11_is_41 ⟨Nat.le_of_ble_eq_true rfl, Nat.le_of_ble_eq_true rfl⟩ (fun r_4 H locs hr_4 hP hS => ?_)
    obtain rfl := hr_4
    refine lv_icmp_ge (tgt := 82) hx hb dX11_is_44 (by decide) (fun c_5 => ?_) (fun c_5 => ?_)
    · skip
      have c_5 : sl i ≤ 0 := (ni_le rfl (by decide) (by omega) (by omega)).mp c_5
      refine lv_iload_n hx hb dX11_is_82 rfl (lv_at hl 1 rfl) ?_
      exact x_retz S hr hlk hQ hS rfl () (isB_f (fun h => c_3 h.1)).symm x_T dX11_is_83
    · skip
      have c_5 : ¬ sl i ≤ 0 := fun q => c_5 ((ni_le rfl (by decide) (by omega) (by omega)).mpr q)
      refine lv_iload_n hx hb dX11_is_47 rfl (lv_at hl 1 rfl) ?_
      refine lv_if_eq (tgt := 82) hx hb dX11_is_48 (by decide) (fun c_6 => ?_) (fun c_6 => absurd (by decide) c_6)
      refine lv_iload_n hx hb dX11_is_82 rfl (lv_at hl 1 rfl) ?_
      exact x_retz S hr hlk hQ hS rfl () (isB_f (fun h => c_3 h.1)).symm x_T dX11_is_83
  · skip
    have c_3 : mfaultKind = 0 := bo_1.mp c_3
    refine lv_aload_n hx hb dX11_is_7 rfl (lv_at hl 0 rfl) ?_
    refine x_get S hK hP 0 rfl cfX11 10 lkX11_122 (by decide) rfl dX11_is_8 ?_
    refine lv_iconst (v := 1) hx hb dX11_is_11 (by decide) ?_
    refine lv_icmp_ne (tgt := 35) hx hb dX11_is_12 (by decide) (fun c_7 => ?_) (fun c_7 => ?_)
    · skip
      refine lv_iconst (v := 0) hx hb dX11_is_35 (by decide) ?_
      refine lv_istore_n (lv' := [(2, .int 0), (0, .ref (n 0)), (1, .ref (z i))]) hx hb dX11_is_36 rfl hl (by decide) rfl (fun ls hl => ?_)
      refine lv_iconst (v := 0) hx hb dX11_is_37 (by decide) ?_
      refine lv_istore_n (lv' := [(3, .int 0), (2, .int 0), (0, .ref (n 0)), (1, .ref (z i))]) hx hb dX11_is_38 rfl hl (by decide) rfl (fun ls hl => ?_)
      refine lv_iload_n hx hb dX11_is_39 rfl (lv_at hl 0 rfl) ?_
      refine lv_aload_n hx hb dX11_is_40 rfl (lv_at hl 3 rfl) ?_
      refine x_roVir (As := []) S hK hP hDW hZ hAB hBA hS hA hl mwJ0_length_8abf5 lkX11_149 (ctJ0_length_8abf5 l D k z i (by omega)) [] rfl (by decide) (x_srec hZ hS hAB (by omega)) rfl rfl ⟨Nat.le_of_ble_eq_true rfl, Nat.le_of_ble_eq_true rfl, Nat.le_of_ble_eq_true rfl⟩ dX11_is_41 ⟨Nat.le_of_ble_eq_true rfl, Nat.le_of_ble_eq_true rfl⟩ (fun r_8 H locs hr_8 hP hS => ?_)
      obtain rfl := hr_8
      refine lv_icmp_ge (tgt := 82) hx hb dX11_is_44 (by decide) (fun c_9 => ?_) (fun c_9 => ?_)
      · skip
        have c_9 : sl i ≤ 0 := (ni_le rfl (by decide) (by omega) (by omega)).mp c_9
        refine lv_iload_n hx hb dX11_is_82 rfl (lv_at hl 1 rfl) ?_
        exact x_retz S hr hlk hQ hS rfl () (isB_f (fun h => c_7 h.2.1)).symm x_T dX11_is_83
      · skip
        have c_9 : ¬ sl i ≤ 0 := fun q => c_9 ((ni_le rfl (by decide) (by omega) (by omega)).mpr q)
        refine lv_iload_n hx hb dX11_is_47 rfl (lv_at hl 1 rfl) ?_
        refine lv_if_eq (tgt := 82) hx hb dX11_is_48 (by decide) (fun c_10 => ?_) (fun c_10 => absurd (by decide) c_10)
        refine lv_iload_n hx hb dX11_is_82 rfl (lv_at hl 1 rfl) ?_
        exact x_retz S hr hlk hQ hS rfl () (isB_f (fun h => c_7 h.2.1)).symm x_T dX11_is_83
    · skip
      refine lv_aload_n hx hb dX11_is_15 rfl (lv_at hl 0 rfl) ?_
      refine x_get S hK hP 0 rfl cfX11 8 lkX11_112 (by decide) rfl dX11_is_16 ?_
      refine lv_aload_n hx hb dX11_is_19 rfl (lv_at hl 0 rfl) ?_
      refine x_get S hK hP 0 rfl cfX11 9 lkX11_119 (by decide) rfl dX11_is_20 ?_
      refine lv_isub hx hb dX11_is_23 ?_
      refine lv_topi (fun v_11 ev_11 => ?_)
      refine lv_aload_n hx hb dX11_is_24 rfl (lv_at hl 1 rfl) ?_
      refine x_roVir (As := []) S hK hP hDW hZ hAB hBA hS hA hl mwJ0_length_8abf5 lkX11_149 (ctJ0_length_8abf5 l D k z i (by omega)) [] rfl (by decide) (x_srec hZ hS hAB (by omega)) rfl rfl ⟨Nat.le_of_ble_eq_true rfl, Nat.le_of_ble_eq_true rfl, Nat.le_of_ble_eq_true rfl⟩ dX11_is_25 ⟨Nat.le_of_ble_eq_true rfl, Nat.le_of_ble_eq_true rfl⟩ (fun r_12 H locs hr_12 hP hS => ?_)
      obtain rfl := hr_12
      refine lv_icmp_ne (tgt := 35) hx hb dX11_is_28 (by decide) (fun c_13 => ?_) (fun c_13 => ?_)
      · skip
        refine lv_iconst (v := 0) hx hb dX11_is_35 (by decide) ?_
        refine lv_istore_n (lv' := [(2, .int 0), (0, .ref (n 0)), (1, .ref (z i))]) hx hb dX11_is_36 rfl hl (by decide) rfl (fun ls hl => ?_)
        refine lv_iconst (v := 0) hx hb dX11_is_37 (by decide) ?_
        refine lv_istore_n (lv' := [(3, .int 0), (2, .int 0), (0, .ref (n 0)), (1, .ref (z i))]) hx hb dX11_is_38 rfl hl (by decide) rfl (fun ls hl => ?_)
        refine lv_iload_n hx hb dX11_is_39 rfl (lv_at hl 0 rfl) ?_
        refine lv_aload_n hx hb dX11_is_40 rfl (lv_at hl 3 rfl) ?_
        refine x_roVir (As := []) S hK hP hDW hZ hAB hBA hS hA hl mwJ0_length_8abf5 lkX11_149 (ctJ0_length_8abf5 l D k z i (by omega)) [] rfl (by decide) (x_srec hZ hS hAB (by omega)) rfl rfl ⟨Nat.le_of_ble_eq_true rfl, Nat.le_of_ble_eq_true rfl, Nat.le_of_ble_eq_true rfl⟩ dX11_is_41 ⟨Nat.le_of_ble_eq_true rfl, Nat.le_of_ble_eq_true rfl⟩ (fun r_14 H locs hr_14 hP hS => ?_)
        obtain rfl := hr_14
        refine lv_icmp_ge (tgt := 82) hx hb dX11_is_44 (by decide) (fun c_15 => ?_) (fun c_15 => ?_)
        · skip
          have c_15 : sl i ≤ 0 := (ni_le rfl (by decide) (by omega) (by omega)).mp c_15
          refine lv_iload_n hx hb dX11_is_82 rfl (lv_at hl 1 rfl) ?_
          exact x_retz S hr hlk hQ hS rfl () (isB_f (fun h => c_13 (ev_11.trans h.2.2.1))).symm x_T dX11_is_83
        · skip
          have c_15 : ¬ sl i ≤ 0 := fun q => c_15 ((ni_le rfl (by decide) (by omega) (by omega)).mpr q)
          refine lv_iload_n hx hb dX11_is_47 rfl (lv_at hl 1 rfl) ?_
          refine lv_if_eq (tgt := 82) hx hb dX11_is_48 (by decide) (fun c_16 => ?_) (fun c_16 => absurd (by decide) c_16)
          refine lv_iload_n hx hb dX11_is_82 rfl (lv_at hl 1 rfl) ?_
          exact x_retz S hr hlk hQ hS rfl () (isB_f (fun h => c_13 (ev_11.trans h.2.2.1))).symm x_T dX11_is_83
      · skip
        have hwl := sub_len ev_11 c_13 (by omega) (by omega) (by omega)
        refine lv_iconst (v := 1) hx hb dX11_is_31 (by decide) ?_
        refine lv_goto (tgt := 36) hx hb dX11_is_32 (by decide) ?_
        refine lv_istore_n (lv' := [(2, .int 1), (0, .ref (n 0)), (1, .ref (z i))]) hx hb dX11_is_36 rfl hl (by decide) rfl (fun ls hl => ?_)
        refine lv_iconst (v := 0) hx hb dX11_is_37 (by decide) ?_
        refine lv_istore_n (lv' := [(3, .int 0), (2, .int 1), (0, .ref (n 0)), (1, .ref (z i))]) hx hb dX11_is_38 rfl hl (by decide) rfl (fun ls hl => ?_)
        have lp_28 : ∀ (nn j_27 : Nat)  (H : Heap) (locs : List Loc) (ls : Array Slot), j_27 ≤ sl i → sl i - j_27 < nn → (∀ q, q < j_27 → ftape (mfrom + q) = chr i q) → va_P D vwCl [((n 0), .inr (11, [.int mthrown, .ref (n 1), .ref (n 2), .ref (n 3), .ref (n 4), .int (nI mtaped), .ref (n 5), .int (nI msize), .int (nI mat), .int (nI mfrom), .int mtoken, .int mvalue, .int mfaultKind, .int mfaultPlace, .ref (n 6), .ref (n 7), .ref (n 8), .ref (n 9), .ref (n 10), .ref (n 11), .ref (n 12), .int (nI mmoreMany), .int mlawNow, .int mwetSet, .int moverAll, .ref (n 13), .ref (n 14), .ref (n 15), .int mones, .int mtwos, .int mgone, .ref (n 16), .ref (n 17), .int mroundNow, .ref (n 18), .long msampleFor, .long msampleAll, .ref (n 19), .int maskWorst, .long moftenAll, .long moftenView, .long moftenOnes, .ref (n 20), .ref (n 21), .ref (n 22), .ref (n 23)])), ((n 4), .inl (k 1, 600, .inl ftape))] H → va_S A s.heap H locs → lv_has ls 4 [(3, .int (nI j_27)), (2, .int 1), (0, .ref (n 0)), (1, .ref (z i))] → W p l e (Rm 4 0 0) s m args below meth c H locs 0 0 Q (F0 m 39 ls []) := by
          intro nn
          induction nn with
          | zero => intro j_27  H locs ls hjj_27 hnj_27 hin; exact absurd hnj_27 (by omega)
          | succ nn ihj_27 =>
            intro j_27  H locs ls hjj_27 hnj_27 hin hP hS hl
            refine lv_iload_n hx hb dX11_is_39 rfl (lv_at hl 0 rfl) ?_
            refine lv_aload_n hx hb dX11_is_40 rfl (lv_at hl 3 rfl) ?_
            refine x_roVir (As := []) S hK hP hDW hZ hAB hBA hS hA hl mwJ0_length_8abf5 lkX11_149 (ctJ0_length_8abf5 l D k z i (by omega)) [] rfl (by decide) (x_srec hZ hS hAB (by omega)) rfl rfl ⟨Nat.le_of_ble_eq_true rfl, Nat.le_of_ble_eq_true rfl, Nat.le_of_ble_eq_true rfl⟩ dX11_is_41 ⟨Nat.le_of_ble_eq_true rfl, Nat.le_of_ble_eq_true rfl⟩ (fun r_29 H locs hr_29 hP hS => ?_)
            obtain rfl := hr_29
            refine lv_icmp_ge (tgt := 82) hx hb dX11_is_44 (by decide) (fun c_30 => ?_) (fun c_30 => ?_)
            · skip
              have c_30 : sl i ≤ j_27 := (ni_le rfl rfl (by omega) (by omega)).mp c_30
              refine lv_iload_n hx hb dX11_is_82 rfl (lv_at hl 1 rfl) ?_
              exact x_retz S hr hlk hQ hS rfl () (isB_t ⟨c_3, c_7, ev_11.symm.trans c_13, fun q hq => hin q (by omega)⟩).symm x_T dX11_is_83
            · skip
              have c_30 : ¬ sl i ≤ j_27 := fun q => c_30 ((ni_le rfl rfl (by omega) (by omega)).mpr q)
              refine lv_iload_n hx hb dX11_is_47 rfl (lv_at hl 1 rfl) ?_
              refine lv_if_eq (tgt := 82) hx hb dX11_is_48 (by decide) (fun c_31 => absurd c_31 (by decide)) (fun c_31 => ?_)
              refine lv_aload_n hx hb dX11_is_51 rfl (lv_at hl 2 rfl) ?_
              refine x_get S hK hP 0 rfl cfX11 4 lkX11_20 (by decide) rfl dX11_is_52 ?_
              refine lv_aload_n hx hb dX11_is_55 rfl (lv_at hl 2 rfl) ?_
              refine x_get S hK hP 0 rfl cfX11 9 lkX11_119 (by decide) rfl dX11_is_56 ?_
              refine lv_iload_n hx hb dX11_is_59 rfl (lv_at hl 0 rfl) ?_
              refine lv_iadd hx hb dX11_is_60 ?_
              refine x_is (nI (mfrom + j_27)) (ni_add rfl rfl) ?_
              refine x_bald S hK hP 1 rfl (vp_in_nI (by omega) (by decide)) dX11_is_61 ?_
              refine lv_topi (fun v_32 ev_32 => ?_)
              refine lv_aload_n hx hb dX11_is_62 rfl (lv_at hl 3 rfl) ?_
              refine lv_iload_n hx hb dX11_is_63 rfl (lv_at hl 0 rfl) ?_
              refine x_roVir (As := [.int (nI j_27)]) S hK hP hDW hZ hAB hBA hS hA hl mwJ0_charAt_5068e lkX11_154 (ctJ0_charAt_5068e l D k z i j_27 (by omega) (by omega)) [] rfl (by decide) (x_srec hZ hS hAB (by omega)) rfl rfl ⟨Nat.le_of_ble_eq_true rfl, Nat.le_of_ble_eq_true rfl, Nat.le_of_ble_eq_true rfl⟩ dX11_is_64 ⟨Nat.le_of_ble_eq_true rfl, Nat.le_of_ble_eq_true rfl⟩ (fun r_33 H locs hr_33 hP hS => ?_)
              obtain rfl := hr_33
              refine lv_icmp_ne (tgt := 74) hx hb dX11_is_67 (by decide) (fun c_34 => ?_) (fun c_34 => ?_)
              · skip
                refine lv_iconst (v := 0) hx hb dX11_is_74 (by decide) ?_
                refine lv_istore_n (lv' := [(2, .int 0), (3, .int (nI j_27)), (0, .ref (n 0)), (1, .ref (z i))]) hx hb dX11_is_75 rfl hl (by decide) rfl (fun ls hl => ?_)
                refine lv_iinc (v := (nI (j_27 + 1))) (lv' := [(3, .int (nI (j_27 + 1))), (2, .int 0), (0, .ref (n 0)), (1, .ref (z i))]) hx hb dX11_is_76 hl (k := 1) rfl (ni_inc _) (by decide) rfl (fun ls hl => ?_)
                refine lv_goto (tgt := 39) hx hb dX11_is_79 (by decide) ?_
                refine lv_iload_n hx hb dX11_is_39 rfl (lv_at hl 0 rfl) ?_
                refine lv_aload_n hx hb dX11_is_40 rfl (lv_at hl 3 rfl) ?_
                refine x_roVir (As := []) S hK hP hDW hZ hAB hBA hS hA hl mwJ0_length_8abf5 lkX11_149 (ctJ0_length_8abf5 l D k z i (by omega)) [] rfl (by decide) (x_srec hZ hS hAB (by omega)) rfl rfl ⟨Nat.le_of_ble_eq_true rfl, Nat.le_of_ble_eq_true rfl, Nat.le_of_ble_eq_true rfl⟩ dX11_is_41 ⟨Nat.le_of_ble_eq_true rfl, Nat.le_of_ble_eq_true rfl⟩ (fun r_35 H locs hr_35 hP hS => ?_)
                obtain rfl := hr_35
                refine lv_icmp_ge (tgt := 82) hx hb dX11_is_44 (by decide) (fun c_36 => ?_) (fun c_36 => ?_)
                · skip
                  have c_36 : sl i ≤ j_27 + 1 := (ni_le rfl rfl (by omega) (by omega)).mp c_36
                  refine lv_iload_n hx hb dX11_is_82 rfl (lv_at hl 1 rfl) ?_
                  exact x_retz S hr hlk hQ hS rfl () (isB_f (fun h => c_34 ((ev_32.trans (cl_at (a := mfrom + j_27) rfl (by omega))).trans (h.2.2.2 j_27 (by omega))))).symm x_T dX11_is_83
                · skip
                  have c_36 : ¬ sl i ≤ j_27 + 1 := fun q => c_36 ((ni_le rfl rfl (by omega) (by omega)).mpr q)
                  refine lv_iload_n hx hb dX11_is_47 rfl (lv_at hl 1 rfl) ?_
                  refine lv_if_eq (tgt := 82) hx hb dX11_is_48 (by decide) (fun c_37 => ?_) (fun c_37 => absurd (by decide) c_37)
                  refine lv_iload_n hx hb dX11_is_82 rfl (lv_at hl 1 rfl) ?_
                  exact x_retz S hr hlk hQ hS rfl () (isB_f (fun h => c_34 ((ev_32.trans (cl_at (a := mfrom + j_27) rfl (by omega))).trans (h.2.2.2 j_27 (by omega))))).symm x_T dX11_is_83
              · skip
                refine lv_iconst (v := 1) hx hb dX11_is_70 (by decide) ?_
                refine lv_goto (tgt := 75) hx hb dX11_is_71 (by decide) ?_
                refine lv_istore_n (lv' := [(2, .int 1), (3, .int (nI j_27)), (0, .ref (n 0)), (1, .ref (z i))]) hx hb dX11_is_75 rfl hl (by decide) rfl (fun ls hl => ?_)
                refine lv_iinc (v := (nI (j_27 + 1))) (lv' := [(3, .int (nI (j_27 + 1))), (2, .int 1), (0, .ref (n 0)), (1, .ref (z i))]) hx hb dX11_is_76 hl (k := 1) rfl (ni_inc _) (by decide) rfl (fun ls hl => ?_)
                refine lv_goto (tgt := 39) hx hb dX11_is_79 (by decide) ?_
                exact ihj_27 (j_27 + 1)  _ _ _ (by omega) (by omega) (isW_step hin ((ev_32.trans (cl_at (a := mfrom + j_27) rfl (by omega))).symm.trans c_34)) hP hS (lv_sub hl [0, 1, 2, 3] rfl)
        exact lp_28 (sl i + 1) 0  _ _ _ (by omega) (by omega) (fun q hq => absurd hq (by omega)) hP hS (lv_sub hl [0, 1, 2, 3] rfl)

set_option maxHeartbeats 4000000 in
set_option maxRecDepth 100000 in
theorem ctX11_takes (l : Launch) (D : va_G) (k : Nat → ClassId) (z : Nat → Nat) (n : Nat → Nat) (mthrown : Int32) (mtaped : Nat) (msize : Nat) (mat : Nat) (mfrom : Nat) (mtoken : Int32) (mvalue : Int32) (mfaultKind : Int32) (mfaultPlace : Int32) (mmoreMany : Nat) (mlawNow : Int32) (mwetSet : Int32) (moverAll : Int32) (mones : Int32) (mtwos : Int32) (mgone : Int32) (mroundNow : Int32) (msampleFor : Int64) (msampleAll : Int64) (maskWorst : Int32) (moftenAll : Int64) (moftenView : Int64) (moftenOnes : Int64) (ftape : Nat → Int32) (i : Nat) (hmtaped : mtaped ≤ 600) (hmsize : msize ≤ 600) (hmat : mat ≤ 600) (hmfrom : mfrom ≤ 600) (hmmoreMany : mmoreMany ≤ 14) (hi : i < 11) (hfa : mfrom ≤ mat) : MU l yX11_takes cX11_takes 3 (some .boolean) 5 D k z [.ref (n 0), .ref (z i)] [((n 0), .inr (11, [.int mthrown, .ref (n 1), .ref (n 2), .ref (n 3), .ref (n 4), .int (nI mtaped), .ref (n 5), .int (nI msize), .int (nI mat), .int (nI mfrom), .int mtoken, .int mvalue, .int mfaultKind, .int mfaultPlace, .ref (n 6), .ref (n 7), .ref (n 8), .ref (n 9), .ref (n 10), .ref (n 11), .ref (n 12), .int (nI mmoreMany), .int mlawNow, .int mwetSet, .int moverAll, .ref (n 13), .ref (n 14), .ref (n 15), .int mones, .int mtwos, .int mgone, .ref (n 16), .ref (n 17), .int mroundNow, .ref (n 18), .long msampleFor, .long msampleAll, .ref (n 19), .int maskWorst, .long moftenAll, .long moftenView, .long moftenOnes, .ref (n 20), .ref (n 21), .ref (n 22), .ref (n 23)])), ((n 4), .inl (k 1, 600, .inl ftape))] 0 0 (Ui D (fun (r : Int32) (u : (Nat → Int32) × (Nat → Nat) × (Nat → Nat → Int32) × (Nat → Nat → Int64) × (Nat → Int64)) => (r = (isB mfaultKind mtoken mat mfrom ftape i)) ∧ (u.2.1 0 ≤ 600) ∧ (u.2.1 1 ≤ 600) ∧ (mfrom ≤ (u.2.1 1) ∧ (u.2.1 1) ≤ (u.2.1 0)) ∧ (¬ (isW mfaultKind mtoken mat mfrom ftape i) ∨ mfrom < (u.2.1 1)) ∧ ((isW mfaultKind mtoken mat mfrom ftape i) ∨ ((u.1 0) = mtoken ∧ (u.2.1 0) = mat ∧ (u.2.1 1) = mfrom))) (fun u : (Nat → Int32) × (Nat → Nat) × (Nat → Nat → Int32) × (Nat → Nat → Int64) × (Nat → Int64) => [((n 0), .inr (11, [.int mthrown, .ref (n 1), .ref (n 2), .ref (n 3), .ref (n 4), .int (nI mtaped), .ref (n 5), .int (nI msize), .int (nI (u.2.1 0)), .int (nI (u.2.1 1)), .int (u.1 0), .int (u.1 1), .int mfaultKind, .int mfaultPlace, .ref (n 6), .ref (n 7), .ref (n 8), .ref (n 9), .ref (n 10), .ref (n 11), .ref (n 12), .int (nI mmoreMany), .int mlawNow, .int mwetSet, .int moverAll, .ref (n 13), .ref (n 14), .ref (n 15), .int mones, .int mtwos, .int mgone, .ref (n 16), .ref (n 17), .int mroundNow, .ref (n 18), .long msampleFor, .long msampleAll, .ref (n 19), .int maskWorst, .long moftenAll, .long moftenView, .long moftenOnes, .ref (n 20), .ref (n 21), .ref (n 22), .ref (n 23)])), ((n 4), .inl (k 1, 600, .inl ftape))])) := by
  refine MU.of (by decide) (Nat.le_of_ble_eq_true rfl) ?_
  intro p e s m below meth c ls A args Q S hr hlk hnm hQ hK hP hD hZ hA hS hl
  have hx := S.1
  have hb := S.2.1
  have hsl := sl_lt i
  have hl : lv_has ls 3 [(0, .ref (n 0)), (1, .ref (z i))] := hl
  refine lv_aload_n hx hb dX11_takes_0 rfl (lv_at hl 0 rfl) ?_
  refine lv_aload_n hx hb dX11_takes_1 rfl (lv_at hl 1 rfl) ?_
  refine x_roVi (As := [.ref (z i)]) S hK hP hD hZ (fun _ h => h) hA hS hA hl mwX11_is lkX11_158 (ctX11_is l D k z n mthrown mtaped msize mat mfrom mtoken mvalue mfaultKind mfaultPlace mmoreMany mlawNow mwetSet moverAll mones mtwos mgone mroundNow msampleFor msampleAll maskWorst moftenAll moftenView moftenOnes ftape i (by omega) (by omega) (by omega) (by omega) (by omega) (by omega)) [0, 1] rfl (by decide) rfl rfl rfl rfl rfl ⟨Nat.le_of_ble_eq_true rfl, Nat.le_of_ble_eq_true rfl, Nat.le_of_ble_eq_true rfl⟩ dX11_takes_2 ⟨Nat.le_of_ble_eq_true rfl, Nat.le_of_ble_eq_true rfl⟩ (fun r_1 H locs hr_1 hP hS => ?_)
  obtain rfl := hr_1
  refine lv_istore_n (lv' := [(2, .int (isB mfaultKind mtoken mat mfrom ftape i)), (0, .ref (n 0)), (1, .ref (z i))]) hx hb dX11_takes_5 rfl hl (by decide) rfl (fun ls hl => ?_)
  refine lv_iload_n hx hb dX11_takes_6 rfl (lv_at hl 0 rfl) ?_
  refine lv_if_eq (tgt := 14) hx hb dX11_takes_7 (by decide) (fun c_3 => ?_) (fun c_3 => ?_)
  · skip
    have c_3 : ¬ (isW mfaultKind mtoken mat mfrom ftape i) := isB_0.mp c_3
    refine lv_iload_n hx hb dX11_takes_14 rfl (lv_at hl 0 rfl) ?_
    exact x_retz S hr hlk hQ hS isB_nar ((fun i => ([mtoken, mvalue] : List (Int32)).getD i 0), (fun i => ([mat, mfrom] : List (Nat)).getD i 0), (fun i => ([] : List (Nat → Int32)).getD i (fun _ => 0)), (fun i => ([] : List (Nat → Int64)).getD i (fun _ => 0)), (fun i => ([] : List (Int64)).getD i 0)) ⟨rfl, (show mat ≤ 600 by omega), (show mfrom ≤ 600 by omega), (show mfrom ≤ mfrom ∧ mfrom ≤ mat by omega), (Or.inl c_3), (Or.inr ⟨rfl, rfl, rfl⟩)⟩ (x_B hP hD) dX11_takes_15
  · skip
    have c_3 : isW mfaultKind mtoken mat mfrom ftape i := isB_1.mp c_3
    refine lv_aload_n hx hb dX11_takes_10 rfl (lv_at hl 1 rfl) ?_
    refine x_muVv (wr := []) (As := []) S hK hP hD hZ hS hA hl mwX11_advance lkX11_162 (ctX11_advance l D k z n mthrown mtaped msize mat mfrom mtoken mvalue mfaultKind mfaultPlace mmoreMany mlawNow mwetSet moverAll mones mtwos mgone mroundNow msampleFor msampleAll maskWorst moftenAll moftenView moftenOnes ftape (by omega) (by omega) (by omega) (by omega) (by omega)) [0, 1] [] rfl rfl (by decide) (by decide) (by decide) rfl rfl rfl rfl rfl ⟨Nat.le_of_ble_eq_true rfl, Nat.le_of_ble_eq_true rfl, Nat.le_of_ble_eq_true rfl⟩ dX11_takes_11 ⟨Nat.le_of_ble_eq_true rfl, Nat.le_of_ble_eq_true rfl⟩ (fun u_5 H locs hr_4 hP hD hS => ?_)
    have hP : va_P D vwCl [((n 0), .inr (11, [.int mthrown, .ref (n 1), .ref (n 2), .ref (n 3), .ref (n 4), .int (nI mtaped), .ref (n 5), .int (nI msize), .int (nI (u_5.2.1 0)), .int (nI (u_5.2.1 1)), .int (u_5.1 0), .int (u_5.1 1), .int mfaultKind, .int mfaultPlace, .ref (n 6), .ref (n 7), .ref (n 8), .ref (n 9), .ref (n 10), .ref (n 11), .ref (n 12), .int (nI mmoreMany), .int mlawNow, .int mwetSet, .int moverAll, .ref (n 13), .ref (n 14), .ref (n 15), .int mones, .int mtwos, .int mgone, .ref (n 16), .ref (n 17), .int mroundNow, .ref (n 18), .long msampleFor, .long msampleAll, .ref (n 19), .int maskWorst, .long moftenAll, .long moftenView, .long moftenOnes, .ref (n 20), .ref (n 21), .ref (n 22), .ref (n 23)])), ((n 4), .inl (k 1, 600, .inl ftape))] H := hP.sub [0, 1] rfl
    have hD : va_D A [((n 0), .inr (11, [.int mthrown, .ref (n 1), .ref (n 2), .ref (n 3), .ref (n 4), .int (nI mtaped), .ref (n 5), .int (nI msize), .int (nI (u_5.2.1 0)), .int (nI (u_5.2.1 1)), .int (u_5.1 0), .int (u_5.1 1), .int mfaultKind, .int mfaultPlace, .ref (n 6), .ref (n 7), .ref (n 8), .ref (n 9), .ref (n 10), .ref (n 11), .ref (n 12), .int (nI mmoreMany), .int mlawNow, .int mwetSet, .int moverAll, .ref (n 13), .ref (n 14), .ref (n 15), .int mones, .int mtwos, .int mgone, .ref (n 16), .ref (n 17), .int mroundNow, .ref (n 18), .long msampleFor, .long msampleAll, .ref (n 19), .int maskWorst, .long moftenAll, .long moftenView, .long moftenOnes, .ref (n 20), .ref (n 21), .ref (n 22), .ref (n 23)])), ((n 4), .inl (k 1, 600, .inl ftape))] := hD.sub [0, 1] (by decide) rfl
    obtain ⟨hg_6, hg_7, hg_8⟩ := hr_4
    refine lv_iload_n hx hb dX11_takes_14 rfl (lv_at hl 0 rfl) ?_
    exact x_retz S hr hlk hQ hS isB_nar ((fun i => ([(u_5.1 0), (u_5.1 1)] : List (Int32)).getD i 0), (fun i => ([u_5.2.1 0, u_5.2.1 1] : List (Nat)).getD i 0), (fun i => ([] : List (Nat → Int32)).getD i (fun _ => 0)), (fun i => ([] : List (Nat → Int64)).getD i (fun _ => 0)), (fun i => ([] : List (Int64)).getD i 0)) ⟨rfl, (show u_5.2.1 0 ≤ 600 by omega), (show u_5.2.1 1 ≤ 600 by omega), (show mfrom ≤ u_5.2.1 1 ∧ u_5.2.1 1 ≤ u_5.2.1 0 by omega), (Or.inr (show mfrom < u_5.2.1 1 by have := isW_lt c_3 hi (by omega) (by omega); omega)), (Or.inl c_3)⟩ (x_B hP hD) dX11_takes_15

set_option maxHeartbeats 4000000 in
set_option maxRecDepth 100000 in
theorem ctX11_expects (l : Launch) (D : va_G) (k : Nat → ClassId) (z : Nat → Nat) (n : Nat → Nat) (mthrown : Int32) (mtaped : Nat) (msize : Nat) (mat : Nat) (mfrom : Nat) (mtoken : Int32) (mvalue : Int32) (mfaultKind : Int32) (mfaultPlace : Int32) (mmoreMany : Nat) (mlawNow : Int32) (mwetSet : Int32) (moverAll : Int32) (mones : Int32) (mtwos : Int32) (mgone : Int32) (mroundNow : Int32) (msampleFor : Int64) (msampleAll : Int64) (maskWorst : Int32) (moftenAll : Int64) (moftenView : Int64) (moftenOnes : Int64) (ftape : Nat → Int32) (i : Nat) (hmtaped : mtaped ≤ 600) (hmsize : msize ≤ 600) (hmat : mat ≤ 600) (hmfrom : mfrom ≤ 600) (hmmoreMany : mmoreMany ≤ 14) (hi : i < 11) (hfa : mfrom ≤ mat) : MU l yX11_expects cX11_expects 2 none 6 D k z [.ref (n 0), .ref (z i)] [((n 0), .inr (11, [.int mthrown, .ref (n 1), .ref (n 2), .ref (n 3), .ref (n 4), .int (nI mtaped), .ref (n 5), .int (nI msize), .int (nI mat), .int (nI mfrom), .int mtoken, .int mvalue, .int mfaultKind, .int mfaultPlace, .ref (n 6), .ref (n 7), .ref (n 8), .ref (n 9), .ref (n 10), .ref (n 11), .ref (n 12), .int (nI mmoreMany), .int mlawNow, .int mwetSet, .int moverAll, .ref (n 13), .ref (n 14), .ref (n 15), .int mones, .int mtwos, .int mgone, .ref (n 16), .ref (n 17), .int mroundNow, .ref (n 18), .long msampleFor, .long msampleAll, .ref (n 19), .int maskWorst, .long moftenAll, .long moftenView, .long moftenOnes, .ref (n 20), .ref (n 21), .ref (n 22), .ref (n 23)])), ((n 4), .inl (k 1, 600, .inl ftape))] 0 0 (Uv D (fun u : (Nat → Int32) × (Nat → Nat) × (Nat → Nat → Int32) × (Nat → Nat → Int64) × (Nat → Int64) => (u.2.1 0 ≤ 600) ∧ (u.2.1 1 ≤ 600) ∧ (mfrom ≤ (u.2.1 1) ∧ (u.2.1 1) ≤ (u.2.1 0)) ∧ ((u.1 2) = 0 → mfaultKind = 0 ∧ mfrom < (u.2.1 1) ∧ isW mfaultKind mtoken mat mfrom ftape i)) (fun u : (Nat → Int32) × (Nat → Nat) × (Nat → Nat → Int32) × (Nat → Nat → Int64) × (Nat → Int64) => [((n 0), .inr (11, [.int mthrown, .ref (n 1), .ref (n 2), .ref (n 3), .ref (n 4), .int (nI mtaped), .ref (n 5), .int (nI msize), .int (nI (u.2.1 0)), .int (nI (u.2.1 1)), .int (u.1 0), .int (u.1 1), .int (u.1 2), .int (u.1 3), .ref (n 6), .ref (n 7), .ref (n 8), .ref (n 9), .ref (n 10), .ref (n 11), .ref (n 12), .int (nI mmoreMany), .int mlawNow, .int mwetSet, .int moverAll, .ref (n 13), .ref (n 14), .ref (n 15), .int mones, .int mtwos, .int mgone, .ref (n 16), .ref (n 17), .int mroundNow, .ref (n 18), .long msampleFor, .long msampleAll, .ref (n 19), .int maskWorst, .long moftenAll, .long moftenView, .long moftenOnes, .ref (n 20), .ref (n 21), .ref (n 22), .ref (n 23)])), ((n 4), .inl (k 1, 600, .inl ftape))])) := by
  refine MU.of (by decide) (Nat.le_of_ble_eq_true rfl) ?_
  intro p e s m below meth c ls A args Q S hr hlk hnm hQ hK hP hD hZ hA hS hl
  have hx := S.1
  have hb := S.2.1
  have hsl := sl_lt i
  have hl : lv_has ls 2 [(0, .ref (n 0)), (1, .ref (z i))] := hl
  refine lv_aload_n hx hb dX11_expects_0 rfl (lv_at hl 0 rfl) ?_
  refine lv_aload_n hx hb dX11_expects_1 rfl (lv_at hl 1 rfl) ?_
  refine x_muVi (wr := []) (As := [.ref (z i)]) S hK hP hD hZ hS hA hl mwX11_takes lkX11_165 (ctX11_takes l D k z n mthrown mtaped msize mat mfrom mtoken mvalue mfaultKind mfaultPlace mmoreMany mlawNow mwetSet moverAll mones mtwos mgone mroundNow msampleFor msampleAll maskWorst moftenAll moftenView moftenOnes ftape i (by omega) (by omega) (by omega) (by omega) (by omega) (by omega) (by omega)) [0, 1] [] rfl rfl (by decide) (by decide) (by decide) rfl rfl rfl rfl rfl ⟨Nat.le_of_ble_eq_true rfl, Nat.le_of_ble_eq_true rfl, Nat.le_of_ble_eq_true rfl⟩ dX11_expects_2 ⟨Nat.le_of_ble_eq_true rfl, Nat.le_of_ble_eq_true rfl⟩ (fun r_1 u_2 H locs hr_1 hP hD hS => ?_)
  have hP : va_P D vwCl [((n 0), .inr (11, [.int mthrown, .ref (n 1), .ref (n 2), .ref (n 3), .ref (n 4), .int (nI mtaped), .ref (n 5), .int (nI msize), .int (nI (u_2.2.1 0)), .int (nI (u_2.2.1 1)), .int (u_2.1 0), .int (u_2.1 1), .int mfaultKind, .int mfaultPlace, .ref (n 6), .ref (n 7), .ref (n 8), .ref (n 9), .ref (n 10), .ref (n 11), .ref (n 12), .int (nI mmoreMany), .int mlawNow, .int mwetSet, .int moverAll, .ref (n 13), .ref (n 14), .ref (n 15), .int mones, .int mtwos, .int mgone, .ref (n 16), .ref (n 17), .int mroundNow, .ref (n 18), .long msampleFor, .long msampleAll, .ref (n 19), .int maskWorst, .long moftenAll, .long moftenView, .long moftenOnes, .ref (n 20), .ref (n 21), .ref (n 22), .ref (n 23)])), ((n 4), .inl (k 1, 600, .inl ftape))] H := hP.sub [0, 1] rfl
  have hD : va_D A [((n 0), .inr (11, [.int mthrown, .ref (n 1), .ref (n 2), .ref (n 3), .ref (n 4), .int (nI mtaped), .ref (n 5), .int (nI msize), .int (nI (u_2.2.1 0)), .int (nI (u_2.2.1 1)), .int (u_2.1 0), .int (u_2.1 1), .int mfaultKind, .int mfaultPlace, .ref (n 6), .ref (n 7), .ref (n 8), .ref (n 9), .ref (n 10), .ref (n 11), .ref (n 12), .int (nI mmoreMany), .int mlawNow, .int mwetSet, .int moverAll, .ref (n 13), .ref (n 14), .ref (n 15), .int mones, .int mtwos, .int mgone, .ref (n 16), .ref (n 17), .int mroundNow, .ref (n 18), .long msampleFor, .long msampleAll, .ref (n 19), .int maskWorst, .long moftenAll, .long moftenView, .long moftenOnes, .ref (n 20), .ref (n 21), .ref (n 22), .ref (n 23)])), ((n 4), .inl (k 1, 600, .inl ftape))] := hD.sub [0, 1] (by decide) rfl
  obtain ⟨rfl, hg_3, hg_4, hg_5, hg_6, hg_7⟩ := hr_1
  refine lv_if_ne (tgt := 13) hx hb dX11_expects_5 (by decide) (fun c_8 => ?_) (fun c_8 => ?_)
  · skip
    have c_8 : isW mfaultKind mtoken mat mfrom ftape i := isB_1.mp c_8
    exact x_retv S hr hlk hQ hS ((fun i => ([(u_2.1 0), (u_2.1 1), mfaultKind, mfaultPlace] : List (Int32)).getD i 0), (fun i => ([u_2.2.1 0, u_2.2.1 1] : List (Nat)).getD i 0), (fun i => ([] : List (Nat → Int32)).getD i (fun _ => 0)), (fun i => ([] : List (Nat → Int64)).getD i (fun _ => 0)), (fun i => ([] : List (Int64)).getD i 0)) ⟨(show u_2.2.1 0 ≤ 600 by omega), (show u_2.2.1 1 ≤ 600 by omega), (show mfrom ≤ u_2.2.1 1 ∧ u_2.2.1 1 ≤ u_2.2.1 0 by omega), (fun hz => ⟨hz, hg_6.resolve_left (fun q => q c_8), c_8⟩)⟩ (x_B hP hD) dX11_expects_13
  · skip
    have c_8 : ¬ (isW mfaultKind mtoken mat mfrom ftape i) := isB_0.mp c_8
    refine lv_aload_n hx hb dX11_expects_8 rfl (lv_at hl 0 rfl) ?_
    refine lv_iconst (v := 1) hx hb dX11_expects_9 (by decide) ?_
    refine x_muVv (wr := [((n 4), .inl (k 1, 600, .inl ftape))]) (As := [.int 1]) S hK hP hD hZ hS hA hl mwX11_errs lkX11_168 (ctX11_errs l D k z n mthrown mtaped msize (u_2.2.1 0) (u_2.2.1 1) (u_2.1 0) (u_2.1 1) mfaultKind mfaultPlace mmoreMany mlawNow mwetSet moverAll mones mtwos mgone mroundNow msampleFor msampleAll maskWorst moftenAll moftenView moftenOnes 1 (by omega) (by omega) (by omega) (by omega) (by omega) (by omega) (by omega)) [0] [1] rfl rfl (by decide) (by decide) (by decide) rfl rfl rfl rfl rfl ⟨Nat.le_of_ble_eq_true rfl, Nat.le_of_ble_eq_true rfl, Nat.le_of_ble_eq_true rfl⟩ dX11_expects_10 ⟨Nat.le_of_ble_eq_true rfl, Nat.le_of_ble_eq_true rfl⟩ (fun u_10 H locs hr_9 hP hD hS => ?_)
    have hP : va_P D vwCl [((n 0), .inr (11, [.int mthrown, .ref (n 1), .ref (n 2), .ref (n 3), .ref (n 4), .int (nI mtaped), .ref (n 5), .int (nI msize), .int (nI (u_2.2.1 0)), .int (nI (u_2.2.1 1)), .int (u_2.1 0), .int (u_2.1 1), .int (u_10.1 0), .int (u_10.1 1), .ref (n 6), .ref (n 7), .ref (n 8), .ref (n 9), .ref (n 10), .ref (n 11), .ref (n 12), .int (nI mmoreMany), .int mlawNow, .int mwetSet, .int moverAll, .ref (n 13), .ref (n 14), .ref (n 15), .int mones, .int mtwos, .int mgone, .ref (n 16), .ref (n 17), .int mroundNow, .ref (n 18), .long msampleFor, .long msampleAll, .ref (n 19), .int maskWorst, .long moftenAll, .long moftenView, .long moftenOnes, .ref (n 20), .ref (n 21), .ref (n 22), .ref (n 23)])), ((n 4), .inl (k 1, 600, .inl ftape))] H := hP.sub [1, 0] rfl
    have hD : va_D A [((n 0), .inr (11, [.int mthrown, .ref (n 1), .ref (n 2), .ref (n 3), .ref (n 4), .int (nI mtaped), .ref (n 5), .int (nI msize), .int (nI (u_2.2.1 0)), .int (nI (u_2.2.1 1)), .int (u_2.1 0), .int (u_2.1 1), .int (u_10.1 0), .int (u_10.1 1), .ref (n 6), .ref (n 7), .ref (n 8), .ref (n 9), .ref (n 10), .ref (n 11), .ref (n 12), .int (nI mmoreMany), .int mlawNow, .int mwetSet, .int moverAll, .ref (n 13), .ref (n 14), .ref (n 15), .int mones, .int mtwos, .int mgone, .ref (n 16), .ref (n 17), .int mroundNow, .ref (n 18), .long msampleFor, .long msampleAll, .ref (n 19), .int maskWorst, .long moftenAll, .long moftenView, .long moftenOnes, .ref (n 20), .ref (n 21), .ref (n 22), .ref (n 23)])), ((n 4), .inl (k 1, 600, .inl ftape))] := hD.sub [1, 0] (by decide) rfl
    have hg_11 := hr_9
    exact x_retv S hr hlk hQ hS ((fun i => ([(u_2.1 0), (u_2.1 1), (u_10.1 0), (u_10.1 1)] : List (Int32)).getD i 0), (fun i => ([u_2.2.1 0, u_2.2.1 1] : List (Nat)).getD i 0), (fun i => ([] : List (Nat → Int32)).getD i (fun _ => 0)), (fun i => ([] : List (Nat → Int64)).getD i (fun _ => 0)), (fun i => ([] : List (Int64)).getD i 0)) ⟨(show u_2.2.1 0 ≤ 600 by omega), (show u_2.2.1 1 ≤ 600 by omega), (show mfrom ≤ u_2.2.1 1 ∧ u_2.2.1 1 ≤ u_2.2.1 0 by omega), (fun hz => absurd hz hg_11)⟩ (x_B hP hD) dX11_expects_13

set_option maxHeartbeats 4000000 in
set_option maxRecDepth 100000 in
theorem ctX11_number_n (l : Launch) (D : va_G) (k : Nat → ClassId) (z : Nat → Nat) (n : Nat → Nat) (mthrown : Int32) (mtaped : Nat) (msize : Nat) (mat : Nat) (mfrom : Nat) (mtoken : Int32) (mvalue : Int32) (mfaultKind : Int32) (mfaultPlace : Int32) (mmoreMany : Nat) (mlawNow : Int32) (mwetSet : Int32) (moverAll : Int32) (mones : Int32) (mtwos : Int32) (mgone : Int32) (mroundNow : Int32) (msampleFor : Int64) (msampleAll : Int64) (maskWorst : Int32) (moftenAll : Int64) (moftenView : Int64) (moftenOnes : Int64) (ftape : Nat → Int32) (p0 : Nat) (p1 : Nat) (hmtaped : mtaped ≤ 600) (hmsize : msize ≤ 600) (hmat : mat ≤ 600) (hmfrom : mfrom ≤ 600) (hmmoreMany : mmoreMany ≤ 14) (hp0 : p0 ≤ 2147483647) (hp1 : p1 ≤ 2147483647) (hfa : mfrom ≤ mat) : MU l yX11_number cX11_number 4 (some .int) 2 D k z [.ref (n 0), .int (nI p0), .int (nI p1)] [((n 0), .inr (11, [.int mthrown, .ref (n 1), .ref (n 2), .ref (n 3), .ref (n 4), .int (nI mtaped), .ref (n 5), .int (nI msize), .int (nI mat), .int (nI mfrom), .int mtoken, .int mvalue, .int mfaultKind, .int mfaultPlace, .ref (n 6), .ref (n 7), .ref (n 8), .ref (n 9), .ref (n 10), .ref (n 11), .ref (n 12), .int (nI mmoreMany), .int mlawNow, .int mwetSet, .int moverAll, .ref (n 13), .ref (n 14), .ref (n 15), .int mones, .int mtwos, .int mgone, .ref (n 16), .ref (n 17), .int mroundNow, .ref (n 18), .long msampleFor, .long msampleAll, .ref (n 19), .int maskWorst, .long moftenAll, .long moftenView, .long moftenOnes, .ref (n 20), .ref (n 21), .ref (n 22), .ref (n 23)])), ((n 4), .inl (k 1, 600, .inl ftape))] 0 0 (Ui D (fun (r : Int32) (u : (Nat → Int32) × (Nat → Nat) × (Nat → Nat → Int32) × (Nat → Nat → Int64) × (Nat → Int64)) => (∃ q : Nat, r = nI q ∧ q ≤ p1) ∧ (u.2.1 0 ≤ 600) ∧ (u.2.1 1 ≤ 600) ∧ (mfrom ≤ (u.2.1 1) ∧ (u.2.1 1) ≤ (u.2.1 0)) ∧ ((u.1 2) = 0 → mfaultKind = 0 ∧ mfrom ≤ (u.2.1 1))) (fun u : (Nat → Int32) × (Nat → Nat) × (Nat → Nat → Int32) × (Nat → Nat → Int64) × (Nat → Int64) => [((n 0), .inr (11, [.int mthrown, .ref (n 1), .ref (n 2), .ref (n 3), .ref (n 4), .int (nI mtaped), .ref (n 5), .int (nI msize), .int (nI (u.2.1 0)), .int (nI (u.2.1 1)), .int (u.1 0), .int (u.1 1), .int (u.1 2), .int (u.1 3), .ref (n 6), .ref (n 7), .ref (n 8), .ref (n 9), .ref (n 10), .ref (n 11), .ref (n 12), .int (nI mmoreMany), .int mlawNow, .int mwetSet, .int moverAll, .ref (n 13), .ref (n 14), .ref (n 15), .int mones, .int mtwos, .int mgone, .ref (n 16), .ref (n 17), .int mroundNow, .ref (n 18), .long msampleFor, .long msampleAll, .ref (n 19), .int maskWorst, .long moftenAll, .long moftenView, .long moftenOnes, .ref (n 20), .ref (n 21), .ref (n 22), .ref (n 23)])), ((n 4), .inl (k 1, 600, .inl ftape))])) := by
  refine MU.of (by decide) (Nat.le_of_ble_eq_true rfl) ?_
  intro p e s m below meth c ls A args Q S hr hlk hnm hQ hK hP hD hZ hA hS hl
  have hx := S.1
  have hb := S.2.1
  have hl : lv_has ls 4 [(0, .ref (n 0)), (1, .int (nI p0)), (2, .int (nI p1))] := hl
  refine lv_aload_n hx hb dX11_number_0 rfl (lv_at hl 0 rfl) ?_
  refine x_roVi (As := []) S hK hP hD hZ (fun _ h => h) hA hS hA hl mwX11_good lkX11_146 (ctX11_good l D k z n mthrown mtaped msize mat mfrom mtoken mvalue mfaultKind mfaultPlace mmoreMany mlawNow mwetSet moverAll mones mtwos mgone mroundNow msampleFor msampleAll maskWorst moftenAll moftenView moftenOnes (by omega) (by omega) (by omega) (by omega) (by omega)) [0] rfl (by decide) rfl rfl rfl rfl rfl ⟨Nat.le_of_ble_eq_true rfl, Nat.le_of_ble_eq_true rfl, Nat.le_of_ble_eq_true rfl⟩ dX11_number_1 ⟨Nat.le_of_ble_eq_true rfl, Nat.le_of_ble_eq_true rfl⟩ (fun r_1 H locs hr_1 hP hS => ?_)
  obtain rfl := hr_1
  refine lv_if_eq (tgt := 20) hx hb dX11_number_4 (by decide) (fun c_3 => ?_) (fun c_3 => ?_)
  · skip
    have c_3 : ¬ (mfaultKind = 0) := bo_0.mp c_3
    refine lv_aload_n hx hb dX11_number_20 rfl (lv_at hl 0 rfl) ?_
    refine x_roVi (As := []) S hK hP hD hZ (fun _ h => h) hA hS hA hl mwX11_good lkX11_146 (ctX11_good l D k z n mthrown mtaped msize mat mfrom mtoken mvalue mfaultKind mfaultPlace mmoreMany mlawNow mwetSet moverAll mones mtwos mgone mroundNow msampleFor msampleAll maskWorst moftenAll moftenView moftenOnes (by omega) (by omega) (by omega) (by omega) (by omega)) [0] rfl (by decide) rfl rfl rfl rfl rfl ⟨Nat.le_of_ble_eq_true rfl, Nat.le_of_ble_eq_true rfl, Nat.le_of_ble_eq_true rfl⟩ dX11_number_21 ⟨Nat.le_of_ble_eq_true rfl, Nat.le_of_ble_eq_true rfl⟩ (fun r_4 H locs hr_4 hP hS => ?_)
    obtain rfl := hr_4
    refine lv_if_eq (tgt := 47) hx hb dX11_number_24 (by decide) (fun c_6 => ?_) (fun c_6 => ?_)
    · skip
      have c_6 : ¬ (mfaultKind = 0) := bo_0.mp c_6
      refine lv_aload_n hx hb dX11_number_47 rfl (lv_at hl 0 rfl) ?_
      refine x_roVi (As := []) S hK hP hD hZ (fun _ h => h) hA hS hA hl mwX11_good lkX11_146 (ctX11_good l D k z n mthrown mtaped msize mat mfrom mtoken mvalue mfaultKind mfaultPlace mmoreMany mlawNow mwetSet moverAll mones mtwos mgone mroundNow msampleFor msampleAll maskWorst moftenAll moftenView moftenOnes (by omega) (by omega) (by omega) (by omega) (by omega)) [0] rfl (by decide) rfl rfl rfl rfl rfl ⟨Nat.le_of_ble_eq_true rfl, Nat.le_of_ble_eq_true rfl, Nat.le_of_ble_eq_true rfl⟩ dX11_number_48 ⟨Nat.le_of_ble_eq_true rfl, Nat.le_of_ble_eq_true rfl⟩ (fun r_7 H locs hr_7 hP hS => ?_)
      obtain rfl := hr_7
      refine lv_if_ne (tgt := 56) hx hb dX11_number_51 (by decide) (fun c_9 => ?_) (fun c_9 => ?_)
      · skip
        have c_9 : mfaultKind = 0 := bo_1.mp c_9
        exact absurd c_9 c_6
      · skip
        have c_9 : ¬ (mfaultKind = 0) := bo_0.mp c_9
        refine lv_iconst (v := 0) hx hb dX11_number_54 (by decide) ?_
        exact x_reti S hr hlk hQ hS ((fun i => ([mtoken, mvalue, mfaultKind, mfaultPlace] : List (Int32)).getD i 0), (fun i => ([mat, mfrom] : List (Nat)).getD i 0), (fun i => ([] : List (Nat → Int32)).getD i (fun _ => 0)), (fun i => ([] : List (Nat → Int64)).getD i (fun _ => 0)), (fun i => ([] : List (Int64)).getD i 0)) ⟨⟨0, (by decide), (by omega)⟩, (show mat ≤ 600 by omega), (show mfrom ≤ 600 by omega), (show mfrom ≤ mfrom ∧ mfrom ≤ mat by omega), (fun hz => absurd hz c_9)⟩ (x_B hP hD) dX11_number_55
    · skip
      have c_6 : mfaultKind = 0 := bo_1.mp c_6
      exact absurd c_6 c_3
  · skip
    have c_3 : mfaultKind = 0 := bo_1.mp c_3
    refine lv_aload_n hx hb dX11_number_7 rfl (lv_at hl 0 rfl) ?_
    refine x_get S hK hP 0 rfl cfX11 10 lkX11_122 (by decide) rfl dX11_number_8 ?_
    refine lv_iconst (v := 2) hx hb dX11_number_11 (by decide) ?_
    refine lv_icmp_eq (tgt := 20) hx hb dX11_number_12 (by decide) (fun c_10 => ?_) (fun c_10 => ?_)
    · skip
      refine lv_aload_n hx hb dX11_number_20 rfl (lv_at hl 0 rfl) ?_
      refine x_roVi (As := []) S hK hP hD hZ (fun _ h => h) hA hS hA hl mwX11_good lkX11_146 (ctX11_good l D k z n mthrown mtaped msize mat mfrom mtoken mvalue mfaultKind mfaultPlace mmoreMany mlawNow mwetSet moverAll mones mtwos mgone mroundNow msampleFor msampleAll maskWorst moftenAll moftenView moftenOnes (by omega) (by omega) (by omega) (by omega) (by omega)) [0] rfl (by decide) rfl rfl rfl rfl rfl ⟨Nat.le_of_ble_eq_true rfl, Nat.le_of_ble_eq_true rfl, Nat.le_of_ble_eq_true rfl⟩ dX11_number_21 ⟨Nat.le_of_ble_eq_true rfl, Nat.le_of_ble_eq_true rfl⟩ (fun r_11 H locs hr_11 hP hS => ?_)
      obtain rfl := hr_11
      refine lv_if_eq (tgt := 47) hx hb dX11_number_24 (by decide) (fun c_13 => ?_) (fun c_13 => ?_)
      · skip
        have c_13 : ¬ (mfaultKind = 0) := bo_0.mp c_13
        exact absurd c_3 c_13
      · skip
        have c_13 : mfaultKind = 0 := bo_1.mp c_13
        refine lv_aload_n hx hb dX11_number_27 rfl (lv_at hl 0 rfl) ?_
        refine x_get S hK hP 0 rfl cfX11 11 lkX11_133 (by decide) rfl dX11_number_28 ?_
        refine lv_i2l (v := mvalue.toInt64) hx hb dX11_number_31 rfl ?_
        refine lv_iload_n hx hb dX11_number_32 rfl (lv_at hl 1 rfl) ?_
        refine lv_i2l (v := (nI p0).toInt64) hx hb dX11_number_33 rfl ?_
        refine lv_iload_n hx hb dX11_number_34 rfl (lv_at hl 2 rfl) ?_
        refine lv_i2l (v := (nI p1).toInt64) hx hb dX11_number_35 rfl ?_
        refine x_roSi (As := [.long mvalue.toInt64, .long (nI p0).toInt64, .long (nI p1).toInt64]) S hK hP hD hZ (fun _ h => h) hA hS hA hl mwX11_in lkX11_91 (ctX11_in l D k z mvalue.toInt64 (nI p0).toInt64 (nI p1).toInt64 ) [] rfl (by decide) rfl rfl ⟨Nat.le_of_ble_eq_true rfl, Nat.le_of_ble_eq_true rfl, Nat.le_of_ble_eq_true rfl⟩ dX11_number_36 ⟨Nat.le_of_ble_eq_true rfl, Nat.le_of_ble_eq_true rfl⟩ (fun r_14 H locs hr_14 hP hS => ?_)
        obtain rfl := hr_14
        refine lv_if_ne (tgt := 47) hx hb dX11_number_39 (by decide) (fun c_16 => ?_) (fun c_16 => ?_)
        · skip
          have c_16 : (nI p0).toInt64 ≤ mvalue.toInt64 ∧ mvalue.toInt64 ≤ (nI p1).toInt64 := bo_1.mp c_16
          refine lv_aload_n hx hb dX11_number_47 rfl (lv_at hl 0 rfl) ?_
          refine x_roVi (As := []) S hK hP hD hZ (fun _ h => h) hA hS hA hl mwX11_good lkX11_146 (ctX11_good l D k z n mthrown mtaped msize mat mfrom mtoken mvalue mfaultKind mfaultPlace mmoreMany mlawNow mwetSet moverAll mones mtwos mgone mroundNow msampleFor msampleAll maskWorst moftenAll moftenView moftenOnes (by omega) (by omega) (by omega) (by omega) (by omega)) [0] rfl (by decide) rfl rfl rfl rfl rfl ⟨Nat.le_of_ble_eq_true rfl, Nat.le_of_ble_eq_true rfl, Nat.le_of_ble_eq_true rfl⟩ dX11_number_48 ⟨Nat.le_of_ble_eq_true rfl, Nat.le_of_ble_eq_true rfl⟩ (fun r_17 H locs hr_17 hP hS => ?_)
          obtain rfl := hr_17
          refine lv_if_ne (tgt := 56) hx hb dX11_number_51 (by decide) (fun c_19 => ?_) (fun c_19 => ?_)
          · skip
            have c_19 : mfaultKind = 0 := bo_1.mp c_19
            refine lv_aload_n hx hb dX11_number_56 rfl (lv_at hl 0 rfl) ?_
            refine x_get S hK hP 0 rfl cfX11 11 lkX11_133 (by decide) rfl dX11_number_57 ?_
            refine lv_istore_n (lv' := [(3, .int mvalue), (0, .ref (n 0)), (1, .int (nI p0)), (2, .int (nI p1))]) hx hb dX11_number_60 rfl hl (by decide) rfl (fun ls hl => ?_)
            refine lv_aload_n hx hb dX11_number_61 rfl (lv_at hl 1 rfl) ?_
            refine x_muVv (wr := []) (As := []) S hK hP hD hZ hS hA hl mwX11_advance lkX11_162 (ctX11_advance l D k z n mthrown mtaped msize mat mfrom mtoken mvalue mfaultKind mfaultPlace mmoreMany mlawNow mwetSet moverAll mones mtwos mgone mroundNow msampleFor msampleAll maskWorst moftenAll moftenView moftenOnes ftape (by omega) (by omega) (by omega) (by omega) (by omega)) [0, 1] [] rfl rfl (by decide) (by decide) (by decide) rfl rfl rfl rfl rfl ⟨Nat.le_of_ble_eq_true rfl, Nat.le_of_ble_eq_true rfl, Nat.le_of_ble_eq_true rfl⟩ dX11_number_62 ⟨Nat.le_of_ble_eq_true rfl, Nat.le_of_ble_eq_true rfl⟩ (fun u_21 H locs hr_20 hP hD hS => ?_)
            have hP : va_P D vwCl [((n 0), .inr (11, [.int mthrown, .ref (n 1), .ref (n 2), .ref (n 3), .ref (n 4), .int (nI mtaped), .ref (n 5), .int (nI msize), .int (nI (u_21.2.1 0)), .int (nI (u_21.2.1 1)), .int (u_21.1 0), .int (u_21.1 1), .int mfaultKind, .int mfaultPlace, .ref (n 6), .ref (n 7), .ref (n 8), .ref (n 9), .ref (n 10), .ref (n 11), .ref (n 12), .int (nI mmoreMany), .int mlawNow, .int mwetSet, .int moverAll, .ref (n 13), .ref (n 14), .ref (n 15), .int mones, .int mtwos, .int mgone, .ref (n 16), .ref (n 17), .int mroundNow, .ref (n 18), .long msampleFor, .long msampleAll, .ref (n 19), .int maskWorst, .long moftenAll, .long moftenView, .long moftenOnes, .ref (n 20), .ref (n 21), .ref (n 22), .ref (n 23)])), ((n 4), .inl (k 1, 600, .inl ftape))] H := hP.sub [0, 1] rfl
            have hD : va_D A [((n 0), .inr (11, [.int mthrown, .ref (n 1), .ref (n 2), .ref (n 3), .ref (n 4), .int (nI mtaped), .ref (n 5), .int (nI msize), .int (nI (u_21.2.1 0)), .int (nI (u_21.2.1 1)), .int (u_21.1 0), .int (u_21.1 1), .int mfaultKind, .int mfaultPlace, .ref (n 6), .ref (n 7), .ref (n 8), .ref (n 9), .ref (n 10), .ref (n 11), .ref (n 12), .int (nI mmoreMany), .int mlawNow, .int mwetSet, .int moverAll, .ref (n 13), .ref (n 14), .ref (n 15), .int mones, .int mtwos, .int mgone, .ref (n 16), .ref (n 17), .int mroundNow, .ref (n 18), .long msampleFor, .long msampleAll, .ref (n 19), .int maskWorst, .long moftenAll, .long moftenView, .long moftenOnes, .ref (n 20), .ref (n 21), .ref (n 22), .ref (n 23)])), ((n 4), .inl (k 1, 600, .inl ftape))] := hD.sub [0, 1] (by decide) rfl
            obtain ⟨hg_22, hg_23, hg_24⟩ := hr_20
            refine lv_iload_n hx hb dX11_number_65 rfl (lv_at hl 0 rfl) ?_
            exact x_reti S hr hlk hQ hS ((fun i => ([(u_21.1 0), (u_21.1 1), mfaultKind, mfaultPlace] : List (Int32)).getD i 0), (fun i => ([u_21.2.1 0, u_21.2.1 1] : List (Nat)).getD i 0), (fun i => ([] : List (Nat → Int32)).getD i (fun _ => 0)), (fun i => ([] : List (Nat → Int64)).getD i (fun _ => 0)), (fun i => ([] : List (Int64)).getD i 0)) ⟨(nat64n c_16 (by omega) (by omega)), (show u_21.2.1 0 ≤ 600 by omega), (show u_21.2.1 1 ≤ 600 by omega), (show mfrom ≤ u_21.2.1 1 ∧ u_21.2.1 1 ≤ u_21.2.1 0 by omega), (fun hz => (show mfaultKind = 0 ∧ mfrom ≤ u_21.2.1 1 by exact ⟨hz, by omega⟩))⟩ (x_B hP hD) dX11_number_66
          · skip
            have c_19 : ¬ (mfaultKind = 0) := bo_0.mp c_19
            exact absurd c_13 c_19
        · skip
          have c_16 : ¬ ((nI p0).toInt64 ≤ mvalue.toInt64 ∧ mvalue.toInt64 ≤ (nI p1).toInt64) := bo_0.mp c_16
          refine lv_aload_n hx hb dX11_number_42 rfl (lv_at hl 0 rfl) ?_
          refine lv_iconst (v := 2) hx hb dX11_number_43 (by decide) ?_
          refine x_muVv (wr := [((n 4), .inl (k 1, 600, .inl ftape))]) (As := [.int 2]) S hK hP hD hZ hS hA hl mwX11_errs lkX11_168 (ctX11_errs l D k z n mthrown mtaped msize mat mfrom mtoken mvalue mfaultKind mfaultPlace mmoreMany mlawNow mwetSet moverAll mones mtwos mgone mroundNow msampleFor msampleAll maskWorst moftenAll moftenView moftenOnes 2 (by omega) (by omega) (by omega) (by omega) (by omega) (by omega) (by omega)) [0] [1] rfl rfl (by decide) (by decide) (by decide) rfl rfl rfl rfl rfl ⟨Nat.le_of_ble_eq_true rfl, Nat.le_of_ble_eq_true rfl, Nat.le_of_ble_eq_true rfl⟩ dX11_number_44 ⟨Nat.le_of_ble_eq_true rfl, Nat.le_of_ble_eq_true rfl⟩ (fun u_26 H locs hr_25 hP hD hS => ?_)
          have hP : va_P D vwCl [((n 0), .inr (11, [.int mthrown, .ref (n 1), .ref (n 2), .ref (n 3), .ref (n 4), .int (nI mtaped), .ref (n 5), .int (nI msize), .int (nI mat), .int (nI mfrom), .int mtoken, .int mvalue, .int (u_26.1 0), .int (u_26.1 1), .ref (n 6), .ref (n 7), .ref (n 8), .ref (n 9), .ref (n 10), .ref (n 11), .ref (n 12), .int (nI mmoreMany), .int mlawNow, .int mwetSet, .int moverAll, .ref (n 13), .ref (n 14), .ref (n 15), .int mones, .int mtwos, .int mgone, .ref (n 16), .ref (n 17), .int mroundNow, .ref (n 18), .long msampleFor, .long msampleAll, .ref (n 19), .int maskWorst, .long moftenAll, .long moftenView, .long moftenOnes, .ref (n 20), .ref (n 21), .ref (n 22), .ref (n 23)])), ((n 4), .inl (k 1, 600, .inl ftape))] H := hP.sub [1, 0] rfl
          have hD : va_D A [((n 0), .inr (11, [.int mthrown, .ref (n 1), .ref (n 2), .ref (n 3), .ref (n 4), .int (nI mtaped), .ref (n 5), .int (nI msize), .int (nI mat), .int (nI mfrom), .int mtoken, .int mvalue, .int (u_26.1 0), .int (u_26.1 1), .ref (n 6), .ref (n 7), .ref (n 8), .ref (n 9), .ref (n 10), .ref (n 11), .ref (n 12), .int (nI mmoreMany), .int mlawNow, .int mwetSet, .int moverAll, .ref (n 13), .ref (n 14), .ref (n 15), .int mones, .int mtwos, .int mgone, .ref (n 16), .ref (n 17), .int mroundNow, .ref (n 18), .long msampleFor, .long msampleAll, .ref (n 19), .int maskWorst, .long moftenAll, .long moftenView, .long moftenOnes, .ref (n 20), .ref (n 21), .ref (n 22), .ref (n 23)])), ((n 4), .inl (k 1, 600, .inl ftape))] := hD.sub [1, 0] (by decide) rfl
          have hg_27 := hr_25
          refine lv_aload_n hx hb dX11_number_47 rfl (lv_at hl 0 rfl) ?_
          refine x_roVi (As := []) S hK hP hD hZ (fun _ h => h) hA hS hA hl mwX11_good lkX11_146 (ctX11_good l D k z n mthrown mtaped msize mat mfrom mtoken mvalue (u_26.1 0) (u_26.1 1) mmoreMany mlawNow mwetSet moverAll mones mtwos mgone mroundNow msampleFor msampleAll maskWorst moftenAll moftenView moftenOnes (by omega) (by omega) (by omega) (by omega) (by omega)) [0] rfl (by decide) rfl rfl rfl rfl rfl ⟨Nat.le_of_ble_eq_true rfl, Nat.le_of_ble_eq_true rfl, Nat.le_of_ble_eq_true rfl⟩ dX11_number_48 ⟨Nat.le_of_ble_eq_true rfl, Nat.le_of_ble_eq_true rfl⟩ (fun r_28 H locs hr_28 hP hS => ?_)
          obtain rfl := hr_28
          refine lv_if_ne (tgt := 56) hx hb dX11_number_51 (by decide) (fun c_30 => ?_) (fun c_30 => ?_)
          · skip
            have c_30 : (u_26.1 0) = 0 := bo_1.mp c_30
            exact absurd c_30 hg_27
          · skip
            have c_30 : ¬ ((u_26.1 0) = 0) := bo_0.mp c_30
            refine lv_iconst (v := 0) hx hb dX11_number_54 (by decide) ?_
            exact x_reti S hr hlk hQ hS ((fun i => ([mtoken, mvalue, (u_26.1 0), (u_26.1 1)] : List (Int32)).getD i 0), (fun i => ([mat, mfrom] : List (Nat)).getD i 0), (fun i => ([] : List (Nat → Int32)).getD i (fun _ => 0)), (fun i => ([] : List (Nat → Int64)).getD i (fun _ => 0)), (fun i => ([] : List (Int64)).getD i 0)) ⟨⟨0, (by decide), (by omega)⟩, (show mat ≤ 600 by omega), (show mfrom ≤ 600 by omega), (show mfrom ≤ mfrom ∧ mfrom ≤ mat by omega), (fun hz => absurd hz c_30)⟩ (x_B hP hD) dX11_number_55
    · skip
      refine lv_aload_n hx hb dX11_number_15 rfl (lv_at hl 0 rfl) ?_
      refine lv_iconst (v := 1) hx hb dX11_number_16 (by decide) ?_
      refine x_muVv (wr := [((n 4), .inl (k 1, 600, .inl ftape))]) (As := [.int 1]) S hK hP hD hZ hS hA hl mwX11_errs lkX11_168 (ctX11_errs l D k z n mthrown mtaped msize mat mfrom mtoken mvalue mfaultKind mfaultPlace mmoreMany mlawNow mwetSet moverAll mones mtwos mgone mroundNow msampleFor msampleAll maskWorst moftenAll moftenView moftenOnes 1 (by omega) (by omega) (by omega) (by omega) (by omega) (by omega) (by omega)) [0] [1] rfl rfl (by decide) (by decide) (by decide) rfl rfl rfl rfl rfl ⟨Nat.le_of_ble_eq_true rfl, Nat.le_of_ble_eq_true rfl, Nat.le_of_ble_eq_true rfl⟩ dX11_number_17 ⟨Nat.le_of_ble_eq_true rfl, Nat.le_of_ble_eq_true rfl⟩ (fun u_32 H locs hr_31 hP hD hS => ?_)
      have hP : va_P D vwCl [((n 0), .inr (11, [.int mthrown, .ref (n 1), .ref (n 2), .ref (n 3), .ref (n 4), .int (nI mtaped), .ref (n 5), .int (nI msize), .int (nI mat), .int (nI mfrom), .int mtoken, .int mvalue, .int (u_32.1 0), .int (u_32.1 1), .ref (n 6), .ref (n 7), .ref (n 8), .ref (n 9), .ref (n 10), .ref (n 11), .ref (n 12), .int (nI mmoreMany), .int mlawNow, .int mwetSet, .int moverAll, .ref (n 13), .ref (n 14), .ref (n 15), .int mones, .int mtwos, .int mgone, .ref (n 16), .ref (n 17), .int mroundNow, .ref (n 18), .long msampleFor, .long msampleAll, .ref (n 19), .int maskWorst, .long moftenAll, .long moftenView, .long moftenOnes, .ref (n 20), .ref (n 21), .ref (n 22), .ref (n 23)])), ((n 4), .inl (k 1, 600, .inl ftape))] H := hP.sub [1, 0] rfl
      have hD : va_D A [((n 0), .inr (11, [.int mthrown, .ref (n 1), .ref (n 2), .ref (n 3), .ref (n 4), .int (nI mtaped), .ref (n 5), .int (nI msize), .int (nI mat), .int (nI mfrom), .int mtoken, .int mvalue, .int (u_32.1 0), .int (u_32.1 1), .ref (n 6), .ref (n 7), .ref (n 8), .ref (n 9), .ref (n 10), .ref (n 11), .ref (n 12), .int (nI mmoreMany), .int mlawNow, .int mwetSet, .int moverAll, .ref (n 13), .ref (n 14), .ref (n 15), .int mones, .int mtwos, .int mgone, .ref (n 16), .ref (n 17), .int mroundNow, .ref (n 18), .long msampleFor, .long msampleAll, .ref (n 19), .int maskWorst, .long moftenAll, .long moftenView, .long moftenOnes, .ref (n 20), .ref (n 21), .ref (n 22), .ref (n 23)])), ((n 4), .inl (k 1, 600, .inl ftape))] := hD.sub [1, 0] (by decide) rfl
      have hg_33 := hr_31
      refine lv_aload_n hx hb dX11_number_20 rfl (lv_at hl 0 rfl) ?_
      refine x_roVi (As := []) S hK hP hD hZ (fun _ h => h) hA hS hA hl mwX11_good lkX11_146 (ctX11_good l D k z n mthrown mtaped msize mat mfrom mtoken mvalue (u_32.1 0) (u_32.1 1) mmoreMany mlawNow mwetSet moverAll mones mtwos mgone mroundNow msampleFor msampleAll maskWorst moftenAll moftenView moftenOnes (by omega) (by omega) (by omega) (by omega) (by omega)) [0] rfl (by decide) rfl rfl rfl rfl rfl ⟨Nat.le_of_ble_eq_true rfl, Nat.le_of_ble_eq_true rfl, Nat.le_of_ble_eq_true rfl⟩ dX11_number_21 ⟨Nat.le_of_ble_eq_true rfl, Nat.le_of_ble_eq_true rfl⟩ (fun r_34 H locs hr_34 hP hS => ?_)
      obtain rfl := hr_34
      refine lv_if_eq (tgt := 47) hx hb dX11_number_24 (by decide) (fun c_36 => ?_) (fun c_36 => ?_)
      · skip
        have c_36 : ¬ ((u_32.1 0) = 0) := bo_0.mp c_36
        refine lv_aload_n hx hb dX11_number_47 rfl (lv_at hl 0 rfl) ?_
        refine x_roVi (As := []) S hK hP hD hZ (fun _ h => h) hA hS hA hl mwX11_good lkX11_146 (ctX11_good l D k z n mthrown mtaped msize mat mfrom mtoken mvalue (u_32.1 0) (u_32.1 1) mmoreMany mlawNow mwetSet moverAll mones mtwos mgone mroundNow msampleFor msampleAll maskWorst moftenAll moftenView moftenOnes (by omega) (by omega) (by omega) (by omega) (by omega)) [0] rfl (by decide) rfl rfl rfl rfl rfl ⟨Nat.le_of_ble_eq_true rfl, Nat.le_of_ble_eq_true rfl, Nat.le_of_ble_eq_true rfl⟩ dX11_number_48 ⟨Nat.le_of_ble_eq_true rfl, Nat.le_of_ble_eq_true rfl⟩ (fun r_37 H locs hr_37 hP hS => ?_)
        obtain rfl := hr_37
        refine lv_if_ne (tgt := 56) hx hb dX11_number_51 (by decide) (fun c_39 => ?_) (fun c_39 => ?_)
        · skip
          have c_39 : (u_32.1 0) = 0 := bo_1.mp c_39
          exact absurd c_39 c_36
        · skip
          have c_39 : ¬ ((u_32.1 0) = 0) := bo_0.mp c_39
          refine lv_iconst (v := 0) hx hb dX11_number_54 (by decide) ?_
          exact x_reti S hr hlk hQ hS ((fun i => ([mtoken, mvalue, (u_32.1 0), (u_32.1 1)] : List (Int32)).getD i 0), (fun i => ([mat, mfrom] : List (Nat)).getD i 0), (fun i => ([] : List (Nat → Int32)).getD i (fun _ => 0)), (fun i => ([] : List (Nat → Int64)).getD i (fun _ => 0)), (fun i => ([] : List (Int64)).getD i 0)) ⟨⟨0, (by decide), (by omega)⟩, (show mat ≤ 600 by omega), (show mfrom ≤ 600 by omega), (show mfrom ≤ mfrom ∧ mfrom ≤ mat by omega), (fun hz => absurd hz c_39)⟩ (x_B hP hD) dX11_number_55
      · skip
        have c_36 : (u_32.1 0) = 0 := bo_1.mp c_36
        exact absurd c_36 hg_33

set_option maxHeartbeats 4000000 in
set_option maxRecDepth 100000 in
theorem ctX11_number (l : Launch) (D : va_G) (k : Nat → ClassId) (z : Nat → Nat) (n : Nat → Nat) (mthrown : Int32) (mtaped : Nat) (msize : Nat) (mat : Nat) (mfrom : Nat) (mtoken : Int32) (mvalue : Int32) (mfaultKind : Int32) (mfaultPlace : Int32) (mmoreMany : Nat) (mlawNow : Int32) (mwetSet : Int32) (moverAll : Int32) (mones : Int32) (mtwos : Int32) (mgone : Int32) (mroundNow : Int32) (msampleFor : Int64) (msampleAll : Int64) (maskWorst : Int32) (moftenAll : Int64) (moftenView : Int64) (moftenOnes : Int64) (ftape : Nat → Int32) (p0 : Int32) (p1 : Int32) (hmtaped : mtaped ≤ 600) (hmsize : msize ≤ 600) (hmat : mat ≤ 600) (hmfrom : mfrom ≤ 600) (hmmoreMany : mmoreMany ≤ 14) (hfa : mfrom ≤ mat) : MU l yX11_number cX11_number 4 (some .int) 2 D k z [.ref (n 0), .int p0, .int p1] [((n 0), .inr (11, [.int mthrown, .ref (n 1), .ref (n 2), .ref (n 3), .ref (n 4), .int (nI mtaped), .ref (n 5), .int (nI msize), .int (nI mat), .int (nI mfrom), .int mtoken, .int mvalue, .int mfaultKind, .int mfaultPlace, .ref (n 6), .ref (n 7), .ref (n 8), .ref (n 9), .ref (n 10), .ref (n 11), .ref (n 12), .int (nI mmoreMany), .int mlawNow, .int mwetSet, .int moverAll, .ref (n 13), .ref (n 14), .ref (n 15), .int mones, .int mtwos, .int mgone, .ref (n 16), .ref (n 17), .int mroundNow, .ref (n 18), .long msampleFor, .long msampleAll, .ref (n 19), .int maskWorst, .long moftenAll, .long moftenView, .long moftenOnes, .ref (n 20), .ref (n 21), .ref (n 22), .ref (n 23)])), ((n 4), .inl (k 1, 600, .inl ftape))] 0 0 (Ui D (fun (r : Int32) (u : (Nat → Int32) × (Nat → Nat) × (Nat → Nat → Int32) × (Nat → Nat → Int64) × (Nat → Int64)) => (u.2.1 0 ≤ 600) ∧ (u.2.1 1 ≤ 600) ∧ (mfrom ≤ (u.2.1 1) ∧ (u.2.1 1) ≤ (u.2.1 0)) ∧ ((u.1 2) = 0 → mfaultKind = 0 ∧ mfrom ≤ (u.2.1 1))) (fun u : (Nat → Int32) × (Nat → Nat) × (Nat → Nat → Int32) × (Nat → Nat → Int64) × (Nat → Int64) => [((n 0), .inr (11, [.int mthrown, .ref (n 1), .ref (n 2), .ref (n 3), .ref (n 4), .int (nI mtaped), .ref (n 5), .int (nI msize), .int (nI (u.2.1 0)), .int (nI (u.2.1 1)), .int (u.1 0), .int (u.1 1), .int (u.1 2), .int (u.1 3), .ref (n 6), .ref (n 7), .ref (n 8), .ref (n 9), .ref (n 10), .ref (n 11), .ref (n 12), .int (nI mmoreMany), .int mlawNow, .int mwetSet, .int moverAll, .ref (n 13), .ref (n 14), .ref (n 15), .int mones, .int mtwos, .int mgone, .ref (n 16), .ref (n 17), .int mroundNow, .ref (n 18), .long msampleFor, .long msampleAll, .ref (n 19), .int maskWorst, .long moftenAll, .long moftenView, .long moftenOnes, .ref (n 20), .ref (n 21), .ref (n 22), .ref (n 23)])), ((n 4), .inl (k 1, 600, .inl ftape))])) := by
  refine MU.of (by decide) (Nat.le_of_ble_eq_true rfl) ?_
  intro p e s m below meth c ls A args Q S hr hlk hnm hQ hK hP hD hZ hA hS hl
  have hx := S.1
  have hb := S.2.1
  have hl : lv_has ls 4 [(0, .ref (n 0)), (1, .int p0), (2, .int p1)] := hl
  refine lv_aload_n hx hb dX11_number_0 rfl (lv_at hl 0 rfl) ?_
  refine x_roVi (As := []) S hK hP hD hZ (fun _ h => h) hA hS hA hl mwX11_good lkX11_146 (ctX11_good l D k z n mthrown mtaped msize mat mfrom mtoken mvalue mfaultKind mfaultPlace mmoreMany mlawNow mwetSet moverAll mones mtwos mgone mroundNow msampleFor msampleAll maskWorst moftenAll moftenView moftenOnes (by omega) (by omega) (by omega) (by omega) (by omega)) [0] rfl (by decide) rfl rfl rfl rfl rfl ⟨Nat.le_of_ble_eq_true rfl, Nat.le_of_ble_eq_true rfl, Nat.le_of_ble_eq_true rfl⟩ dX11_number_1 ⟨Nat.le_of_ble_eq_true rfl, Nat.le_of_ble_eq_true rfl⟩ (fun r_1 H locs hr_1 hP hS => ?_)
  obtain rfl := hr_1
  refine lv_if_eq (tgt := 20) hx hb dX11_number_4 (by decide) (fun c_3 => ?_) (fun c_3 => ?_)
  · skip
    have c_3 : ¬ (mfaultKind = 0) := bo_0.mp c_3
    refine lv_aload_n hx hb dX11_number_20 rfl (lv_at hl 0 rfl) ?_
    refine x_roVi (As := []) S hK hP hD hZ (fun _ h => h) hA hS hA hl mwX11_good lkX11_146 (ctX11_good l D k z n mthrown mtaped msize mat mfrom mtoken mvalue mfaultKind mfaultPlace mmoreMany mlawNow mwetSet moverAll mones mtwos mgone mroundNow msampleFor msampleAll maskWorst moftenAll moftenView moftenOnes (by omega) (by omega) (by omega) (by omega) (by omega)) [0] rfl (by decide) rfl rfl rfl rfl rfl ⟨Nat.le_of_ble_eq_true rfl, Nat.le_of_ble_eq_true rfl, Nat.le_of_ble_eq_true rfl⟩ dX11_number_21 ⟨Nat.le_of_ble_eq_true rfl, Nat.le_of_ble_eq_true rfl⟩ (fun r_4 H locs hr_4 hP hS => ?_)
    obtain rfl := hr_4
    refine lv_if_eq (tgt := 47) hx hb dX11_number_24 (by decide) (fun c_6 => ?_) (fun c_6 => ?_)
    · skip
      have c_6 : ¬ (mfaultKind = 0) := bo_0.mp c_6
      refine lv_aload_n hx hb dX11_number_47 rfl (lv_at hl 0 rfl) ?_
      refine x_roVi (As := []) S hK hP hD hZ (fun _ h => h) hA hS hA hl mwX11_good lkX11_146 (ctX11_good l D k z n mthrown mtaped msize mat mfrom mtoken mvalue mfaultKind mfaultPlace mmoreMany mlawNow mwetSet moverAll mones mtwos mgone mroundNow msampleFor msampleAll maskWorst moftenAll moftenView moftenOnes (by omega) (by omega) (by omega) (by omega) (by omega)) [0] rfl (by decide) rfl rfl rfl rfl rfl ⟨Nat.le_of_ble_eq_true rfl, Nat.le_of_ble_eq_true rfl, Nat.le_of_ble_eq_true rfl⟩ dX11_number_48 ⟨Nat.le_of_ble_eq_true rfl, Nat.le_of_ble_eq_true rfl⟩ (fun r_7 H locs hr_7 hP hS => ?_)
      obtain rfl := hr_7
      refine lv_if_ne (tgt := 56) hx hb dX11_number_51 (by decide) (fun c_9 => ?_) (fun c_9 => ?_)
      · skip
        have c_9 : mfaultKind = 0 := bo_1.mp c_9
        exact absurd c_9 c_6
      · skip
        have c_9 : ¬ (mfaultKind = 0) := bo_0.mp c_9
        refine lv_iconst (v := 0) hx hb dX11_number_54 (by decide) ?_
        exact x_reti S hr hlk hQ hS ((fun i => ([mtoken, mvalue, mfaultKind, mfaultPlace] : List (Int32)).getD i 0), (fun i => ([mat, mfrom] : List (Nat)).getD i 0), (fun i => ([] : List (Nat → Int32)).getD i (fun _ => 0)), (fun i => ([] : List (Nat → Int64)).getD i (fun _ => 0)), (fun i => ([] : List (Int64)).getD i 0)) ⟨(show mat ≤ 600 by omega), (show mfrom ≤ 600 by omega), (show mfrom ≤ mfrom ∧ mfrom ≤ mat by omega), (fun hz => absurd hz c_9)⟩ (x_B hP hD) dX11_number_55
    · skip
      have c_6 : mfaultKind = 0 := bo_1.mp c_6
      exact absurd c_6 c_3
  · skip
    have c_3 : mfaultKind = 0 := bo_1.mp c_3
    refine lv_aload_n hx hb dX11_number_7 rfl (lv_at hl 0 rfl) ?_
    refine x_get S hK hP 0 rfl cfX11 10 lkX11_122 (by decide) rfl dX11_number_8 ?_
    refine lv_iconst (v := 2) hx hb dX11_number_11 (by decide) ?_
    refine lv_icmp_eq (tgt := 20) hx hb dX11_number_12 (by decide) (fun c_10 => ?_) (fun c_10 => ?_)
    · skip
      refine lv_aload_n hx hb dX11_number_20 rfl (lv_at hl 0 rfl) ?_
      refine x_roVi (As := []) S hK hP hD hZ (fun _ h => h) hA hS hA hl mwX11_good lkX11_146 (ctX11_good l D k z n mthrown mtaped msize mat mfrom mtoken mvalue mfaultKind mfaultPlace mmoreMany mlawNow mwetSet moverAll mones mtwos mgone mroundNow msampleFor msampleAll maskWorst moftenAll moftenView moftenOnes (by omega) (by omega) (by omega) (by omega) (by omega)) [0] rfl (by decide) rfl rfl rfl rfl rfl ⟨Nat.le_of_ble_eq_true rfl, Nat.le_of_ble_eq_true rfl, Nat.le_of_ble_eq_true rfl⟩ dX11_number_21 ⟨Nat.le_of_ble_eq_true rfl, Nat.le_of_ble_eq_true rfl⟩ (fun r_11 H locs hr_11 hP hS => ?_)
      obtain rfl := hr_11
      refine lv_if_eq (tgt := 47) hx hb dX11_number_24 (by decide) (fun c_13 => ?_) (fun c_13 => ?_)
      · skip
        have c_13 : ¬ (mfaultKind = 0) := bo_0.mp c_13
        exact absurd c_3 c_13
      · skip
        have c_13 : mfaultKind = 0 := bo_1.mp c_13
        refine lv_aload_n hx hb dX11_number_27 rfl (lv_at hl 0 rfl) ?_
        refine x_get S hK hP 0 rfl cfX11 11 lkX11_133 (by decide) rfl dX11_number_28 ?_
        refine lv_i2l (v := mvalue.toInt64) hx hb dX11_number_31 rfl ?_
        refine lv_iload_n hx hb dX11_number_32 rfl (lv_at hl 1 rfl) ?_
        refine lv_i2l (v := p0.toInt64) hx hb dX11_number_33 rfl ?_
        refine lv_iload_n hx hb dX11_number_34 rfl (lv_at hl 2 rfl) ?_
        refine lv_i2l (v := p1.toInt64) hx hb dX11_number_35 rfl ?_
        refine x_roSi (As := [.long mvalue.toInt64, .long p0.toInt64, .long p1.toInt64]) S hK hP hD hZ (fun _ h => h) hA hS hA hl mwX11_in lkX11_91 (ctX11_in l D k z mvalue.toInt64 p0.toInt64 p1.toInt64 ) [] rfl (by decide) rfl rfl ⟨Nat.le_of_ble_eq_true rfl, Nat.le_of_ble_eq_true rfl, Nat.le_of_ble_eq_true rfl⟩ dX11_number_36 ⟨Nat.le_of_ble_eq_true rfl, Nat.le_of_ble_eq_true rfl⟩ (fun r_14 H locs hr_14 hP hS => ?_)
        obtain rfl := hr_14
        refine lv_if_ne (tgt := 47) hx hb dX11_number_39 (by decide) (fun c_16 => ?_) (fun c_16 => ?_)
        · skip
          have c_16 : p0.toInt64 ≤ mvalue.toInt64 ∧ mvalue.toInt64 ≤ p1.toInt64 := bo_1.mp c_16
          refine lv_aload_n hx hb dX11_number_47 rfl (lv_at hl 0 rfl) ?_
          refine x_roVi (As := []) S hK hP hD hZ (fun _ h => h) hA hS hA hl mwX11_good lkX11_146 (ctX11_good l D k z n mthrown mtaped msize mat mfrom mtoken mvalue mfaultKind mfaultPlace mmoreMany mlawNow mwetSet moverAll mones mtwos mgone mroundNow msampleFor msampleAll maskWorst moftenAll moftenView moftenOnes (by omega) (by omega) (by omega) (by omega) (by omega)) [0] rfl (by decide) rfl rfl rfl rfl rfl ⟨Nat.le_of_ble_eq_true rfl, Nat.le_of_ble_eq_true rfl, Nat.le_of_ble_eq_true rfl⟩ dX11_number_48 ⟨Nat.le_of_ble_eq_true rfl, Nat.le_of_ble_eq_true rfl⟩ (fun r_17 H locs hr_17 hP hS => ?_)
          obtain rfl := hr_17
          refine lv_if_ne (tgt := 56) hx hb dX11_number_51 (by decide) (fun c_19 => ?_) (fun c_19 => ?_)
          · skip
            have c_19 : mfaultKind = 0 := bo_1.mp c_19
            refine lv_aload_n hx hb dX11_number_56 rfl (lv_at hl 0 rfl) ?_
            refine x_get S hK hP 0 rfl cfX11 11 lkX11_133 (by decide) rfl dX11_number_57 ?_
            refine lv_istore_n (lv' := [(3, .int mvalue), (0, .ref (n 0)), (1, .int p0), (2, .int p1)]) hx hb dX11_number_60 rfl hl (by decide) rfl (fun ls hl => ?_)
            refine lv_aload_n hx hb dX11_number_61 rfl (lv_at hl 1 rfl) ?_
            refine x_muVv (wr := []) (As := []) S hK hP hD hZ hS hA hl mwX11_advance lkX11_162 (ctX11_advance l D k z n mthrown mtaped msize mat mfrom mtoken mvalue mfaultKind mfaultPlace mmoreMany mlawNow mwetSet moverAll mones mtwos mgone mroundNow msampleFor msampleAll maskWorst moftenAll moftenView moftenOnes ftape (by omega) (by omega) (by omega) (by omega) (by omega)) [0, 1] [] rfl rfl (by decide) (by decide) (by decide) rfl rfl rfl rfl rfl ⟨Nat.le_of_ble_eq_true rfl, Nat.le_of_ble_eq_true rfl, Nat.le_of_ble_eq_true rfl⟩ dX11_number_62 ⟨Nat.le_of_ble_eq_true rfl, Nat.le_of_ble_eq_true rfl⟩ (fun u_21 H locs hr_20 hP hD hS => ?_)
            have hP : va_P D vwCl [((n 0), .inr (11, [.int mthrown, .ref (n 1), .ref (n 2), .ref (n 3), .ref (n 4), .int (nI mtaped), .ref (n 5), .int (nI msize), .int (nI (u_21.2.1 0)), .int (nI (u_21.2.1 1)), .int (u_21.1 0), .int (u_21.1 1), .int mfaultKind, .int mfaultPlace, .ref (n 6), .ref (n 7), .ref (n 8), .ref (n 9), .ref (n 10), .ref (n 11), .ref (n 12), .int (nI mmoreMany), .int mlawNow, .int mwetSet, .int moverAll, .ref (n 13), .ref (n 14), .ref (n 15), .int mones, .int mtwos, .int mgone, .ref (n 16), .ref (n 17), .int mroundNow, .ref (n 18), .long msampleFor, .long msampleAll, .ref (n 19), .int maskWorst, .long moftenAll, .long moftenView, .long moftenOnes, .ref (n 20), .ref (n 21), .ref (n 22), .ref (n 23)])), ((n 4), .inl (k 1, 600, .inl ftape))] H := hP.sub [0, 1] rfl
            have hD : va_D A [((n 0), .inr (11, [.int mthrown, .ref (n 1), .ref (n 2), .ref (n 3), .ref (n 4), .int (nI mtaped), .ref (n 5), .int (nI msize), .int (nI (u_21.2.1 0)), .int (nI (u_21.2.1 1)), .int (u_21.1 0), .int (u_21.1 1), .int mfaultKind, .int mfaultPlace, .ref (n 6), .ref (n 7), .ref (n 8), .ref (n 9), .ref (n 10), .ref (n 11), .ref (n 12), .int (nI mmoreMany), .int mlawNow, .int mwetSet, .int moverAll, .ref (n 13), .ref (n 14), .ref (n 15), .int mones, .int mtwos, .int mgone, .ref (n 16), .ref (n 17), .int mroundNow, .ref (n 18), .long msampleFor, .long msampleAll, .ref (n 19), .int maskWorst, .long moftenAll, .long moftenView, .long moftenOnes, .ref (n 20), .ref (n 21), .ref (n 22), .ref (n 23)])), ((n 4), .inl (k 1, 600, .inl ftape))] := hD.sub [0, 1] (by decide) rfl
            obtain ⟨hg_22, hg_23, hg_24⟩ := hr_20
            refine lv_iload_n hx hb dX11_number_65 rfl (lv_at hl 0 rfl) ?_
            exact x_reti S hr hlk hQ hS ((fun i => ([(u_21.1 0), (u_21.1 1), mfaultKind, mfaultPlace] : List (Int32)).getD i 0), (fun i => ([u_21.2.1 0, u_21.2.1 1] : List (Nat)).getD i 0), (fun i => ([] : List (Nat → Int32)).getD i (fun _ => 0)), (fun i => ([] : List (Nat → Int64)).getD i (fun _ => 0)), (fun i => ([] : List (Int64)).getD i 0)) ⟨(show u_21.2.1 0 ≤ 600 by omega), (show u_21.2.1 1 ≤ 600 by omega), (show mfrom ≤ u_21.2.1 1 ∧ u_21.2.1 1 ≤ u_21.2.1 0 by omega), (fun hz => (show mfaultKind = 0 ∧ mfrom ≤ u_21.2.1 1 by exact ⟨hz, by omega⟩))⟩ (x_B hP hD) dX11_number_66
          · skip
            have c_19 : ¬ (mfaultKind = 0) := bo_0.mp c_19
            exact absurd c_13 c_19
        · skip
          have c_16 : ¬ (p0.toInt64 ≤ mvalue.toInt64 ∧ mvalue.toInt64 ≤ p1.toInt64) := bo_0.mp c_16
          refine lv_aload_n hx hb dX11_number_42 rfl (lv_at hl 0 rfl) ?_
          refine lv_iconst (v := 2) hx hb dX11_number_43 (by decide) ?_
          refine x_muVv (wr := [((n 4), .inl (k 1, 600, .inl ftape))]) (As := [.int 2]) S hK hP hD hZ hS hA hl mwX11_errs lkX11_168 (ctX11_errs l D k z n mthrown mtaped msize mat mfrom mtoken mvalue mfaultKind mfaultPlace mmoreMany mlawNow mwetSet moverAll mones mtwos mgone mroundNow msampleFor msampleAll maskWorst moftenAll moftenView moftenOnes 2 (by omega) (by omega) (by omega) (by omega) (by omega) (by omega) (by omega)) [0] [1] rfl rfl (by decide) (by decide) (by decide) rfl rfl rfl rfl rfl ⟨Nat.le_of_ble_eq_true rfl, Nat.le_of_ble_eq_true rfl, Nat.le_of_ble_eq_true rfl⟩ dX11_number_44 ⟨Nat.le_of_ble_eq_true rfl, Nat.le_of_ble_eq_true rfl⟩ (fun u_26 H locs hr_25 hP hD hS => ?_)
          have hP : va_P D vwCl [((n 0), .inr (11, [.int mthrown, .ref (n 1), .ref (n 2), .ref (n 3), .ref (n 4), .int (nI mtaped), .ref (n 5), .int (nI msize), .int (nI mat), .int (nI mfrom), .int mtoken, .int mvalue, .int (u_26.1 0), .int (u_26.1 1), .ref (n 6), .ref (n 7), .ref (n 8), .ref (n 9), .ref (n 10), .ref (n 11), .ref (n 12), .int (nI mmoreMany), .int mlawNow, .int mwetSet, .int moverAll, .ref (n 13), .ref (n 14), .ref (n 15), .int mones, .int mtwos, .int mgone, .ref (n 16), .ref (n 17), .int mroundNow, .ref (n 18), .long msampleFor, .long msampleAll, .ref (n 19), .int maskWorst, .long moftenAll, .long moftenView, .long moftenOnes, .ref (n 20), .ref (n 21), .ref (n 22), .ref (n 23)])), ((n 4), .inl (k 1, 600, .inl ftape))] H := hP.sub [1, 0] rfl
          have hD : va_D A [((n 0), .inr (11, [.int mthrown, .ref (n 1), .ref (n 2), .ref (n 3), .ref (n 4), .int (nI mtaped), .ref (n 5), .int (nI msize), .int (nI mat), .int (nI mfrom), .int mtoken, .int mvalue, .int (u_26.1 0), .int (u_26.1 1), .ref (n 6), .ref (n 7), .ref (n 8), .ref (n 9), .ref (n 10), .ref (n 11), .ref (n 12), .int (nI mmoreMany), .int mlawNow, .int mwetSet, .int moverAll, .ref (n 13), .ref (n 14), .ref (n 15), .int mones, .int mtwos, .int mgone, .ref (n 16), .ref (n 17), .int mroundNow, .ref (n 18), .long msampleFor, .long msampleAll, .ref (n 19), .int maskWorst, .long moftenAll, .long moftenView, .long moftenOnes, .ref (n 20), .ref (n 21), .ref (n 22), .ref (n 23)])), ((n 4), .inl (k 1, 600, .inl ftape))] := hD.sub [1, 0] (by decide) rfl
          have hg_27 := hr_25
          refine lv_aload_n hx hb dX11_number_47 rfl (lv_at hl 0 rfl) ?_
          refine x_roVi (As := []) S hK hP hD hZ (fun _ h => h) hA hS hA hl mwX11_good lkX11_146 (ctX11_good l D k z n mthrown mtaped msize mat mfrom mtoken mvalue (u_26.1 0) (u_26.1 1) mmoreMany mlawNow mwetSet moverAll mones mtwos mgone mroundNow msampleFor msampleAll maskWorst moftenAll moftenView moftenOnes (by omega) (by omega) (by omega) (by omega) (by omega)) [0] rfl (by decide) rfl rfl rfl rfl rfl ⟨Nat.le_of_ble_eq_true rfl, Nat.le_of_ble_eq_true rfl, Nat.le_of_ble_eq_true rfl⟩ dX11_number_48 ⟨Nat.le_of_ble_eq_true rfl, Nat.le_of_ble_eq_true rfl⟩ (fun r_28 H locs hr_28 hP hS => ?_)
          obtain rfl := hr_28
          refine lv_if_ne (tgt := 56) hx hb dX11_number_51 (by decide) (fun c_30 => ?_) (fun c_30 => ?_)
          · skip
            have c_30 : (u_26.1 0) = 0 := bo_1.mp c_30
            exact absurd c_30 hg_27
          · skip
            have c_30 : ¬ ((u_26.1 0) = 0) := bo_0.mp c_30
            refine lv_iconst (v := 0) hx hb dX11_number_54 (by decide) ?_
            exact x_reti S hr hlk hQ hS ((fun i => ([mtoken, mvalue, (u_26.1 0), (u_26.1 1)] : List (Int32)).getD i 0), (fun i => ([mat, mfrom] : List (Nat)).getD i 0), (fun i => ([] : List (Nat → Int32)).getD i (fun _ => 0)), (fun i => ([] : List (Nat → Int64)).getD i (fun _ => 0)), (fun i => ([] : List (Int64)).getD i 0)) ⟨(show mat ≤ 600 by omega), (show mfrom ≤ 600 by omega), (show mfrom ≤ mfrom ∧ mfrom ≤ mat by omega), (fun hz => absurd hz c_30)⟩ (x_B hP hD) dX11_number_55
    · skip
      refine lv_aload_n hx hb dX11_number_15 rfl (lv_at hl 0 rfl) ?_
      refine lv_iconst (v := 1) hx hb dX11_number_16 (by decide) ?_
      refine x_muVv (wr := [((n 4), .inl (k 1, 600, .inl ftape))]) (As := [.int 1]) S hK hP hD hZ hS hA hl mwX11_errs lkX11_168 (ctX11_errs l D k z n mthrown mtaped msize mat mfrom mtoken mvalue mfaultKind mfaultPlace mmoreMany mlawNow mwetSet moverAll mones mtwos mgone mroundNow msampleFor msampleAll maskWorst moftenAll moftenView moftenOnes 1 (by omega) (by omega) (by omega) (by omega) (by omega) (by omega) (by omega)) [0] [1] rfl rfl (by decide) (by decide) (by decide) rfl rfl rfl rfl rfl ⟨Nat.le_of_ble_eq_true rfl, Nat.le_of_ble_eq_true rfl, Nat.le_of_ble_eq_true rfl⟩ dX11_number_17 ⟨Nat.le_of_ble_eq_true rfl, Nat.le_of_ble_eq_true rfl⟩ (fun u_32 H locs hr_31 hP hD hS => ?_)
      have hP : va_P D vwCl [((n 0), .inr (11, [.int mthrown, .ref (n 1), .ref (n 2), .ref (n 3), .ref (n 4), .int (nI mtaped), .ref (n 5), .int (nI msize), .int (nI mat), .int (nI mfrom), .int mtoken, .int mvalue, .int (u_32.1 0), .int (u_32.1 1), .ref (n 6), .ref (n 7), .ref (n 8), .ref (n 9), .ref (n 10), .ref (n 11), .ref (n 12), .int (nI mmoreMany), .int mlawNow, .int mwetSet, .int moverAll, .ref (n 13), .ref (n 14), .ref (n 15), .int mones, .int mtwos, .int mgone, .ref (n 16), .ref (n 17), .int mroundNow, .ref (n 18), .long msampleFor, .long msampleAll, .ref (n 19), .int maskWorst, .long moftenAll, .long moftenView, .long moftenOnes, .ref (n 20), .ref (n 21), .ref (n 22), .ref (n 23)])), ((n 4), .inl (k 1, 600, .inl ftape))] H := hP.sub [1, 0] rfl
      have hD : va_D A [((n 0), .inr (11, [.int mthrown, .ref (n 1), .ref (n 2), .ref (n 3), .ref (n 4), .int (nI mtaped), .ref (n 5), .int (nI msize), .int (nI mat), .int (nI mfrom), .int mtoken, .int mvalue, .int (u_32.1 0), .int (u_32.1 1), .ref (n 6), .ref (n 7), .ref (n 8), .ref (n 9), .ref (n 10), .ref (n 11), .ref (n 12), .int (nI mmoreMany), .int mlawNow, .int mwetSet, .int moverAll, .ref (n 13), .ref (n 14), .ref (n 15), .int mones, .int mtwos, .int mgone, .ref (n 16), .ref (n 17), .int mroundNow, .ref (n 18), .long msampleFor, .long msampleAll, .ref (n 19), .int maskWorst, .long moftenAll, .long moftenView, .long moftenOnes, .ref (n 20), .ref (n 21), .ref (n 22), .ref (n 23)])), ((n 4), .inl (k 1, 600, .inl ftape))] := hD.sub [1, 0] (by decide) rfl
      have hg_33 := hr_31
      refine lv_aload_n hx hb dX11_number_20 rfl (lv_at hl 0 rfl) ?_
      refine x_roVi (As := []) S hK hP hD hZ (fun _ h => h) hA hS hA hl mwX11_good lkX11_146 (ctX11_good l D k z n mthrown mtaped msize mat mfrom mtoken mvalue (u_32.1 0) (u_32.1 1) mmoreMany mlawNow mwetSet moverAll mones mtwos mgone mroundNow msampleFor msampleAll maskWorst moftenAll moftenView moftenOnes (by omega) (by omega) (by omega) (by omega) (by omega)) [0] rfl (by decide) rfl rfl rfl rfl rfl ⟨Nat.le_of_ble_eq_true rfl, Nat.le_of_ble_eq_true rfl, Nat.le_of_ble_eq_true rfl⟩ dX11_number_21 ⟨Nat.le_of_ble_eq_true rfl, Nat.le_of_ble_eq_true rfl⟩ (fun r_34 H locs hr_34 hP hS => ?_)
      obtain rfl := hr_34
      refine lv_if_eq (tgt := 47) hx hb dX11_number_24 (by decide) (fun c_36 => ?_) (fun c_36 => ?_)
      · skip
        have c_36 : ¬ ((u_32.1 0) = 0) := bo_0.mp c_36
        refine lv_aload_n hx hb dX11_number_47 rfl (lv_at hl 0 rfl) ?_
        refine x_roVi (As := []) S hK hP hD hZ (fun _ h => h) hA hS hA hl mwX11_good lkX11_146 (ctX11_good l D k z n mthrown mtaped msize mat mfrom mtoken mvalue (u_32.1 0) (u_32.1 1) mmoreMany mlawNow mwetSet moverAll mones mtwos mgone mroundNow msampleFor msampleAll maskWorst moftenAll moftenView moftenOnes (by omega) (by omega) (by omega) (by omega) (by omega)) [0] rfl (by decide) rfl rfl rfl rfl rfl ⟨Nat.le_of_ble_eq_true rfl, Nat.le_of_ble_eq_true rfl, Nat.le_of_ble_eq_true rfl⟩ dX11_number_48 ⟨Nat.le_of_ble_eq_true rfl, Nat.le_of_ble_eq_true rfl⟩ (fun r_37 H locs hr_37 hP hS => ?_)
        obtain rfl := hr_37
        refine lv_if_ne (tgt := 56) hx hb dX11_number_51 (by decide) (fun c_39 => ?_) (fun c_39 => ?_)
        · skip
          have c_39 : (u_32.1 0) = 0 := bo_1.mp c_39
          exact absurd c_39 c_36
        · skip
          have c_39 : ¬ ((u_32.1 0) = 0) := bo_0.mp c_39
          refine lv_iconst (v := 0) hx hb dX11_number_54 (by decide) ?_
          exact x_reti S hr hlk hQ hS ((fun i => ([mtoken, mvalue, (u_32.1 0), (u_32.1 1)] : List (Int32)).getD i 0), (fun i => ([mat, mfrom] : List (Nat)).getD i 0), (fun i => ([] : List (Nat → Int32)).getD i (fun _ => 0)), (fun i => ([] : List (Nat → Int64)).getD i (fun _ => 0)), (fun i => ([] : List (Int64)).getD i 0)) ⟨(show mat ≤ 600 by omega), (show mfrom ≤ 600 by omega), (show mfrom ≤ mfrom ∧ mfrom ≤ mat by omega), (fun hz => absurd hz c_39)⟩ (x_B hP hD) dX11_number_55
      · skip
        have c_36 : (u_32.1 0) = 0 := bo_1.mp c_36
        exact absurd c_36 hg_33

set_option maxHeartbeats 4000000 in
set_option maxRecDepth 100000 in
theorem ctX11_told_n (l : Launch) (D : va_G) (k : Nat → ClassId) (z : Nat → Nat) (n : Nat → Nat) (mthrown : Int32) (mtaped : Nat) (msize : Nat) (mat : Nat) (mfrom : Nat) (mtoken : Int32) (mvalue : Int32) (mfaultKind : Int32) (mfaultPlace : Int32) (mmoreMany : Nat) (mlawNow : Int32) (mwetSet : Int32) (moverAll : Int32) (mones : Int32) (mtwos : Int32) (mgone : Int32) (mroundNow : Int32) (msampleFor : Int64) (msampleAll : Int64) (maskWorst : Int32) (moftenAll : Int64) (moftenView : Int64) (moftenOnes : Int64) (ftape : Nat → Int32) (i : Nat) (p1 : Nat) (p2 : Nat) (hmtaped : mtaped ≤ 600) (hmsize : msize ≤ 600) (hmat : mat ≤ 600) (hmfrom : mfrom ≤ 600) (hmmoreMany : mmoreMany ≤ 14) (hi : i < 11) (hp1 : p1 ≤ 2147483647) (hp2 : p2 ≤ 2147483647) (hfa : mfrom ≤ mat) : MU l yX11_told cX11_told 4 (some .int) 7 D k z [.ref (n 0), .ref (z i), .int (nI p1), .int (nI p2)] [((n 0), .inr (11, [.int mthrown, .ref (n 1), .ref (n 2), .ref (n 3), .ref (n 4), .int (nI mtaped), .ref (n 5), .int (nI msize), .int (nI mat), .int (nI mfrom), .int mtoken, .int mvalue, .int mfaultKind, .int mfaultPlace, .ref (n 6), .ref (n 7), .ref (n 8), .ref (n 9), .ref (n 10), .ref (n 11), .ref (n 12), .int (nI mmoreMany), .int mlawNow, .int mwetSet, .int moverAll, .ref (n 13), .ref (n 14), .ref (n 15), .int mones, .int mtwos, .int mgone, .ref (n 16), .ref (n 17), .int mroundNow, .ref (n 18), .long msampleFor, .long msampleAll, .ref (n 19), .int maskWorst, .long moftenAll, .long moftenView, .long moftenOnes, .ref (n 20), .ref (n 21), .ref (n 22), .ref (n 23)])), ((n 4), .inl (k 1, 600, .inl ftape))] 0 0 (Ui D (fun (r : Int32) (u : (Nat → Int32) × (Nat → Nat) × (Nat → Nat → Int32) × (Nat → Nat → Int64) × (Nat → Int64)) => (∃ q : Nat, r = nI q ∧ q ≤ p2) ∧ (u.2.1 0 ≤ 600) ∧ (u.2.1 1 ≤ 600) ∧ (mfrom ≤ (u.2.1 1) ∧ (u.2.1 1) ≤ (u.2.1 0)) ∧ ((u.1 2) = 0 → mfaultKind = 0 ∧ mfrom < (u.2.1 1) ∧ isW mfaultKind mtoken mat mfrom ftape i)) (fun u : (Nat → Int32) × (Nat → Nat) × (Nat → Nat → Int32) × (Nat → Nat → Int64) × (Nat → Int64) => [((n 0), .inr (11, [.int mthrown, .ref (n 1), .ref (n 2), .ref (n 3), .ref (n 4), .int (nI mtaped), .ref (n 5), .int (nI msize), .int (nI (u.2.1 0)), .int (nI (u.2.1 1)), .int (u.1 0), .int (u.1 1), .int (u.1 2), .int (u.1 3), .ref (n 6), .ref (n 7), .ref (n 8), .ref (n 9), .ref (n 10), .ref (n 11), .ref (n 12), .int (nI mmoreMany), .int mlawNow, .int mwetSet, .int moverAll, .ref (n 13), .ref (n 14), .ref (n 15), .int mones, .int mtwos, .int mgone, .ref (n 16), .ref (n 17), .int mroundNow, .ref (n 18), .long msampleFor, .long msampleAll, .ref (n 19), .int maskWorst, .long moftenAll, .long moftenView, .long moftenOnes, .ref (n 20), .ref (n 21), .ref (n 22), .ref (n 23)])), ((n 4), .inl (k 1, 600, .inl ftape))])) := by
  refine MU.of (by decide) (Nat.le_of_ble_eq_true rfl) ?_
  intro p e s m below meth c ls A args Q S hr hlk hnm hQ hK hP hD hZ hA hS hl
  have hx := S.1
  have hb := S.2.1
  have hsl := sl_lt i
  have hl : lv_has ls 4 [(0, .ref (n 0)), (1, .ref (z i)), (2, .int (nI p1)), (3, .int (nI p2))] := hl
  refine lv_aload_n hx hb dX11_told_0 rfl (lv_at hl 0 rfl) ?_
  refine lv_aload_n hx hb dX11_told_1 rfl (lv_at hl 1 rfl) ?_
  refine x_muVv (wr := []) (As := [.ref (z i)]) S hK hP hD hZ hS hA hl mwX11_expects lkX11_172 (ctX11_expects l D k z n mthrown mtaped msize mat mfrom mtoken mvalue mfaultKind mfaultPlace mmoreMany mlawNow mwetSet moverAll mones mtwos mgone mroundNow msampleFor msampleAll maskWorst moftenAll moftenView moftenOnes ftape i (by omega) (by omega) (by omega) (by omega) (by omega) (by omega) (by omega)) [0, 1] [] rfl rfl (by decide) (by decide) (by decide) rfl rfl rfl rfl rfl ⟨Nat.le_of_ble_eq_true rfl, Nat.le_of_ble_eq_true rfl, Nat.le_of_ble_eq_true rfl⟩ dX11_told_2 ⟨Nat.le_of_ble_eq_true rfl, Nat.le_of_ble_eq_true rfl⟩ (fun u_2 H locs hr_1 hP hD hS => ?_)
  have hP : va_P D vwCl [((n 0), .inr (11, [.int mthrown, .ref (n 1), .ref (n 2), .ref (n 3), .ref (n 4), .int (nI mtaped), .ref (n 5), .int (nI msize), .int (nI (u_2.2.1 0)), .int (nI (u_2.2.1 1)), .int (u_2.1 0), .int (u_2.1 1), .int (u_2.1 2), .int (u_2.1 3), .ref (n 6), .ref (n 7), .ref (n 8), .ref (n 9), .ref (n 10), .ref (n 11), .ref (n 12), .int (nI mmoreMany), .int mlawNow, .int mwetSet, .int moverAll, .ref (n 13), .ref (n 14), .ref (n 15), .int mones, .int mtwos, .int mgone, .ref (n 16), .ref (n 17), .int mroundNow, .ref (n 18), .long msampleFor, .long msampleAll, .ref (n 19), .int maskWorst, .long moftenAll, .long moftenView, .long moftenOnes, .ref (n 20), .ref (n 21), .ref (n 22), .ref (n 23)])), ((n 4), .inl (k 1, 600, .inl ftape))] H := hP.sub [0, 1] rfl
  have hD : va_D A [((n 0), .inr (11, [.int mthrown, .ref (n 1), .ref (n 2), .ref (n 3), .ref (n 4), .int (nI mtaped), .ref (n 5), .int (nI msize), .int (nI (u_2.2.1 0)), .int (nI (u_2.2.1 1)), .int (u_2.1 0), .int (u_2.1 1), .int (u_2.1 2), .int (u_2.1 3), .ref (n 6), .ref (n 7), .ref (n 8), .ref (n 9), .ref (n 10), .ref (n 11), .ref (n 12), .int (nI mmoreMany), .int mlawNow, .int mwetSet, .int moverAll, .ref (n 13), .ref (n 14), .ref (n 15), .int mones, .int mtwos, .int mgone, .ref (n 16), .ref (n 17), .int mroundNow, .ref (n 18), .long msampleFor, .long msampleAll, .ref (n 19), .int maskWorst, .long moftenAll, .long moftenView, .long moftenOnes, .ref (n 20), .ref (n 21), .ref (n 22), .ref (n 23)])), ((n 4), .inl (k 1, 600, .inl ftape))] := hD.sub [0, 1] (by decide) rfl
  obtain ⟨hg_3, hg_4, hg_5, hg_6⟩ := hr_1
  refine lv_aload_n hx hb dX11_told_5 rfl (lv_at hl 0 rfl) ?_
  refine lv_iload_n hx hb dX11_told_6 rfl (lv_at hl 2 rfl) ?_
  refine lv_iload_n hx hb dX11_told_7 rfl (lv_at hl 3 rfl) ?_
  refine x_muVi (wr := []) (As := [.int (nI p1), .int (nI p2)]) S hK hP hD hZ hS hA hl mwX11_number lkX11_176 (ctX11_number_n l D k z n mthrown mtaped msize (u_2.2.1 0) (u_2.2.1 1) (u_2.1 0) (u_2.1 1) (u_2.1 2) (u_2.1 3) mmoreMany mlawNow mwetSet moverAll mones mtwos mgone mroundNow msampleFor msampleAll maskWorst moftenAll moftenView moftenOnes ftape p1 p2 (by omega) (by omega) (by omega) (by omega) (by omega) (by omega) (by omega) (by omega)) [0, 1] [] rfl rfl (by decide) (by decide) (by decide) rfl rfl rfl rfl rfl ⟨Nat.le_of_ble_eq_true rfl, Nat.le_of_ble_eq_true rfl, Nat.le_of_ble_eq_true rfl⟩ dX11_told_8 ⟨Nat.le_of_ble_eq_true rfl, Nat.le_of_ble_eq_true rfl⟩ (fun r_7 u_8 H locs hr_7 hP hD hS => ?_)
  have hP : va_P D vwCl [((n 0), .inr (11, [.int mthrown, .ref (n 1), .ref (n 2), .ref (n 3), .ref (n 4), .int (nI mtaped), .ref (n 5), .int (nI msize), .int (nI (u_8.2.1 0)), .int (nI (u_8.2.1 1)), .int (u_8.1 0), .int (u_8.1 1), .int (u_8.1 2), .int (u_8.1 3), .ref (n 6), .ref (n 7), .ref (n 8), .ref (n 9), .ref (n 10), .ref (n 11), .ref (n 12), .int (nI mmoreMany), .int mlawNow, .int mwetSet, .int moverAll, .ref (n 13), .ref (n 14), .ref (n 15), .int mones, .int mtwos, .int mgone, .ref (n 16), .ref (n 17), .int mroundNow, .ref (n 18), .long msampleFor, .long msampleAll, .ref (n 19), .int maskWorst, .long moftenAll, .long moftenView, .long moftenOnes, .ref (n 20), .ref (n 21), .ref (n 22), .ref (n 23)])), ((n 4), .inl (k 1, 600, .inl ftape))] H := hP.sub [0, 1] rfl
  have hD : va_D A [((n 0), .inr (11, [.int mthrown, .ref (n 1), .ref (n 2), .ref (n 3), .ref (n 4), .int (nI mtaped), .ref (n 5), .int (nI msize), .int (nI (u_8.2.1 0)), .int (nI (u_8.2.1 1)), .int (u_8.1 0), .int (u_8.1 1), .int (u_8.1 2), .int (u_8.1 3), .ref (n 6), .ref (n 7), .ref (n 8), .ref (n 9), .ref (n 10), .ref (n 11), .ref (n 12), .int (nI mmoreMany), .int mlawNow, .int mwetSet, .int moverAll, .ref (n 13), .ref (n 14), .ref (n 15), .int mones, .int mtwos, .int mgone, .ref (n 16), .ref (n 17), .int mroundNow, .ref (n 18), .long msampleFor, .long msampleAll, .ref (n 19), .int maskWorst, .long moftenAll, .long moftenView, .long moftenOnes, .ref (n 20), .ref (n 21), .ref (n 22), .ref (n 23)])), ((n 4), .inl (k 1, 600, .inl ftape))] := hD.sub [0, 1] (by decide) rfl
  obtain ⟨⟨n_9, rfl, hn_9⟩, hg_10, hg_11, hg_12, hg_13⟩ := hr_7
  exact x_reti S hr hlk hQ hS ((fun i => ([(u_8.1 0), (u_8.1 1), (u_8.1 2), (u_8.1 3)] : List (Int32)).getD i 0), (fun i => ([u_8.2.1 0, u_8.2.1 1] : List (Nat)).getD i 0), (fun i => ([] : List (Nat → Int32)).getD i (fun _ => 0)), (fun i => ([] : List (Nat → Int64)).getD i (fun _ => 0)), (fun i => ([] : List (Int64)).getD i 0)) ⟨⟨n_9, rfl, (by omega)⟩, (show u_8.2.1 0 ≤ 600 by omega), (show u_8.2.1 1 ≤ 600 by omega), (show mfrom ≤ u_8.2.1 1 ∧ u_8.2.1 1 ≤ u_8.2.1 0 by omega), (fun hz => (show mfaultKind = 0 ∧ mfrom < u_8.2.1 1 ∧ isW mfaultKind mtoken mat mfrom ftape i by have k_14 := hg_13 hz; have k_15 := hg_6 k_14.1; exact ⟨k_15.1, by omega, k_15.2.2⟩))⟩ (x_B hP hD) dX11_told_11

set_option maxHeartbeats 4000000 in
set_option maxRecDepth 100000 in
theorem ctX11_told (l : Launch) (D : va_G) (k : Nat → ClassId) (z : Nat → Nat) (n : Nat → Nat) (mthrown : Int32) (mtaped : Nat) (msize : Nat) (mat : Nat) (mfrom : Nat) (mtoken : Int32) (mvalue : Int32) (mfaultKind : Int32) (mfaultPlace : Int32) (mmoreMany : Nat) (mlawNow : Int32) (mwetSet : Int32) (moverAll : Int32) (mones : Int32) (mtwos : Int32) (mgone : Int32) (mroundNow : Int32) (msampleFor : Int64) (msampleAll : Int64) (maskWorst : Int32) (moftenAll : Int64) (moftenView : Int64) (moftenOnes : Int64) (ftape : Nat → Int32) (i : Nat) (p1 : Int32) (p2 : Int32) (hmtaped : mtaped ≤ 600) (hmsize : msize ≤ 600) (hmat : mat ≤ 600) (hmfrom : mfrom ≤ 600) (hmmoreMany : mmoreMany ≤ 14) (hi : i < 11) (hfa : mfrom ≤ mat) : MU l yX11_told cX11_told 4 (some .int) 7 D k z [.ref (n 0), .ref (z i), .int p1, .int p2] [((n 0), .inr (11, [.int mthrown, .ref (n 1), .ref (n 2), .ref (n 3), .ref (n 4), .int (nI mtaped), .ref (n 5), .int (nI msize), .int (nI mat), .int (nI mfrom), .int mtoken, .int mvalue, .int mfaultKind, .int mfaultPlace, .ref (n 6), .ref (n 7), .ref (n 8), .ref (n 9), .ref (n 10), .ref (n 11), .ref (n 12), .int (nI mmoreMany), .int mlawNow, .int mwetSet, .int moverAll, .ref (n 13), .ref (n 14), .ref (n 15), .int mones, .int mtwos, .int mgone, .ref (n 16), .ref (n 17), .int mroundNow, .ref (n 18), .long msampleFor, .long msampleAll, .ref (n 19), .int maskWorst, .long moftenAll, .long moftenView, .long moftenOnes, .ref (n 20), .ref (n 21), .ref (n 22), .ref (n 23)])), ((n 4), .inl (k 1, 600, .inl ftape))] 0 0 (Ui D (fun (r : Int32) (u : (Nat → Int32) × (Nat → Nat) × (Nat → Nat → Int32) × (Nat → Nat → Int64) × (Nat → Int64)) => (u.2.1 0 ≤ 600) ∧ (u.2.1 1 ≤ 600) ∧ (mfrom ≤ (u.2.1 1) ∧ (u.2.1 1) ≤ (u.2.1 0)) ∧ ((u.1 2) = 0 → mfaultKind = 0 ∧ mfrom < (u.2.1 1) ∧ isW mfaultKind mtoken mat mfrom ftape i)) (fun u : (Nat → Int32) × (Nat → Nat) × (Nat → Nat → Int32) × (Nat → Nat → Int64) × (Nat → Int64) => [((n 0), .inr (11, [.int mthrown, .ref (n 1), .ref (n 2), .ref (n 3), .ref (n 4), .int (nI mtaped), .ref (n 5), .int (nI msize), .int (nI (u.2.1 0)), .int (nI (u.2.1 1)), .int (u.1 0), .int (u.1 1), .int (u.1 2), .int (u.1 3), .ref (n 6), .ref (n 7), .ref (n 8), .ref (n 9), .ref (n 10), .ref (n 11), .ref (n 12), .int (nI mmoreMany), .int mlawNow, .int mwetSet, .int moverAll, .ref (n 13), .ref (n 14), .ref (n 15), .int mones, .int mtwos, .int mgone, .ref (n 16), .ref (n 17), .int mroundNow, .ref (n 18), .long msampleFor, .long msampleAll, .ref (n 19), .int maskWorst, .long moftenAll, .long moftenView, .long moftenOnes, .ref (n 20), .ref (n 21), .ref (n 22), .ref (n 23)])), ((n 4), .inl (k 1, 600, .inl ftape))])) := by
  refine MU.of (by decide) (Nat.le_of_ble_eq_true rfl) ?_
  intro p e s m below meth c ls A args Q S hr hlk hnm hQ hK hP hD hZ hA hS hl
  have hx := S.1
  have hb := S.2.1
  have hsl := sl_lt i
  have hl : lv_has ls 4 [(0, .ref (n 0)), (1, .ref (z i)), (2, .int p1), (3, .int p2)] := hl
  refine lv_aload_n hx hb dX11_told_0 rfl (lv_at hl 0 rfl) ?_
  refine lv_aload_n hx hb dX11_told_1 rfl (lv_at hl 1 rfl) ?_
  refine x_muVv (wr := []) (As := [.ref (z i)]) S hK hP hD hZ hS hA hl mwX11_expects lkX11_172 (ctX11_expects l D k z n mthrown mtaped msize mat mfrom mtoken mvalue mfaultKind mfaultPlace mmoreMany mlawNow mwetSet moverAll mones mtwos mgone mroundNow msampleFor msampleAll maskWorst moftenAll moftenView moftenOnes ftape i (by omega) (by omega) (by omega) (by omega) (by omega) (by omega) (by omega)) [0, 1] [] rfl rfl (by decide) (by decide) (by decide) rfl rfl rfl rfl rfl ⟨Nat.le_of_ble_eq_true rfl, Nat.le_of_ble_eq_true rfl, Nat.le_of_ble_eq_true rfl⟩ dX11_told_2 ⟨Nat.le_of_ble_eq_true rfl, Nat.le_of_ble_eq_true rfl⟩ (fun u_2 H locs hr_1 hP hD hS => ?_)
  have hP : va_P D vwCl [((n 0), .inr (11, [.int mthrown, .ref (n 1), .ref (n 2), .ref (n 3), .ref (n 4), .int (nI mtaped), .ref (n 5), .int (nI msize), .int (nI (u_2.2.1 0)), .int (nI (u_2.2.1 1)), .int (u_2.1 0), .int (u_2.1 1), .int (u_2.1 2), .int (u_2.1 3), .ref (n 6), .ref (n 7), .ref (n 8), .ref (n 9), .ref (n 10), .ref (n 11), .ref (n 12), .int (nI mmoreMany), .int mlawNow, .int mwetSet, .int moverAll, .ref (n 13), .ref (n 14), .ref (n 15), .int mones, .int mtwos, .int mgone, .ref (n 16), .ref (n 17), .int mroundNow, .ref (n 18), .long msampleFor, .long msampleAll, .ref (n 19), .int maskWorst, .long moftenAll, .long moftenView, .long moftenOnes, .ref (n 20), .ref (n 21), .ref (n 22), .ref (n 23)])), ((n 4), .inl (k 1, 600, .inl ftape))] H := hP.sub [0, 1] rfl
  have hD : va_D A [((n 0), .inr (11, [.int mthrown, .ref (n 1), .ref (n 2), .ref (n 3), .ref (n 4), .int (nI mtaped), .ref (n 5), .int (nI msize), .int (nI (u_2.2.1 0)), .int (nI (u_2.2.1 1)), .int (u_2.1 0), .int (u_2.1 1), .int (u_2.1 2), .int (u_2.1 3), .ref (n 6), .ref (n 7), .ref (n 8), .ref (n 9), .ref (n 10), .ref (n 11), .ref (n 12), .int (nI mmoreMany), .int mlawNow, .int mwetSet, .int moverAll, .ref (n 13), .ref (n 14), .ref (n 15), .int mones, .int mtwos, .int mgone, .ref (n 16), .ref (n 17), .int mroundNow, .ref (n 18), .long msampleFor, .long msampleAll, .ref (n 19), .int maskWorst, .long moftenAll, .long moftenView, .long moftenOnes, .ref (n 20), .ref (n 21), .ref (n 22), .ref (n 23)])), ((n 4), .inl (k 1, 600, .inl ftape))] := hD.sub [0, 1] (by decide) rfl
  obtain ⟨hg_3, hg_4, hg_5, hg_6⟩ := hr_1
  refine lv_aload_n hx hb dX11_told_5 rfl (lv_at hl 0 rfl) ?_
  refine lv_iload_n hx hb dX11_told_6 rfl (lv_at hl 2 rfl) ?_
  refine lv_iload_n hx hb dX11_told_7 rfl (lv_at hl 3 rfl) ?_
  refine x_muVi (wr := []) (As := [.int p1, .int p2]) S hK hP hD hZ hS hA hl mwX11_number lkX11_176 (ctX11_number l D k z n mthrown mtaped msize (u_2.2.1 0) (u_2.2.1 1) (u_2.1 0) (u_2.1 1) (u_2.1 2) (u_2.1 3) mmoreMany mlawNow mwetSet moverAll mones mtwos mgone mroundNow msampleFor msampleAll maskWorst moftenAll moftenView moftenOnes ftape p1 p2 (by omega) (by omega) (by omega) (by omega) (by omega) (by omega)) [0, 1] [] rfl rfl (by decide) (by decide) (by decide) rfl rfl rfl rfl rfl ⟨Nat.le_of_ble_eq_true rfl, Nat.le_of_ble_eq_true rfl, Nat.le_of_ble_eq_true rfl⟩ dX11_told_8 ⟨Nat.le_of_ble_eq_true rfl, Nat.le_of_ble_eq_true rfl⟩ (fun r_7 u_8 H locs hr_7 hP hD hS => ?_)
  have hP : va_P D vwCl [((n 0), .inr (11, [.int mthrown, .ref (n 1), .ref (n 2), .ref (n 3), .ref (n 4), .int (nI mtaped), .ref (n 5), .int (nI msize), .int (nI (u_8.2.1 0)), .int (nI (u_8.2.1 1)), .int (u_8.1 0), .int (u_8.1 1), .int (u_8.1 2), .int (u_8.1 3), .ref (n 6), .ref (n 7), .ref (n 8), .ref (n 9), .ref (n 10), .ref (n 11), .ref (n 12), .int (nI mmoreMany), .int mlawNow, .int mwetSet, .int moverAll, .ref (n 13), .ref (n 14), .ref (n 15), .int mones, .int mtwos, .int mgone, .ref (n 16), .ref (n 17), .int mroundNow, .ref (n 18), .long msampleFor, .long msampleAll, .ref (n 19), .int maskWorst, .long moftenAll, .long moftenView, .long moftenOnes, .ref (n 20), .ref (n 21), .ref (n 22), .ref (n 23)])), ((n 4), .inl (k 1, 600, .inl ftape))] H := hP.sub [0, 1] rfl
  have hD : va_D A [((n 0), .inr (11, [.int mthrown, .ref (n 1), .ref (n 2), .ref (n 3), .ref (n 4), .int (nI mtaped), .ref (n 5), .int (nI msize), .int (nI (u_8.2.1 0)), .int (nI (u_8.2.1 1)), .int (u_8.1 0), .int (u_8.1 1), .int (u_8.1 2), .int (u_8.1 3), .ref (n 6), .ref (n 7), .ref (n 8), .ref (n 9), .ref (n 10), .ref (n 11), .ref (n 12), .int (nI mmoreMany), .int mlawNow, .int mwetSet, .int moverAll, .ref (n 13), .ref (n 14), .ref (n 15), .int mones, .int mtwos, .int mgone, .ref (n 16), .ref (n 17), .int mroundNow, .ref (n 18), .long msampleFor, .long msampleAll, .ref (n 19), .int maskWorst, .long moftenAll, .long moftenView, .long moftenOnes, .ref (n 20), .ref (n 21), .ref (n 22), .ref (n 23)])), ((n 4), .inl (k 1, 600, .inl ftape))] := hD.sub [0, 1] (by decide) rfl
  obtain ⟨hg_9, hg_10, hg_11, hg_12⟩ := hr_7
  exact x_reti S hr hlk hQ hS ((fun i => ([(u_8.1 0), (u_8.1 1), (u_8.1 2), (u_8.1 3)] : List (Int32)).getD i 0), (fun i => ([u_8.2.1 0, u_8.2.1 1] : List (Nat)).getD i 0), (fun i => ([] : List (Nat → Int32)).getD i (fun _ => 0)), (fun i => ([] : List (Nat → Int64)).getD i (fun _ => 0)), (fun i => ([] : List (Int64)).getD i 0)) ⟨(show u_8.2.1 0 ≤ 600 by omega), (show u_8.2.1 1 ≤ 600 by omega), (show mfrom ≤ u_8.2.1 1 ∧ u_8.2.1 1 ≤ u_8.2.1 0 by omega), (fun hz => (show mfaultKind = 0 ∧ mfrom < u_8.2.1 1 ∧ isW mfaultKind mtoken mat mfrom ftape i by have k_13 := hg_12 hz; have k_14 := hg_6 k_13.1; exact ⟨k_14.1, by omega, k_14.2.2⟩))⟩ (x_B hP hD) dX11_told_11

