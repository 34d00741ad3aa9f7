theorem dX4_kindOf_0 : decode cX4_kindOf 0 = .ok (.iload_n 0, 1) := by decide +kernel
theorem dX4_kindOf_1 : decode cX4_kindOf 1 = .ok (.bipush 32, 2) := by decide +kernel
theorem dX4_kindOf_3 : decode cX4_kindOf 3 = .ok (.if_icmp .eq 9, 3) := by decide +kernel
theorem dX4_kindOf_6 : decode cX4_kindOf 6 = .ok (.iload_n 0, 1) := by decide +kernel
theorem dX4_kindOf_7 : decode cX4_kindOf 7 = .ok (.bipush 10, 2) := by decide +kernel
theorem dX4_kindOf_9 : decode cX4_kindOf 9 = .ok (.if_icmp .ne 5, 3) := by decide +kernel
theorem dX4_kindOf_12 : decode cX4_kindOf 12 = .ok (.iconst 5, 1) := by decide +kernel
theorem dX4_kindOf_13 : decode cX4_kindOf 13 = .ok (.ireturn, 1) := by decide +kernel
theorem dX4_kindOf_14 : decode cX4_kindOf 14 = .ok (.iload_n 0, 1) := by decide +kernel
theorem dX4_kindOf_15 : decode cX4_kindOf 15 = .ok (.bipush 97, 2) := by decide +kernel
theorem dX4_kindOf_17 : decode cX4_kindOf 17 = .ok (.if_icmp .lt 11, 3) := by decide +kernel
theorem dX4_kindOf_20 : decode cX4_kindOf 20 = .ok (.iload_n 0, 1) := by decide +kernel
theorem dX4_kindOf_21 : decode cX4_kindOf 21 = .ok (.bipush 122, 2) := by decide +kernel
theorem dX4_kindOf_23 : decode cX4_kindOf 23 = .ok (.if_icmp .gt 5, 3) := by decide +kernel
theorem dX4_kindOf_26 : decode cX4_kindOf 26 = .ok (.iconst 1, 1) := by decide +kernel
theorem dX4_kindOf_27 : decode cX4_kindOf 27 = .ok (.ireturn, 1) := by decide +kernel
theorem dX4_kindOf_28 : decode cX4_kindOf 28 = .ok (.iload_n 0, 1) := by decide +kernel
theorem dX4_kindOf_29 : decode cX4_kindOf 29 = .ok (.bipush 48, 2) := by decide +kernel
theorem dX4_kindOf_31 : decode cX4_kindOf 31 = .ok (.if_icmp .lt 11, 3) := by decide +kernel
theorem dX4_kindOf_34 : decode cX4_kindOf 34 = .ok (.iload_n 0, 1) := by decide +kernel
theorem dX4_kindOf_35 : decode cX4_kindOf 35 = .ok (.bipush 57, 2) := by decide +kernel
theorem dX4_kindOf_37 : decode cX4_kindOf 37 = .ok (.if_icmp .gt 5, 3) := by decide +kernel
theorem dX4_kindOf_40 : decode cX4_kindOf 40 = .ok (.iconst 2, 1) := by decide +kernel
theorem dX4_kindOf_41 : decode cX4_kindOf 41 = .ok (.ireturn, 1) := by decide +kernel
theorem dX4_kindOf_42 : decode cX4_kindOf 42 = .ok (.iload_n 0, 1) := by decide +kernel
theorem dX4_kindOf_43 : decode cX4_kindOf 43 = .ok (.bipush 59, 2) := by decide +kernel
theorem dX4_kindOf_45 : decode cX4_kindOf 45 = .ok (.if_icmp .ne 7, 3) := by decide +kernel
theorem dX4_kindOf_48 : decode cX4_kindOf 48 = .ok (.iconst 3, 1) := by decide +kernel
theorem dX4_kindOf_49 : decode cX4_kindOf 49 = .ok (.goto 4, 3) := by decide +kernel
theorem dX4_kindOf_52 : decode cX4_kindOf 52 = .ok (.iconst 4, 1) := by decide +kernel
theorem dX4_kindOf_53 : decode cX4_kindOf 53 = .ok (.ireturn, 1) := by decide +kernel
theorem dX4_hasRoom_0 : decode cX4_hasRoom 0 = .ok (.aload_n 0, 1) := by decide +kernel
theorem dX4_hasRoom_1 : decode cX4_hasRoom 1 = .ok (.getfield 19, 3) := by decide +kernel
theorem dX4_hasRoom_4 : decode cX4_hasRoom 4 = .ok (.bipush 20, 2) := by decide +kernel
theorem dX4_hasRoom_6 : decode cX4_hasRoom 6 = .ok (.iadd, 1) := by decide +kernel
theorem dX4_hasRoom_7 : decode cX4_hasRoom 7 = .ok (.sipush 600, 3) := by decide +kernel
theorem dX4_hasRoom_10 : decode cX4_hasRoom 10 = .ok (.if_icmp .gt 7, 3) := by decide +kernel
theorem dX4_hasRoom_13 : decode cX4_hasRoom 13 = .ok (.iconst 1, 1) := by decide +kernel
theorem dX4_hasRoom_14 : decode cX4_hasRoom 14 = .ok (.goto 4, 3) := by decide +kernel
theorem dX4_hasRoom_17 : decode cX4_hasRoom 17 = .ok (.iconst 0, 1) := by decide +kernel
theorem dX4_hasRoom_18 : decode cX4_hasRoom 18 = .ok (.ireturn, 1) := by decide +kernel
theorem dX4_append_0 : decode cX4_append 0 = .ok (.bipush 24, 2) := by decide +kernel
theorem dX4_append_2 : decode cX4_append 2 = .ok (.istore_n 2, 1) := by decide +kernel
theorem dX4_append_3 : decode cX4_append 3 = .ok (.iload_n 2, 1) := by decide +kernel
theorem dX4_append_4 : decode cX4_append 4 = .ok (.ifCond .lt 42, 3) := by decide +kernel
theorem dX4_append_7 : decode cX4_append 7 = .ok (.aload_n 0, 1) := by decide +kernel
theorem dX4_append_8 : decode cX4_append 8 = .ok (.getfield 19, 3) := by decide +kernel
theorem dX4_append_11 : decode cX4_append 11 = .ok (.sipush 600, 3) := by decide +kernel
theorem dX4_append_14 : decode cX4_append 14 = .ok (.if_icmp .ge 32, 3) := by decide +kernel
theorem dX4_append_17 : decode cX4_append 17 = .ok (.aload_n 0, 1) := by decide +kernel
theorem dX4_append_18 : decode cX4_append 18 = .ok (.getfield 9, 3) := by decide +kernel
theorem dX4_append_21 : decode cX4_append 21 = .ok (.aload_n 0, 1) := by decide +kernel
theorem dX4_append_22 : decode cX4_append 22 = .ok (.getfield 19, 3) := by decide +kernel
theorem dX4_append_25 : decode cX4_append 25 = .ok (.iload_n 1, 1) := by decide +kernel
theorem dX4_append_26 : decode cX4_append 26 = .ok (.iload_n 2, 1) := by decide +kernel
theorem dX4_append_27 : decode cX4_append 27 = .ok (.iushr, 1) := by decide +kernel
theorem dX4_append_28 : decode cX4_append 28 = .ok (.i2b, 1) := by decide +kernel
theorem dX4_append_29 : decode cX4_append 29 = .ok (.bastore, 1) := by decide +kernel
theorem dX4_append_30 : decode cX4_append 30 = .ok (.aload_n 0, 1) := by decide +kernel
theorem dX4_append_31 : decode cX4_append 31 = .ok (.dup, 1) := by decide +kernel
theorem dX4_append_32 : decode cX4_append 32 = .ok (.getfield 19, 3) := by decide +kernel
theorem dX4_append_35 : decode cX4_append 35 = .ok (.iconst 1, 1) := by decide +kernel
theorem dX4_append_36 : decode cX4_append 36 = .ok (.iadd, 1) := by decide +kernel
theorem dX4_append_37 : decode cX4_append 37 = .ok (.putfield 19, 3) := by decide +kernel
theorem dX4_append_40 : decode cX4_append 40 = .ok (.iinc 2 (-8), 3) := by decide +kernel
theorem dX4_append_43 : decode cX4_append 43 = .ok (.goto (-40), 3) := by decide +kernel
theorem dX4_append_46 : decode cX4_append 46 = .ok (.return_, 1) := by decide +kernel
theorem dX4_advance_0 : decode cX4_advance 0 = .ok (.aload_n 0, 1) := by decide +kernel
theorem dX4_advance_1 : decode cX4_advance 1 = .ok (.aload_n 0, 1) := by decide +kernel
theorem dX4_advance_2 : decode cX4_advance 2 = .ok (.getfield 30, 3) := by decide +kernel
theorem dX4_advance_5 : decode cX4_advance 5 = .ok (.putfield 148, 3) := by decide +kernel
theorem dX4_advance_8 : decode cX4_advance 8 = .ok (.aload_n 0, 1) := by decide +kernel
theorem dX4_advance_9 : decode cX4_advance 9 = .ok (.getfield 148, 3) := by decide +kernel
theorem dX4_advance_12 : decode cX4_advance 12 = .ok (.aload_n 0, 1) := by decide +kernel
theorem dX4_advance_13 : decode cX4_advance 13 = .ok (.getfield 19, 3) := by decide +kernel
theorem dX4_advance_16 : decode cX4_advance 16 = .ok (.if_icmp .ge 32, 3) := by decide +kernel
theorem dX4_advance_19 : decode cX4_advance 19 = .ok (.aload_n 0, 1) := by decide +kernel
theorem dX4_advance_20 : decode cX4_advance 20 = .ok (.getfield 9, 3) := by decide +kernel
theorem dX4_advance_23 : decode cX4_advance 23 = .ok (.aload_n 0, 1) := by decide +kernel
theorem dX4_advance_24 : decode cX4_advance 24 = .ok (.getfield 148, 3) := by decide +kernel
theorem dX4_advance_27 : decode cX4_advance 27 = .ok (.baload, 1) := by decide +kernel
theorem dX4_advance_28 : decode cX4_advance 28 = .ok (.invokestatic 160, 3) := by decide +kernel
theorem dX4_advance_31 : decode cX4_advance 31 = .ok (.iconst 5, 1) := by decide +kernel
theorem dX4_advance_32 : decode cX4_advance 32 = .ok (.if_icmp .ne 16, 3) := by decide +kernel
theorem dX4_advance_35 : decode cX4_advance 35 = .ok (.aload_n 0, 1) := by decide +kernel
theorem dX4_advance_36 : decode cX4_advance 36 = .ok (.dup, 1) := by decide +kernel
theorem dX4_advance_37 : decode cX4_advance 37 = .ok (.getfield 148, 3) := by decide +kernel
theorem dX4_advance_40 : decode cX4_advance 40 = .ok (.iconst 1, 1) := by decide +kernel
theorem dX4_advance_41 : decode cX4_advance 41 = .ok (.iadd, 1) := by decide +kernel
theorem dX4_advance_42 : decode cX4_advance 42 = .ok (.putfield 148, 3) := by decide +kernel
theorem dX4_advance_45 : decode cX4_advance 45 = .ok (.goto (-37), 3) := by decide +kernel
theorem dX4_advance_48 : decode cX4_advance 48 = .ok (.aload_n 0, 1) := by decide +kernel
theorem dX4_advance_49 : decode cX4_advance 49 = .ok (.aload_n 0, 1) := by decide +kernel
theorem dX4_advance_50 : decode cX4_advance 50 = .ok (.getfield 148, 3) := by decide +kernel
theorem dX4_advance_53 : decode cX4_advance 53 = .ok (.aload_n 0, 1) := by decide +kernel
theorem dX4_advance_54 : decode cX4_advance 54 = .ok (.getfield 19, 3) := by decide +kernel
theorem dX4_advance_57 : decode cX4_advance 57 = .ok (.if_icmp .ge 18, 3) := by decide +kernel
theorem dX4_advance_60 : decode cX4_advance 60 = .ok (.aload_n 0, 1) := by decide +kernel
theorem dX4_advance_61 : decode cX4_advance 61 = .ok (.getfield 9, 3) := by decide +kernel
theorem dX4_advance_64 : decode cX4_advance 64 = .ok (.aload_n 0, 1) := by decide +kernel
theorem dX4_advance_65 : decode cX4_advance 65 = .ok (.getfield 148, 3) := by decide +kernel
theorem dX4_advance_68 : decode cX4_advance 68 = .ok (.baload, 1) := by decide +kernel
theorem dX4_advance_69 : decode cX4_advance 69 = .ok (.invokestatic 160, 3) := by decide +kernel
theorem dX4_advance_72 : decode cX4_advance 72 = .ok (.goto 4, 3) := by decide +kernel
theorem dX4_advance_75 : decode cX4_advance 75 = .ok (.iconst 0, 1) := by decide +kernel
theorem dX4_advance_76 : decode cX4_advance 76 = .ok (.putfield 36, 3) := by decide +kernel
theorem dX4_advance_79 : decode cX4_advance 79 = .ok (.aload_n 0, 1) := by decide +kernel
theorem dX4_advance_80 : decode cX4_advance 80 = .ok (.iconst 0, 1) := by decide +kernel
theorem dX4_advance_81 : decode cX4_advance 81 = .ok (.putfield 145, 3) := by decide +kernel
theorem dX4_advance_84 : decode cX4_advance 84 = .ok (.aload_n 0, 1) := by decide +kernel
theorem dX4_advance_85 : decode cX4_advance 85 = .ok (.aload_n 0, 1) := by decide +kernel
theorem dX4_advance_86 : decode cX4_advance 86 = .ok (.getfield 148, 3) := by decide +kernel
theorem dX4_advance_89 : decode cX4_advance 89 = .ok (.putfield 30, 3) := by decide +kernel
theorem dX4_advance_92 : decode cX4_advance 92 = .ok (.aload_n 0, 1) := by decide +kernel
theorem dX4_advance_93 : decode cX4_advance 93 = .ok (.getfield 36, 3) := by decide +kernel
theorem dX4_advance_96 : decode cX4_advance 96 = .ok (.iconst 1, 1) := by decide +kernel
theorem dX4_advance_97 : decode cX4_advance 97 = .ok (.if_icmp .eq 11, 3) := by decide +kernel
theorem dX4_advance_100 : decode cX4_advance 100 = .ok (.aload_n 0, 1) := by decide +kernel
theorem dX4_advance_101 : decode cX4_advance 101 = .ok (.getfield 36, 3) := by decide +kernel
theorem dX4_advance_104 : decode cX4_advance 104 = .ok (.iconst 2, 1) := by decide +kernel
theorem dX4_advance_105 : decode cX4_advance 105 = .ok (.if_icmp .ne 7, 3) := by decide +kernel
theorem dX4_advance_108 : decode cX4_advance 108 = .ok (.iconst 1, 1) := by decide +kernel
theorem dX4_advance_109 : decode cX4_advance 109 = .ok (.goto 4, 3) := by decide +kernel
theorem dX4_advance_112 : decode cX4_advance 112 = .ok (.iconst 0, 1) := by decide +kernel
theorem dX4_advance_113 : decode cX4_advance 113 = .ok (.istore_n 1, 1) := by decide +kernel
theorem dX4_advance_114 : decode cX4_advance 114 = .ok (.aload_n 0, 1) := by decide +kernel
theorem dX4_advance_115 : decode cX4_advance 115 = .ok (.getfield 30, 3) := by decide +kernel
theorem dX4_advance_118 : decode cX4_advance 118 = .ok (.aload_n 0, 1) := by decide +kernel
theorem dX4_advance_119 : decode cX4_advance 119 = .ok (.getfield 19, 3) := by decide +kernel
theorem dX4_advance_122 : decode cX4_advance 122 = .ok (.if_icmp .ge 88, 3) := by decide +kernel
theorem dX4_advance_125 : decode cX4_advance 125 = .ok (.aload_n 0, 1) := by decide +kernel
theorem dX4_advance_126 : decode cX4_advance 126 = .ok (.getfield 9, 3) := by decide +kernel
theorem dX4_advance_129 : decode cX4_advance 129 = .ok (.aload_n 0, 1) := by decide +kernel
theorem dX4_advance_130 : decode cX4_advance 130 = .ok (.getfield 30, 3) := by decide +kernel
theorem dX4_advance_133 : decode cX4_advance 133 = .ok (.baload, 1) := by decide +kernel
theorem dX4_advance_134 : decode cX4_advance 134 = .ok (.invokestatic 160, 3) := by decide +kernel
theorem dX4_advance_137 : decode cX4_advance 137 = .ok (.aload_n 0, 1) := by decide +kernel
theorem dX4_advance_138 : decode cX4_advance 138 = .ok (.getfield 36, 3) := by decide +kernel
theorem dX4_advance_141 : decode cX4_advance 141 = .ok (.if_icmp .ne 69, 3) := by decide +kernel
theorem dX4_advance_144 : decode cX4_advance 144 = .ok (.iload_n 1, 1) := by decide +kernel
theorem dX4_advance_145 : decode cX4_advance 145 = .ok (.ifCond .ne 14, 3) := by decide +kernel
theorem dX4_advance_148 : decode cX4_advance 148 = .ok (.aload_n 0, 1) := by decide +kernel
theorem dX4_advance_149 : decode cX4_advance 149 = .ok (.getfield 30, 3) := by decide +kernel
theorem dX4_advance_152 : decode cX4_advance 152 = .ok (.aload_n 0, 1) := by decide +kernel
theorem dX4_advance_153 : decode cX4_advance 153 = .ok (.getfield 148, 3) := by decide +kernel
theorem dX4_advance_156 : decode cX4_advance 156 = .ok (.if_icmp .ne 54, 3) := by decide +kernel
theorem dX4_advance_159 : decode cX4_advance 159 = .ok (.aload_n 0, 1) := by decide +kernel
theorem dX4_advance_160 : decode cX4_advance 160 = .ok (.getfield 36, 3) := by decide +kernel
theorem dX4_advance_163 : decode cX4_advance 163 = .ok (.iconst 2, 1) := by decide +kernel
theorem dX4_advance_164 : decode cX4_advance 164 = .ok (.if_icmp .ne 33, 3) := by decide +kernel
theorem dX4_advance_167 : decode cX4_advance 167 = .ok (.aload_n 0, 1) := by decide +kernel
theorem dX4_advance_168 : decode cX4_advance 168 = .ok (.sipush 1000, 3) := by decide +kernel
theorem dX4_advance_171 : decode cX4_advance 171 = .ok (.aload_n 0, 1) := by decide +kernel
theorem dX4_advance_172 : decode cX4_advance 172 = .ok (.getfield 145, 3) := by decide +kernel
theorem dX4_advance_175 : decode cX4_advance 175 = .ok (.bipush 10, 2) := by decide +kernel
theorem dX4_advance_177 : decode cX4_advance 177 = .ok (.imul, 1) := by decide +kernel
theorem dX4_advance_178 : decode cX4_advance 178 = .ok (.aload_n 0, 1) := by decide +kernel
theorem dX4_advance_179 : decode cX4_advance 179 = .ok (.getfield 9, 3) := by decide +kernel
theorem dX4_advance_182 : decode cX4_advance 182 = .ok (.aload_n 0, 1) := by decide +kernel
theorem dX4_advance_183 : decode cX4_advance 183 = .ok (.getfield 30, 3) := by decide +kernel
theorem dX4_advance_186 : decode cX4_advance 186 = .ok (.baload, 1) := by decide +kernel
theorem dX4_advance_187 : decode cX4_advance 187 = .ok (.iadd, 1) := by decide +kernel
theorem dX4_advance_188 : decode cX4_advance 188 = .ok (.bipush 48, 2) := by decide +kernel
theorem dX4_advance_190 : decode cX4_advance 190 = .ok (.isub, 1) := by decide +kernel
theorem dX4_advance_191 : decode cX4_advance 191 = .ok (.invokestatic 164, 3) := by decide +kernel
theorem dX4_advance_194 : decode cX4_advance 194 = .ok (.putfield 145, 3) := by decide +kernel
theorem dX4_advance_197 : decode cX4_advance 197 = .ok (.aload_n 0, 1) := by decide +kernel
theorem dX4_advance_198 : decode cX4_advance 198 = .ok (.dup, 1) := by decide +kernel
theorem dX4_advance_199 : decode cX4_advance 199 = .ok (.getfield 30, 3) := by decide +kernel
theorem dX4_advance_202 : decode cX4_advance 202 = .ok (.iconst 1, 1) := by decide +kernel
theorem dX4_advance_203 : decode cX4_advance 203 = .ok (.iadd, 1) := by decide +kernel
theorem dX4_advance_204 : decode cX4_advance 204 = .ok (.putfield 30, 3) := by decide +kernel
theorem dX4_advance_207 : decode cX4_advance 207 = .ok (.goto (-93), 3) := by decide +kernel
theorem dX4_advance_210 : decode cX4_advance 210 = .ok (.return_, 1) := by decide +kernel
theorem dX4_refuse_0 : decode cX4_refuse 0 = .ok (.aload_n 0, 1) := by decide +kernel
theorem dX4_refuse_1 : decode cX4_refuse 1 = .ok (.iload_n 1, 1) := by decide +kernel
theorem dX4_refuse_2 : decode cX4_refuse 2 = .ok (.putfield 27, 3) := by decide +kernel
theorem dX4_refuse_5 : decode cX4_refuse 5 = .ok (.aload_n 0, 1) := by decide +kernel
theorem dX4_refuse_6 : decode cX4_refuse 6 = .ok (.aload_n 0, 1) := by decide +kernel
theorem dX4_refuse_7 : decode cX4_refuse 7 = .ok (.getfield 148, 3) := by decide +kernel
theorem dX4_refuse_10 : decode cX4_refuse 10 = .ok (.putfield 15, 3) := by decide +kernel
theorem dX4_refuse_13 : decode cX4_refuse 13 = .ok (.iconst 0, 1) := by decide +kernel
theorem dX4_refuse_14 : decode cX4_refuse 14 = .ok (.ireturn, 1) := by decide +kernel
theorem dX4_isWord_0 : decode cX4_isWord 0 = .ok (.aload_n 0, 1) := by decide +kernel
theorem dX4_isWord_1 : decode cX4_isWord 1 = .ok (.getfield 36, 3) := by decide +kernel
theorem dX4_isWord_4 : decode cX4_isWord 4 = .ok (.iconst 1, 1) := by decide +kernel
theorem dX4_isWord_5 : decode cX4_isWord 5 = .ok (.if_icmp .ne 19, 3) := by decide +kernel
theorem dX4_isWord_8 : decode cX4_isWord 8 = .ok (.aload_n 0, 1) := by decide +kernel
theorem dX4_isWord_9 : decode cX4_isWord 9 = .ok (.getfield 30, 3) := by decide +kernel
theorem dX4_isWord_12 : decode cX4_isWord 12 = .ok (.aload_n 0, 1) := by decide +kernel
theorem dX4_isWord_13 : decode cX4_isWord 13 = .ok (.getfield 148, 3) := by decide +kernel
theorem dX4_isWord_16 : decode cX4_isWord 16 = .ok (.isub, 1) := by decide +kernel
theorem dX4_isWord_17 : decode cX4_isWord 17 = .ok (.aload_n 1, 1) := by decide +kernel
theorem dX4_isWord_18 : decode cX4_isWord 18 = .ok (.invokevirtual 151, 3) := by decide +kernel
theorem dX4_isWord_21 : decode cX4_isWord 21 = .ok (.if_icmp .eq 5, 3) := by decide +kernel
theorem dX4_isWord_24 : decode cX4_isWord 24 = .ok (.iconst 0, 1) := by decide +kernel
theorem dX4_isWord_25 : decode cX4_isWord 25 = .ok (.ireturn, 1) := by decide +kernel
theorem dX4_isWord_26 : decode cX4_isWord 26 = .ok (.iconst 0, 1) := by decide +kernel
theorem dX4_isWord_27 : decode cX4_isWord 27 = .ok (.istore_n 2, 1) := by decide +kernel
theorem dX4_isWord_28 : decode cX4_isWord 28 = .ok (.iload_n 2, 1) := by decide +kernel
theorem dX4_isWord_29 : decode cX4_isWord 29 = .ok (.aload_n 1, 1) := by decide +kernel
theorem dX4_isWord_30 : decode cX4_isWord 30 = .ok (.invokevirtual 151, 3) := by decide +kernel
theorem dX4_isWord_33 : decode cX4_isWord 33 = .ok (.if_icmp .ge 30, 3) := by decide +kernel
theorem dX4_isWord_36 : decode cX4_isWord 36 = .ok (.aload_n 0, 1) := by decide +kernel
theorem dX4_isWord_37 : decode cX4_isWord 37 = .ok (.getfield 9, 3) := by decide +kernel
theorem dX4_isWord_40 : decode cX4_isWord 40 = .ok (.aload_n 0, 1) := by decide +kernel
theorem dX4_isWord_41 : decode cX4_isWord 41 = .ok (.getfield 148, 3) := by decide +kernel
theorem dX4_isWord_44 : decode cX4_isWord 44 = .ok (.iload_n 2, 1) := by decide +kernel
theorem dX4_isWord_45 : decode cX4_isWord 45 = .ok (.iadd, 1) := by decide +kernel
theorem dX4_isWord_46 : decode cX4_isWord 46 = .ok (.baload, 1) := by decide +kernel
theorem dX4_isWord_47 : decode cX4_isWord 47 = .ok (.aload_n 1, 1) := by decide +kernel
theorem dX4_isWord_48 : decode cX4_isWord 48 = .ok (.iload_n 2, 1) := by decide +kernel
theorem dX4_isWord_49 : decode cX4_isWord 49 = .ok (.invokevirtual 156, 3) := by decide +kernel
theorem dX4_isWord_52 : decode cX4_isWord 52 = .ok (.if_icmp .eq 5, 3) := by decide +kernel
theorem dX4_isWord_55 : decode cX4_isWord 55 = .ok (.iconst 0, 1) := by decide +kernel
theorem dX4_isWord_56 : decode cX4_isWord 56 = .ok (.ireturn, 1) := by decide +kernel
theorem dX4_isWord_57 : decode cX4_isWord 57 = .ok (.iinc 2 1, 3) := by decide +kernel
theorem dX4_isWord_60 : decode cX4_isWord 60 = .ok (.goto (-32), 3) := by decide +kernel
theorem dX4_isWord_63 : decode cX4_isWord 63 = .ok (.iconst 1, 1) := by decide +kernel
theorem dX4_isWord_64 : decode cX4_isWord 64 = .ok (.ireturn, 1) := by decide +kernel
theorem dX4_takeNumber_0 : decode cX4_takeNumber 0 = .ok (.aload_n 0, 1) := by decide +kernel
theorem dX4_takeNumber_1 : decode cX4_takeNumber 1 = .ok (.aload_n 1, 1) := by decide +kernel
theorem dX4_takeNumber_2 : decode cX4_takeNumber 2 = .ok (.invokevirtual 54, 3) := by decide +kernel
theorem dX4_takeNumber_5 : decode cX4_takeNumber 5 = .ok (.ifCond .ne 9, 3) := by decide +kernel
theorem dX4_takeNumber_8 : decode cX4_takeNumber 8 = .ok (.aload_n 0, 1) := by decide +kernel
theorem dX4_takeNumber_9 : decode cX4_takeNumber 9 = .ok (.iconst 1, 1) := by decide +kernel
theorem dX4_takeNumber_10 : decode cX4_takeNumber 10 = .ok (.invokevirtual 71, 3) := by decide +kernel
theorem dX4_takeNumber_13 : decode cX4_takeNumber 13 = .ok (.ireturn, 1) := by decide +kernel
theorem dX4_takeNumber_14 : decode cX4_takeNumber 14 = .ok (.aload_n 0, 1) := by decide +kernel
theorem dX4_takeNumber_15 : decode cX4_takeNumber 15 = .ok (.invokevirtual 33, 3) := by decide +kernel
theorem dX4_takeNumber_18 : decode cX4_takeNumber 18 = .ok (.aload_n 0, 1) := by decide +kernel
theorem dX4_takeNumber_19 : decode cX4_takeNumber 19 = .ok (.getfield 36, 3) := by decide +kernel
theorem dX4_takeNumber_22 : decode cX4_takeNumber 22 = .ok (.iconst 2, 1) := by decide +kernel
theorem dX4_takeNumber_23 : decode cX4_takeNumber 23 = .ok (.if_icmp .eq 9, 3) := by decide +kernel
theorem dX4_takeNumber_26 : decode cX4_takeNumber 26 = .ok (.aload_n 0, 1) := by decide +kernel
theorem dX4_takeNumber_27 : decode cX4_takeNumber 27 = .ok (.iconst 1, 1) := by decide +kernel
theorem dX4_takeNumber_28 : decode cX4_takeNumber 28 = .ok (.invokevirtual 71, 3) := by decide +kernel
theorem dX4_takeNumber_31 : decode cX4_takeNumber 31 = .ok (.ireturn, 1) := by decide +kernel
theorem dX4_takeNumber_32 : decode cX4_takeNumber 32 = .ok (.aload_n 0, 1) := by decide +kernel
theorem dX4_takeNumber_33 : decode cX4_takeNumber 33 = .ok (.getfield 145, 3) := by decide +kernel
theorem dX4_takeNumber_36 : decode cX4_takeNumber 36 = .ok (.iload_n 2, 1) := by decide +kernel
theorem dX4_takeNumber_37 : decode cX4_takeNumber 37 = .ok (.if_icmp .lt 11, 3) := by decide +kernel
theorem dX4_takeNumber_40 : decode cX4_takeNumber 40 = .ok (.aload_n 0, 1) := by decide +kernel
theorem dX4_takeNumber_41 : decode cX4_takeNumber 41 = .ok (.getfield 145, 3) := by decide +kernel
theorem dX4_takeNumber_44 : decode cX4_takeNumber 44 = .ok (.iload_n 3, 1) := by decide +kernel
theorem dX4_takeNumber_45 : decode cX4_takeNumber 45 = .ok (.if_icmp .le 9, 3) := by decide +kernel
theorem dX4_takeNumber_48 : decode cX4_takeNumber 48 = .ok (.aload_n 0, 1) := by decide +kernel
theorem dX4_takeNumber_49 : decode cX4_takeNumber 49 = .ok (.iconst 2, 1) := by decide +kernel
theorem dX4_takeNumber_50 : decode cX4_takeNumber 50 = .ok (.invokevirtual 71, 3) := by decide +kernel
theorem dX4_takeNumber_53 : decode cX4_takeNumber 53 = .ok (.ireturn, 1) := by decide +kernel
theorem dX4_takeNumber_54 : decode cX4_takeNumber 54 = .ok (.aload_n 0, 1) := by decide +kernel
theorem dX4_takeNumber_55 : decode cX4_takeNumber 55 = .ok (.aload_n 0, 1) := by decide +kernel
theorem dX4_takeNumber_56 : decode cX4_takeNumber 56 = .ok (.getfield 145, 3) := by decide +kernel
theorem dX4_takeNumber_59 : decode cX4_takeNumber 59 = .ok (.putfield 90, 3) := by decide +kernel
theorem dX4_takeNumber_62 : decode cX4_takeNumber 62 = .ok (.aload_n 0, 1) := by decide +kernel
theorem dX4_takeNumber_63 : decode cX4_takeNumber 63 = .ok (.invokevirtual 33, 3) := by decide +kernel
theorem dX4_takeNumber_66 : decode cX4_takeNumber 66 = .ok (.iconst 1, 1) := by decide +kernel
theorem dX4_takeNumber_67 : decode cX4_takeNumber 67 = .ok (.ireturn, 1) := by decide +kernel
theorem dX4_takeWord_0 : decode cX4_takeWord 0 = .ok (.aload_n 0, 1) := by decide +kernel
theorem dX4_takeWord_1 : decode cX4_takeWord 1 = .ok (.aload_n 1, 1) := by decide +kernel
theorem dX4_takeWord_2 : decode cX4_takeWord 2 = .ok (.invokevirtual 54, 3) := by decide +kernel
theorem dX4_takeWord_5 : decode cX4_takeWord 5 = .ok (.ifCond .ne 9, 3) := by decide +kernel
theorem dX4_takeWord_8 : decode cX4_takeWord 8 = .ok (.aload_n 0, 1) := by decide +kernel
theorem dX4_takeWord_9 : decode cX4_takeWord 9 = .ok (.iconst 1, 1) := by decide +kernel
theorem dX4_takeWord_10 : decode cX4_takeWord 10 = .ok (.invokevirtual 71, 3) := by decide +kernel
theorem dX4_takeWord_13 : decode cX4_takeWord 13 = .ok (.ireturn, 1) := by decide +kernel
theorem dX4_takeWord_14 : decode cX4_takeWord 14 = .ok (.aload_n 0, 1) := by decide +kernel
theorem dX4_takeWord_15 : decode cX4_takeWord 15 = .ok (.invokevirtual 33, 3) := by decide +kernel
theorem dX4_takeWord_18 : decode cX4_takeWord 18 = .ok (.iconst 1, 1) := by decide +kernel
theorem dX4_takeWord_19 : decode cX4_takeWord 19 = .ok (.ireturn, 1) := by decide +kernel
theorem dX4_takeSign_0 : decode cX4_takeSign 0 = .ok (.aload_n 0, 1) := by decide +kernel
theorem dX4_takeSign_1 : decode cX4_takeSign 1 = .ok (.getfield 36, 3) := by decide +kernel
theorem dX4_takeSign_4 : decode cX4_takeSign 4 = .ok (.iconst 3, 1) := by decide +kernel
theorem dX4_takeSign_5 : decode cX4_takeSign 5 = .ok (.if_icmp .eq 9, 3) := by decide +kernel
theorem dX4_takeSign_8 : decode cX4_takeSign 8 = .ok (.aload_n 0, 1) := by decide +kernel
theorem dX4_takeSign_9 : decode cX4_takeSign 9 = .ok (.iconst 1, 1) := by decide +kernel
theorem dX4_takeSign_10 : decode cX4_takeSign 10 = .ok (.invokevirtual 71, 3) := by decide +kernel
theorem dX4_takeSign_13 : decode cX4_takeSign 13 = .ok (.ireturn, 1) := by decide +kernel
theorem dX4_takeSign_14 : decode cX4_takeSign 14 = .ok (.aload_n 0, 1) := by decide +kernel
theorem dX4_takeSign_15 : decode cX4_takeSign 15 = .ok (.invokevirtual 33, 3) := by decide +kernel
theorem dX4_takeSign_18 : decode cX4_takeSign 18 = .ok (.iconst 1, 1) := by decide +kernel
theorem dX4_takeSign_19 : decode cX4_takeSign 19 = .ok (.ireturn, 1) := by decide +kernel
theorem dX4_readGarden_0 : decode cX4_readGarden 0 = .ok (.aload_n 0, 1) := by decide +kernel
theorem dX4_readGarden_1 : decode cX4_readGarden 1 = .ok (.ldc 79, 2) := by decide +kernel
theorem dX4_readGarden_3 : decode cX4_readGarden 3 = .ok (.invokevirtual 81, 3) := by decide +kernel
theorem dX4_readGarden_6 : decode cX4_readGarden 6 = .ok (.ifCond .eq 15, 3) := by decide +kernel
theorem dX4_readGarden_9 : decode cX4_readGarden 9 = .ok (.aload_n 0, 1) := by decide +kernel
theorem dX4_readGarden_10 : decode cX4_readGarden 10 = .ok (.ldc 84, 2) := by decide +kernel
theorem dX4_readGarden_12 : decode cX4_readGarden 12 = .ok (.iconst 1, 1) := by decide +kernel
theorem dX4_readGarden_13 : decode cX4_readGarden 13 = .ok (.bipush 16, 2) := by decide +kernel
theorem dX4_readGarden_15 : decode cX4_readGarden 15 = .ok (.invokevirtual 86, 3) := by decide +kernel
theorem dX4_readGarden_18 : decode cX4_readGarden 18 = .ok (.ifCond .ne 5, 3) := by decide +kernel
theorem dX4_readGarden_21 : decode cX4_readGarden 21 = .ok (.iconst 0, 1) := by decide +kernel
theorem dX4_readGarden_22 : decode cX4_readGarden 22 = .ok (.ireturn, 1) := by decide +kernel
theorem dX4_readGarden_23 : decode cX4_readGarden 23 = .ok (.aload_n 1, 1) := by decide +kernel
theorem dX4_readGarden_24 : decode cX4_readGarden 24 = .ok (.aload_n 0, 1) := by decide +kernel
theorem dX4_readGarden_25 : decode cX4_readGarden 25 = .ok (.getfield 90, 3) := by decide +kernel
theorem dX4_readGarden_28 : decode cX4_readGarden 28 = .ok (.putfield 93, 3) := by decide +kernel
theorem dX4_readGarden_31 : decode cX4_readGarden 31 = .ok (.aload_n 0, 1) := by decide +kernel
theorem dX4_readGarden_32 : decode cX4_readGarden 32 = .ok (.ldc 95, 2) := by decide +kernel
theorem dX4_readGarden_34 : decode cX4_readGarden 34 = .ok (.iconst 0, 1) := by decide +kernel
theorem dX4_readGarden_35 : decode cX4_readGarden 35 = .ok (.iconst 3, 1) := by decide +kernel
theorem dX4_readGarden_36 : decode cX4_readGarden 36 = .ok (.invokevirtual 86, 3) := by decide +kernel
theorem dX4_readGarden_39 : decode cX4_readGarden 39 = .ok (.ifCond .ne 5, 3) := by decide +kernel
theorem dX4_readGarden_42 : decode cX4_readGarden 42 = .ok (.iconst 0, 1) := by decide +kernel
theorem dX4_readGarden_43 : decode cX4_readGarden 43 = .ok (.ireturn, 1) := by decide +kernel
theorem dX4_readGarden_44 : decode cX4_readGarden 44 = .ok (.aload_n 1, 1) := by decide +kernel
theorem dX4_readGarden_45 : decode cX4_readGarden 45 = .ok (.aload_n 0, 1) := by decide +kernel
theorem dX4_readGarden_46 : decode cX4_readGarden 46 = .ok (.getfield 90, 3) := by decide +kernel
theorem dX4_readGarden_49 : decode cX4_readGarden 49 = .ok (.putfield 97, 3) := by decide +kernel
theorem dX4_readGarden_52 : decode cX4_readGarden 52 = .ok (.aload_n 0, 1) := by decide +kernel
theorem dX4_readGarden_53 : decode cX4_readGarden 53 = .ok (.ldc 99, 2) := by decide +kernel
theorem dX4_readGarden_55 : decode cX4_readGarden 55 = .ok (.iconst 0, 1) := by decide +kernel
theorem dX4_readGarden_56 : decode cX4_readGarden 56 = .ok (.bipush 10, 2) := by decide +kernel
theorem dX4_readGarden_58 : decode cX4_readGarden 58 = .ok (.invokevirtual 86, 3) := by decide +kernel
theorem dX4_readGarden_61 : decode cX4_readGarden 61 = .ok (.ifCond .ne 5, 3) := by decide +kernel
theorem dX4_readGarden_64 : decode cX4_readGarden 64 = .ok (.iconst 0, 1) := by decide +kernel
theorem dX4_readGarden_65 : decode cX4_readGarden 65 = .ok (.ireturn, 1) := by decide +kernel
theorem dX4_readGarden_66 : decode cX4_readGarden 66 = .ok (.aload_n 1, 1) := by decide +kernel
theorem dX4_readGarden_67 : decode cX4_readGarden 67 = .ok (.aload_n 0, 1) := by decide +kernel
theorem dX4_readGarden_68 : decode cX4_readGarden 68 = .ok (.getfield 90, 3) := by decide +kernel
theorem dX4_readGarden_71 : decode cX4_readGarden 71 = .ok (.putfield 101, 3) := by decide +kernel
theorem dX4_readGarden_74 : decode cX4_readGarden 74 = .ok (.iconst 1, 1) := by decide +kernel
theorem dX4_readGarden_75 : decode cX4_readGarden 75 = .ok (.ireturn, 1) := by decide +kernel
theorem dX2_tellEvent_0 : decode cX2_tellEvent 0 = .ok (.aload_n 0, 1) := by decide +kernel
theorem dX2_tellEvent_1 : decode cX2_tellEvent 1 = .ok (.invokevirtual 82, 3) := by decide +kernel
theorem dX2_tellEvent_4 : decode cX2_tellEvent 4 = .ok (.bipush 42, 2) := by decide +kernel
theorem dX2_tellEvent_6 : decode cX2_tellEvent 6 = .ok (.if_icmp .lt 4, 3) := by decide +kernel
theorem dX2_tellEvent_9 : decode cX2_tellEvent 9 = .ok (.return_, 1) := by decide +kernel
theorem dX2_tellEvent_10 : decode cX2_tellEvent 10 = .ok (.aload_n 0, 1) := by decide +kernel
theorem dX2_tellEvent_11 : decode cX2_tellEvent 11 = .ok (.iload_n 1, 1) := by decide +kernel
theorem dX2_tellEvent_12 : decode cX2_tellEvent 12 = .ok (.iload_n 2, 1) := by decide +kernel
theorem dX2_tellEvent_13 : decode cX2_tellEvent 13 = .ok (.iload_n 3, 1) := by decide +kernel
theorem dX2_tellEvent_14 : decode cX2_tellEvent 14 = .ok (.invokevirtual 86, 3) := by decide +kernel
theorem dX2_tellEvent_17 : decode cX2_tellEvent 17 = .ok (.iload_n 1, 1) := by decide +kernel
theorem dX2_tellEvent_18 : decode cX2_tellEvent 18 = .ok (.ifCond .ne 16, 3) := by decide +kernel
theorem dX2_tellEvent_21 : decode cX2_tellEvent 21 = .ok (.aload_n 0, 1) := by decide +kernel
theorem dX2_tellEvent_22 : decode cX2_tellEvent 22 = .ok (.dup, 1) := by decide +kernel
theorem dX2_tellEvent_23 : decode cX2_tellEvent 23 = .ok (.getfield 64, 3) := by decide +kernel
theorem dX2_tellEvent_26 : decode cX2_tellEvent 26 = .ok (.iconst 1, 1) := by decide +kernel
theorem dX2_tellEvent_27 : decode cX2_tellEvent 27 = .ok (.iadd, 1) := by decide +kernel
theorem dX2_tellEvent_28 : decode cX2_tellEvent 28 = .ok (.putfield 64, 3) := by decide +kernel
theorem dX2_tellEvent_31 : decode cX2_tellEvent 31 = .ok (.goto 13, 3) := by decide +kernel
theorem dX2_tellEvent_34 : decode cX2_tellEvent 34 = .ok (.aload_n 0, 1) := by decide +kernel
theorem dX2_tellEvent_35 : decode cX2_tellEvent 35 = .ok (.dup, 1) := by decide +kernel
theorem dX2_tellEvent_36 : decode cX2_tellEvent 36 = .ok (.getfield 61, 3) := by decide +kernel
theorem dX2_tellEvent_39 : decode cX2_tellEvent 39 = .ok (.iconst 1, 1) := by decide +kernel
theorem dX2_tellEvent_40 : decode cX2_tellEvent 40 = .ok (.iadd, 1) := by decide +kernel
theorem dX2_tellEvent_41 : decode cX2_tellEvent 41 = .ok (.putfield 61, 3) := by decide +kernel
theorem dX2_tellEvent_44 : decode cX2_tellEvent 44 = .ok (.return_, 1) := by decide +kernel
theorem dX4_readTarget_0 : decode cX4_readTarget 0 = .ok (.aload_n 0, 1) := by decide +kernel
theorem dX4_readTarget_1 : decode cX4_readTarget 1 = .ok (.ldc 137, 2) := by decide +kernel
theorem dX4_readTarget_3 : decode cX4_readTarget 3 = .ok (.iconst 0, 1) := by decide +kernel
theorem dX4_readTarget_4 : decode cX4_readTarget 4 = .ok (.aload_n 1, 1) := by decide +kernel
theorem dX4_readTarget_5 : decode cX4_readTarget 5 = .ok (.getfield 119, 3) := by decide +kernel
theorem dX4_readTarget_8 : decode cX4_readTarget 8 = .ok (.iconst 1, 1) := by decide +kernel
theorem dX4_readTarget_9 : decode cX4_readTarget 9 = .ok (.isub, 1) := by decide +kernel
theorem dX4_readTarget_10 : decode cX4_readTarget 10 = .ok (.invokevirtual 86, 3) := by decide +kernel
theorem dX4_readTarget_13 : decode cX4_readTarget 13 = .ok (.ifCond .ne 5, 3) := by decide +kernel
theorem dX4_readTarget_16 : decode cX4_readTarget 16 = .ok (.iconst 0, 1) := by decide +kernel
theorem dX4_readTarget_17 : decode cX4_readTarget 17 = .ok (.ireturn, 1) := by decide +kernel
theorem dX4_readTarget_18 : decode cX4_readTarget 18 = .ok (.aload_n 0, 1) := by decide +kernel
theorem dX4_readTarget_19 : decode cX4_readTarget 19 = .ok (.getfield 90, 3) := by decide +kernel
theorem dX4_readTarget_22 : decode cX4_readTarget 22 = .ok (.istore_n 3, 1) := by decide +kernel
theorem dX4_readTarget_23 : decode cX4_readTarget 23 = .ok (.aload_n 0, 1) := by decide +kernel
theorem dX4_readTarget_24 : decode cX4_readTarget 24 = .ok (.ldc 139, 2) := by decide +kernel
theorem dX4_readTarget_26 : decode cX4_readTarget 26 = .ok (.iconst 0, 1) := by decide +kernel
theorem dX4_readTarget_27 : decode cX4_readTarget 27 = .ok (.bipush 15, 2) := by decide +kernel
theorem dX4_readTarget_29 : decode cX4_readTarget 29 = .ok (.invokevirtual 86, 3) := by decide +kernel
theorem dX4_readTarget_32 : decode cX4_readTarget 32 = .ok (.ifCond .ne 5, 3) := by decide +kernel
theorem dX4_readTarget_35 : decode cX4_readTarget 35 = .ok (.iconst 0, 1) := by decide +kernel
theorem dX4_readTarget_36 : decode cX4_readTarget 36 = .ok (.ireturn, 1) := by decide +kernel
theorem dX4_readTarget_37 : decode cX4_readTarget 37 = .ok (.aload_n 1, 1) := by decide +kernel
theorem dX4_readTarget_38 : decode cX4_readTarget 38 = .ok (.iload_n 2, 1) := by decide +kernel
theorem dX4_readTarget_39 : decode cX4_readTarget 39 = .ok (.iload_n 3, 1) := by decide +kernel
theorem dX4_readTarget_40 : decode cX4_readTarget 40 = .ok (.aload_n 0, 1) := by decide +kernel
theorem dX4_readTarget_41 : decode cX4_readTarget 41 = .ok (.getfield 90, 3) := by decide +kernel
theorem dX4_readTarget_44 : decode cX4_readTarget 44 = .ok (.invokevirtual 141, 3) := by decide +kernel
theorem dX4_readTarget_47 : decode cX4_readTarget 47 = .ok (.iconst 1, 1) := by decide +kernel
theorem dX4_readTarget_48 : decode cX4_readTarget 48 = .ok (.ireturn, 1) := by decide +kernel
theorem dX4_readSay_0 : decode cX4_readSay 0 = .ok (.aload_n 1, 1) := by decide +kernel
theorem dX4_readSay_1 : decode cX4_readSay 1 = .ok (.getfield 128, 3) := by decide +kernel
theorem dX4_readSay_4 : decode cX4_readSay 4 = .ok (.bipush 8, 2) := by decide +kernel
theorem dX4_readSay_6 : decode cX4_readSay 6 = .ok (.if_icmp .lt 9, 3) := by decide +kernel
theorem dX4_readSay_9 : decode cX4_readSay 9 = .ok (.aload_n 0, 1) := by decide +kernel
theorem dX4_readSay_10 : decode cX4_readSay 10 = .ok (.iconst 3, 1) := by decide +kernel
theorem dX4_readSay_11 : decode cX4_readSay 11 = .ok (.invokevirtual 71, 3) := by decide +kernel
theorem dX4_readSay_14 : decode cX4_readSay 14 = .ok (.ireturn, 1) := by decide +kernel
theorem dX4_readSay_15 : decode cX4_readSay 15 = .ok (.aload_n 0, 1) := by decide +kernel
theorem dX4_readSay_16 : decode cX4_readSay 16 = .ok (.ldc 61, 2) := by decide +kernel
theorem dX4_readSay_18 : decode cX4_readSay 18 = .ok (.iconst 1, 1) := by decide +kernel
theorem dX4_readSay_19 : decode cX4_readSay 19 = .ok (.iconst 2, 1) := by decide +kernel
theorem dX4_readSay_20 : decode cX4_readSay 20 = .ok (.invokevirtual 86, 3) := by decide +kernel
theorem dX4_readSay_23 : decode cX4_readSay 23 = .ok (.ifCond .eq 19, 3) := by decide +kernel
theorem dX4_readSay_26 : decode cX4_readSay 26 = .ok (.aload_n 0, 1) := by decide +kernel
theorem dX4_readSay_27 : decode cX4_readSay 27 = .ok (.aload_n 1, 1) := by decide +kernel
theorem dX4_readSay_28 : decode cX4_readSay 28 = .ok (.aload_n 0, 1) := by decide +kernel
theorem dX4_readSay_29 : decode cX4_readSay 29 = .ok (.getfield 90, 3) := by decide +kernel
theorem dX4_readSay_32 : decode cX4_readSay 32 = .ok (.invokevirtual 131, 3) := by decide +kernel
theorem dX4_readSay_35 : decode cX4_readSay 35 = .ok (.ifCond .eq 7, 3) := by decide +kernel
theorem dX4_readSay_38 : decode cX4_readSay 38 = .ok (.iconst 1, 1) := by decide +kernel
theorem dX4_readSay_39 : decode cX4_readSay 39 = .ok (.goto 4, 3) := by decide +kernel
theorem dX4_readSay_42 : decode cX4_readSay 42 = .ok (.iconst 0, 1) := by decide +kernel
theorem dX4_readSay_43 : decode cX4_readSay 43 = .ok (.ireturn, 1) := by decide +kernel
theorem dX4_readSlug_0 : decode cX4_readSlug 0 = .ok (.aload_n 1, 1) := by decide +kernel
theorem dX4_readSlug_1 : decode cX4_readSlug 1 = .ok (.getfield 134, 3) := by decide +kernel
theorem dX4_readSlug_4 : decode cX4_readSlug 4 = .ok (.iconst 4, 1) := by decide +kernel
theorem dX4_readSlug_5 : decode cX4_readSlug 5 = .ok (.if_icmp .lt 9, 3) := by decide +kernel
theorem dX4_readSlug_8 : decode cX4_readSlug 8 = .ok (.aload_n 0, 1) := by decide +kernel
theorem dX4_readSlug_9 : decode cX4_readSlug 9 = .ok (.iconst 3, 1) := by decide +kernel
theorem dX4_readSlug_10 : decode cX4_readSlug 10 = .ok (.invokevirtual 71, 3) := by decide +kernel
theorem dX4_readSlug_13 : decode cX4_readSlug 13 = .ok (.ireturn, 1) := by decide +kernel
theorem dX4_readSlug_14 : decode cX4_readSlug 14 = .ok (.aload_n 0, 1) := by decide +kernel
theorem dX4_readSlug_15 : decode cX4_readSlug 15 = .ok (.ldc 66, 2) := by decide +kernel
theorem dX4_readSlug_17 : decode cX4_readSlug 17 = .ok (.invokevirtual 81, 3) := by decide +kernel
theorem dX4_readSlug_20 : decode cX4_readSlug 20 = .ok (.ifCond .eq 16, 3) := by decide +kernel
theorem dX4_readSlug_23 : decode cX4_readSlug 23 = .ok (.aload_n 0, 1) := by decide +kernel
theorem dX4_readSlug_24 : decode cX4_readSlug 24 = .ok (.aload_n 1, 1) := by decide +kernel
theorem dX4_readSlug_25 : decode cX4_readSlug 25 = .ok (.iconst 0, 1) := by decide +kernel
theorem dX4_readSlug_26 : decode cX4_readSlug 26 = .ok (.invokevirtual 131, 3) := by decide +kernel
theorem dX4_readSlug_29 : decode cX4_readSlug 29 = .ok (.ifCond .eq 7, 3) := by decide +kernel
theorem dX4_readSlug_32 : decode cX4_readSlug 32 = .ok (.iconst 1, 1) := by decide +kernel
theorem dX4_readSlug_33 : decode cX4_readSlug 33 = .ok (.goto 4, 3) := by decide +kernel
theorem dX4_readSlug_36 : decode cX4_readSlug 36 = .ok (.iconst 0, 1) := by decide +kernel
theorem dX4_readSlug_37 : decode cX4_readSlug 37 = .ok (.ireturn, 1) := by decide +kernel
theorem dX4_readHead_0 : decode cX4_readHead 0 = .ok (.aload_n 0, 1) := by decide +kernel
theorem dX4_readHead_1 : decode cX4_readHead 1 = .ok (.ldc 113, 2) := by decide +kernel
theorem dX4_readHead_3 : decode cX4_readHead 3 = .ok (.invokevirtual 54, 3) := by decide +kernel
theorem dX4_readHead_6 : decode cX4_readHead 6 = .ok (.ifCond .eq 24, 3) := by decide +kernel
theorem dX4_readHead_9 : decode cX4_readHead 9 = .ok (.iload_n 2, 1) := by decide +kernel
theorem dX4_readHead_10 : decode cX4_readHead 10 = .ok (.bipush 8, 2) := by decide +kernel
theorem dX4_readHead_12 : decode cX4_readHead 12 = .ok (.if_icmp .ge 12, 3) := by decide +kernel
theorem dX4_readHead_15 : decode cX4_readHead 15 = .ok (.aload_n 1, 1) := by decide +kernel
theorem dX4_readHead_16 : decode cX4_readHead 16 = .ok (.getfield 119, 3) := by decide +kernel
theorem dX4_readHead_19 : decode cX4_readHead 19 = .ok (.bipush 12, 2) := by decide +kernel
theorem dX4_readHead_21 : decode cX4_readHead 21 = .ok (.if_icmp .lt 9, 3) := by decide +kernel
theorem dX4_readHead_24 : decode cX4_readHead 24 = .ok (.aload_n 0, 1) := by decide +kernel
theorem dX4_readHead_25 : decode cX4_readHead 25 = .ok (.iconst 3, 1) := by decide +kernel
theorem dX4_readHead_26 : decode cX4_readHead 26 = .ok (.invokevirtual 71, 3) := by decide +kernel
theorem dX4_readHead_29 : decode cX4_readHead 29 = .ok (.ireturn, 1) := by decide +kernel
theorem dX4_readHead_30 : decode cX4_readHead 30 = .ok (.aload_n 0, 1) := by decide +kernel
theorem dX4_readHead_31 : decode cX4_readHead 31 = .ok (.ldc 113, 2) := by decide +kernel
theorem dX4_readHead_33 : decode cX4_readHead 33 = .ok (.iconst 1, 1) := by decide +kernel
theorem dX4_readHead_34 : decode cX4_readHead 34 = .ok (.iconst 4, 1) := by decide +kernel
theorem dX4_readHead_35 : decode cX4_readHead 35 = .ok (.invokevirtual 86, 3) := by decide +kernel
theorem dX4_readHead_38 : decode cX4_readHead 38 = .ok (.ifCond .ne 5, 3) := by decide +kernel
theorem dX4_readHead_41 : decode cX4_readHead 41 = .ok (.iconst 0, 1) := by decide +kernel
theorem dX4_readHead_42 : decode cX4_readHead 42 = .ok (.ireturn, 1) := by decide +kernel
theorem dX4_readHead_43 : decode cX4_readHead 43 = .ok (.aload_n 0, 1) := by decide +kernel
theorem dX4_readHead_44 : decode cX4_readHead 44 = .ok (.getfield 90, 3) := by decide +kernel
theorem dX4_readHead_47 : decode cX4_readHead 47 = .ok (.istore_n 3, 1) := by decide +kernel
theorem dX4_readHead_48 : decode cX4_readHead 48 = .ok (.iconst 0, 1) := by decide +kernel
theorem dX4_readHead_49 : decode cX4_readHead 49 = .ok (.istore 4, 2) := by decide +kernel
theorem dX4_readHead_51 : decode cX4_readHead 51 = .ok (.aload_n 0, 1) := by decide +kernel
theorem dX4_readHead_52 : decode cX4_readHead 52 = .ok (.ldc 122, 2) := by decide +kernel
theorem dX4_readHead_54 : decode cX4_readHead 54 = .ok (.invokevirtual 54, 3) := by decide +kernel
theorem dX4_readHead_57 : decode cX4_readHead 57 = .ok (.ifCond .eq 23, 3) := by decide +kernel
theorem dX4_readHead_60 : decode cX4_readHead 60 = .ok (.aload_n 0, 1) := by decide +kernel
theorem dX4_readHead_61 : decode cX4_readHead 61 = .ok (.ldc 122, 2) := by decide +kernel
theorem dX4_readHead_63 : decode cX4_readHead 63 = .ok (.iconst 1, 1) := by decide +kernel
theorem dX4_readHead_64 : decode cX4_readHead 64 = .ok (.bipush 16, 2) := by decide +kernel
theorem dX4_readHead_66 : decode cX4_readHead 66 = .ok (.invokevirtual 86, 3) := by decide +kernel
theorem dX4_readHead_69 : decode cX4_readHead 69 = .ok (.ifCond .ne 5, 3) := by decide +kernel
theorem dX4_readHead_72 : decode cX4_readHead 72 = .ok (.iconst 0, 1) := by decide +kernel
theorem dX4_readHead_73 : decode cX4_readHead 73 = .ok (.ireturn, 1) := by decide +kernel
theorem dX4_readHead_74 : decode cX4_readHead 74 = .ok (.aload_n 0, 1) := by decide +kernel
theorem dX4_readHead_75 : decode cX4_readHead 75 = .ok (.getfield 90, 3) := by decide +kernel
theorem dX4_readHead_78 : decode cX4_readHead 78 = .ok (.istore 4, 2) := by decide +kernel
theorem dX4_readHead_80 : decode cX4_readHead 80 = .ok (.aload_n 1, 1) := by decide +kernel
theorem dX4_readHead_81 : decode cX4_readHead 81 = .ok (.iload_n 3, 1) := by decide +kernel
theorem dX4_readHead_82 : decode cX4_readHead 82 = .ok (.iload 4, 2) := by decide +kernel
theorem dX4_readHead_84 : decode cX4_readHead 84 = .ok (.invokevirtual 124, 3) := by decide +kernel
theorem dX4_readHead_87 : decode cX4_readHead 87 = .ok (.iconst 1, 1) := by decide +kernel
theorem dX4_readHead_88 : decode cX4_readHead 88 = .ok (.ireturn, 1) := by decide +kernel
theorem dX4_readRow_0 : decode cX4_readRow 0 = .ok (.aload_n 1, 1) := by decide +kernel
theorem dX4_readRow_1 : decode cX4_readRow 1 = .ok (.invokevirtual 103, 3) := by decide +kernel
theorem dX4_readRow_4 : decode cX4_readRow 4 = .ok (.ifCond .le 9, 3) := by decide +kernel
theorem dX4_readRow_7 : decode cX4_readRow 7 = .ok (.aload_n 0, 1) := by decide +kernel
theorem dX4_readRow_8 : decode cX4_readRow 8 = .ok (.iconst 1, 1) := by decide +kernel
theorem dX4_readRow_9 : decode cX4_readRow 9 = .ok (.invokevirtual 71, 3) := by decide +kernel
theorem dX4_readRow_12 : decode cX4_readRow 12 = .ok (.ireturn, 1) := by decide +kernel
theorem dX4_readRow_13 : decode cX4_readRow 13 = .ok (.aload_n 1, 1) := by decide +kernel
theorem dX4_readRow_14 : decode cX4_readRow 14 = .ok (.getfield 107, 3) := by decide +kernel
theorem dX4_readRow_17 : decode cX4_readRow 17 = .ok (.iconst 4, 1) := by decide +kernel
theorem dX4_readRow_18 : decode cX4_readRow 18 = .ok (.if_icmp .lt 9, 3) := by decide +kernel
theorem dX4_readRow_21 : decode cX4_readRow 21 = .ok (.aload_n 0, 1) := by decide +kernel
theorem dX4_readRow_22 : decode cX4_readRow 22 = .ok (.iconst 3, 1) := by decide +kernel
theorem dX4_readRow_23 : decode cX4_readRow 23 = .ok (.invokevirtual 71, 3) := by decide +kernel
theorem dX4_readRow_26 : decode cX4_readRow 26 = .ok (.ireturn, 1) := by decide +kernel
theorem dX4_readRow_27 : decode cX4_readRow 27 = .ok (.aload_n 0, 1) := by decide +kernel
theorem dX4_readRow_28 : decode cX4_readRow 28 = .ok (.invokevirtual 33, 3) := by decide +kernel
theorem dX4_readRow_31 : decode cX4_readRow 31 = .ok (.aload_n 1, 1) := by decide +kernel
theorem dX4_readRow_32 : decode cX4_readRow 32 = .ok (.invokevirtual 110, 3) := by decide +kernel
theorem dX4_readRow_35 : decode cX4_readRow 35 = .ok (.iconst 0, 1) := by decide +kernel
theorem dX4_readRow_36 : decode cX4_readRow 36 = .ok (.istore_n 2, 1) := by decide +kernel
theorem dX4_readRow_37 : decode cX4_readRow 37 = .ok (.iload_n 2, 1) := by decide +kernel
theorem dX4_readRow_38 : decode cX4_readRow 38 = .ok (.bipush 8, 2) := by decide +kernel
theorem dX4_readRow_40 : decode cX4_readRow 40 = .ok (.if_icmp .gt 35, 3) := by decide +kernel
theorem dX4_readRow_43 : decode cX4_readRow 43 = .ok (.iload_n 2, 1) := by decide +kernel
theorem dX4_readRow_44 : decode cX4_readRow 44 = .ok (.ifCond .le 14, 3) := by decide +kernel
theorem dX4_readRow_47 : decode cX4_readRow 47 = .ok (.aload_n 0, 1) := by decide +kernel
theorem dX4_readRow_48 : decode cX4_readRow 48 = .ok (.ldc 113, 2) := by decide +kernel
theorem dX4_readRow_50 : decode cX4_readRow 50 = .ok (.invokevirtual 54, 3) := by decide +kernel
theorem dX4_readRow_53 : decode cX4_readRow 53 = .ok (.ifCond .ne 5, 3) := by decide +kernel
theorem dX4_readRow_56 : decode cX4_readRow 56 = .ok (.iconst 1, 1) := by decide +kernel
theorem dX4_readRow_57 : decode cX4_readRow 57 = .ok (.ireturn, 1) := by decide +kernel
theorem dX4_readRow_58 : decode cX4_readRow 58 = .ok (.aload_n 0, 1) := by decide +kernel
theorem dX4_readRow_59 : decode cX4_readRow 59 = .ok (.aload_n 1, 1) := by decide +kernel
theorem dX4_readRow_60 : decode cX4_readRow 60 = .ok (.iload_n 2, 1) := by decide +kernel
theorem dX4_readRow_61 : decode cX4_readRow 61 = .ok (.invokevirtual 115, 3) := by decide +kernel
theorem dX4_readRow_64 : decode cX4_readRow 64 = .ok (.ifCond .ne 5, 3) := by decide +kernel
theorem dX4_readRow_67 : decode cX4_readRow 67 = .ok (.iconst 0, 1) := by decide +kernel
theorem dX4_readRow_68 : decode cX4_readRow 68 = .ok (.ireturn, 1) := by decide +kernel
theorem dX4_readRow_69 : decode cX4_readRow 69 = .ok (.iinc 2 1, 3) := by decide +kernel
theorem dX4_readRow_72 : decode cX4_readRow 72 = .ok (.goto (-35), 3) := by decide +kernel
theorem dX4_readRow_75 : decode cX4_readRow 75 = .ok (.iconst 0, 1) := by decide +kernel
theorem dX4_readRow_76 : decode cX4_readRow 76 = .ok (.ireturn, 1) := by decide +kernel
theorem dX4_readLine_0 : decode cX4_readLine 0 = .ok (.aload_n 1, 1) := by decide +kernel
theorem dX4_readLine_1 : decode cX4_readLine 1 = .ok (.getfield 43, 3) := by decide +kernel
theorem dX4_readLine_4 : decode cX4_readLine 4 = .ok (.ifCond .ne 12, 3) := by decide +kernel
theorem dX4_readLine_7 : decode cX4_readLine 7 = .ok (.aload_n 0, 1) := by decide +kernel
theorem dX4_readLine_8 : decode cX4_readLine 8 = .ok (.aload_n 1, 1) := by decide +kernel
theorem dX4_readLine_9 : decode cX4_readLine 9 = .ok (.invokevirtual 49, 3) := by decide +kernel
theorem dX4_readLine_12 : decode cX4_readLine 12 = .ok (.istore_n 2, 1) := by decide +kernel
theorem dX4_readLine_13 : decode cX4_readLine 13 = .ok (.goto 63, 3) := by decide +kernel
theorem dX4_readLine_16 : decode cX4_readLine 16 = .ok (.aload_n 0, 1) := by decide +kernel
theorem dX4_readLine_17 : decode cX4_readLine 17 = .ok (.ldc 52, 2) := by decide +kernel
theorem dX4_readLine_19 : decode cX4_readLine 19 = .ok (.invokevirtual 54, 3) := by decide +kernel
theorem dX4_readLine_22 : decode cX4_readLine 22 = .ok (.ifCond .eq 12, 3) := by decide +kernel
theorem dX4_readLine_25 : decode cX4_readLine 25 = .ok (.aload_n 0, 1) := by decide +kernel
theorem dX4_readLine_26 : decode cX4_readLine 26 = .ok (.aload_n 1, 1) := by decide +kernel
theorem dX4_readLine_27 : decode cX4_readLine 27 = .ok (.invokevirtual 58, 3) := by decide +kernel
theorem dX4_readLine_30 : decode cX4_readLine 30 = .ok (.istore_n 2, 1) := by decide +kernel
theorem dX4_readLine_31 : decode cX4_readLine 31 = .ok (.goto 45, 3) := by decide +kernel
theorem dX4_readLine_34 : decode cX4_readLine 34 = .ok (.aload_n 0, 1) := by decide +kernel
theorem dX4_readLine_35 : decode cX4_readLine 35 = .ok (.ldc 61, 2) := by decide +kernel
theorem dX4_readLine_37 : decode cX4_readLine 37 = .ok (.invokevirtual 54, 3) := by decide +kernel
theorem dX4_readLine_40 : decode cX4_readLine 40 = .ok (.ifCond .eq 12, 3) := by decide +kernel
theorem dX4_readLine_43 : decode cX4_readLine 43 = .ok (.aload_n 0, 1) := by decide +kernel
theorem dX4_readLine_44 : decode cX4_readLine 44 = .ok (.aload_n 1, 1) := by decide +kernel
theorem dX4_readLine_45 : decode cX4_readLine 45 = .ok (.invokevirtual 63, 3) := by decide +kernel
theorem dX4_readLine_48 : decode cX4_readLine 48 = .ok (.istore_n 2, 1) := by decide +kernel
theorem dX4_readLine_49 : decode cX4_readLine 49 = .ok (.goto 27, 3) := by decide +kernel
theorem dX4_readLine_52 : decode cX4_readLine 52 = .ok (.aload_n 0, 1) := by decide +kernel
theorem dX4_readLine_53 : decode cX4_readLine 53 = .ok (.ldc 66, 2) := by decide +kernel
theorem dX4_readLine_55 : decode cX4_readLine 55 = .ok (.invokevirtual 54, 3) := by decide +kernel
theorem dX4_readLine_58 : decode cX4_readLine 58 = .ok (.ifCond .eq 12, 3) := by decide +kernel
theorem dX4_readLine_61 : decode cX4_readLine 61 = .ok (.aload_n 0, 1) := by decide +kernel
theorem dX4_readLine_62 : decode cX4_readLine 62 = .ok (.aload_n 1, 1) := by decide +kernel
theorem dX4_readLine_63 : decode cX4_readLine 63 = .ok (.invokevirtual 68, 3) := by decide +kernel
theorem dX4_readLine_66 : decode cX4_readLine 66 = .ok (.istore_n 2, 1) := by decide +kernel
theorem dX4_readLine_67 : decode cX4_readLine 67 = .ok (.goto 9, 3) := by decide +kernel
theorem dX4_readLine_70 : decode cX4_readLine 70 = .ok (.aload_n 0, 1) := by decide +kernel
theorem dX4_readLine_71 : decode cX4_readLine 71 = .ok (.iconst 1, 1) := by decide +kernel
theorem dX4_readLine_72 : decode cX4_readLine 72 = .ok (.invokevirtual 71, 3) := by decide +kernel
theorem dX4_readLine_75 : decode cX4_readLine 75 = .ok (.istore_n 2, 1) := by decide +kernel
theorem dX4_readLine_76 : decode cX4_readLine 76 = .ok (.iload_n 2, 1) := by decide +kernel
theorem dX4_readLine_77 : decode cX4_readLine 77 = .ok (.ifCond .eq 14, 3) := by decide +kernel
theorem dX4_readLine_80 : decode cX4_readLine 80 = .ok (.aload_n 0, 1) := by decide +kernel
theorem dX4_readLine_81 : decode cX4_readLine 81 = .ok (.invokevirtual 75, 3) := by decide +kernel
theorem dX4_readLine_84 : decode cX4_readLine 84 = .ok (.ifCond .eq 7, 3) := by decide +kernel
theorem dX4_readLine_87 : decode cX4_readLine 87 = .ok (.iconst 1, 1) := by decide +kernel
theorem dX4_readLine_88 : decode cX4_readLine 88 = .ok (.goto 4, 3) := by decide +kernel
theorem dX4_readLine_91 : decode cX4_readLine 91 = .ok (.iconst 0, 1) := by decide +kernel
theorem dX4_readLine_92 : decode cX4_readLine 92 = .ok (.ireturn, 1) := by decide +kernel
theorem dX4_parse_0 : decode cX4_parse 0 = .ok (.aload_n 1, 1) := by decide +kernel
theorem dX4_parse_1 : decode cX4_parse 1 = .ok (.invokevirtual 22, 3) := by decide +kernel
theorem dX4_parse_4 : decode cX4_parse 4 = .ok (.aload_n 0, 1) := by decide +kernel
theorem dX4_parse_5 : decode cX4_parse 5 = .ok (.iconst 0, 1) := by decide +kernel
theorem dX4_parse_6 : decode cX4_parse 6 = .ok (.putfield 27, 3) := by decide +kernel
theorem dX4_parse_9 : decode cX4_parse 9 = .ok (.aload_n 0, 1) := by decide +kernel
theorem dX4_parse_10 : decode cX4_parse 10 = .ok (.iconst (-1), 1) := by decide +kernel
theorem dX4_parse_11 : decode cX4_parse 11 = .ok (.putfield 15, 3) := by decide +kernel
theorem dX4_parse_14 : decode cX4_parse 14 = .ok (.aload_n 0, 1) := by decide +kernel
theorem dX4_parse_15 : decode cX4_parse 15 = .ok (.iconst 0, 1) := by decide +kernel
theorem dX4_parse_16 : decode cX4_parse 16 = .ok (.putfield 30, 3) := by decide +kernel
theorem dX4_parse_19 : decode cX4_parse 19 = .ok (.aload_n 0, 1) := by decide +kernel
theorem dX4_parse_20 : decode cX4_parse 20 = .ok (.invokevirtual 33, 3) := by decide +kernel
theorem dX4_parse_23 : decode cX4_parse 23 = .ok (.iconst 0, 1) := by decide +kernel
theorem dX4_parse_24 : decode cX4_parse 24 = .ok (.istore_n 2, 1) := by decide +kernel
theorem dX4_parse_25 : decode cX4_parse 25 = .ok (.iload_n 2, 1) := by decide +kernel
theorem dX4_parse_26 : decode cX4_parse 26 = .ok (.sipush 600, 3) := by decide +kernel
theorem dX4_parse_29 : decode cX4_parse 29 = .ok (.if_icmp .ge 36, 3) := by decide +kernel
theorem dX4_parse_32 : decode cX4_parse 32 = .ok (.aload_n 0, 1) := by decide +kernel
theorem dX4_parse_33 : decode cX4_parse 33 = .ok (.getfield 36, 3) := by decide +kernel
theorem dX4_parse_36 : decode cX4_parse 36 = .ok (.ifCond .eq 29, 3) := by decide +kernel
theorem dX4_parse_39 : decode cX4_parse 39 = .ok (.aload_n 0, 1) := by decide +kernel
theorem dX4_parse_40 : decode cX4_parse 40 = .ok (.aload_n 1, 1) := by decide +kernel
theorem dX4_parse_41 : decode cX4_parse 41 = .ok (.invokevirtual 39, 3) := by decide +kernel
theorem dX4_parse_44 : decode cX4_parse 44 = .ok (.ifCond .ne 5, 3) := by decide +kernel
theorem dX4_parse_47 : decode cX4_parse 47 = .ok (.iconst 0, 1) := by decide +kernel
theorem dX4_parse_48 : decode cX4_parse 48 = .ok (.ireturn, 1) := by decide +kernel
theorem dX4_parse_49 : decode cX4_parse 49 = .ok (.aload_n 1, 1) := by decide +kernel
theorem dX4_parse_50 : decode cX4_parse 50 = .ok (.dup, 1) := by decide +kernel
theorem dX4_parse_51 : decode cX4_parse 51 = .ok (.getfield 43, 3) := by decide +kernel
theorem dX4_parse_54 : decode cX4_parse 54 = .ok (.iconst 1, 1) := by decide +kernel
theorem dX4_parse_55 : decode cX4_parse 55 = .ok (.iadd, 1) := by decide +kernel
theorem dX4_parse_56 : decode cX4_parse 56 = .ok (.putfield 43, 3) := by decide +kernel
theorem dX4_parse_59 : decode cX4_parse 59 = .ok (.iinc 2 1, 3) := by decide +kernel
theorem dX4_parse_62 : decode cX4_parse 62 = .ok (.goto (-37), 3) := by decide +kernel
theorem dX4_parse_65 : decode cX4_parse 65 = .ok (.aload_n 1, 1) := by decide +kernel
theorem dX4_parse_66 : decode cX4_parse 66 = .ok (.invokevirtual 46, 3) := by decide +kernel
theorem dX4_parse_69 : decode cX4_parse 69 = .ok (.iconst 1, 1) := by decide +kernel
theorem dX4_parse_70 : decode cX4_parse 70 = .ok (.ireturn, 1) := by decide +kernel
theorem dX2_copy_0 : decode cX2_copy 0 = .ok (.aload_n 0, 1) := by decide +kernel
theorem dX2_copy_1 : decode cX2_copy 1 = .ok (.aload_n 1, 1) := by decide +kernel
theorem dX2_copy_2 : decode cX2_copy 2 = .ok (.getfield 42, 3) := by decide +kernel
theorem dX2_copy_5 : decode cX2_copy 5 = .ok (.putfield 42, 3) := by decide +kernel
theorem dX2_copy_8 : decode cX2_copy 8 = .ok (.aload_n 0, 1) := by decide +kernel
theorem dX2_copy_9 : decode cX2_copy 9 = .ok (.aload_n 1, 1) := by decide +kernel
theorem dX2_copy_10 : decode cX2_copy 10 = .ok (.getfield 46, 3) := by decide +kernel
theorem dX2_copy_13 : decode cX2_copy 13 = .ok (.putfield 46, 3) := by decide +kernel
theorem dX2_copy_16 : decode cX2_copy 16 = .ok (.aload_n 0, 1) := by decide +kernel
theorem dX2_copy_17 : decode cX2_copy 17 = .ok (.aload_n 1, 1) := by decide +kernel
theorem dX2_copy_18 : decode cX2_copy 18 = .ok (.getfield 49, 3) := by decide +kernel
theorem dX2_copy_21 : decode cX2_copy 21 = .ok (.putfield 49, 3) := by decide +kernel
theorem dX2_copy_24 : decode cX2_copy 24 = .ok (.aload_n 0, 1) := by decide +kernel
theorem dX2_copy_25 : decode cX2_copy 25 = .ok (.aload_n 1, 1) := by decide +kernel
theorem dX2_copy_26 : decode cX2_copy 26 = .ok (.getfield 52, 3) := by decide +kernel
theorem dX2_copy_29 : decode cX2_copy 29 = .ok (.putfield 52, 3) := by decide +kernel
theorem dX2_copy_32 : decode cX2_copy 32 = .ok (.aload_n 0, 1) := by decide +kernel
theorem dX2_copy_33 : decode cX2_copy 33 = .ok (.aload_n 1, 1) := by decide +kernel
theorem dX2_copy_34 : decode cX2_copy 34 = .ok (.getfield 55, 3) := by decide +kernel
theorem dX2_copy_37 : decode cX2_copy 37 = .ok (.putfield 55, 3) := by decide +kernel
theorem dX2_copy_40 : decode cX2_copy 40 = .ok (.aload_n 0, 1) := by decide +kernel
theorem dX2_copy_41 : decode cX2_copy 41 = .ok (.aload_n 1, 1) := by decide +kernel
theorem dX2_copy_42 : decode cX2_copy 42 = .ok (.getfield 58, 3) := by decide +kernel
theorem dX2_copy_45 : decode cX2_copy 45 = .ok (.putfield 58, 3) := by decide +kernel
theorem dX2_copy_48 : decode cX2_copy 48 = .ok (.aload_n 0, 1) := by decide +kernel
theorem dX2_copy_49 : decode cX2_copy 49 = .ok (.aload_n 1, 1) := by decide +kernel
theorem dX2_copy_50 : decode cX2_copy 50 = .ok (.getfield 61, 3) := by decide +kernel
theorem dX2_copy_53 : decode cX2_copy 53 = .ok (.putfield 61, 3) := by decide +kernel
theorem dX2_copy_56 : decode cX2_copy 56 = .ok (.aload_n 0, 1) := by decide +kernel
theorem dX2_copy_57 : decode cX2_copy 57 = .ok (.aload_n 1, 1) := by decide +kernel
theorem dX2_copy_58 : decode cX2_copy 58 = .ok (.getfield 64, 3) := by decide +kernel
theorem dX2_copy_61 : decode cX2_copy 61 = .ok (.putfield 64, 3) := by decide +kernel
theorem dX2_copy_64 : decode cX2_copy 64 = .ok (.aload_n 0, 1) := by decide +kernel
theorem dX2_copy_65 : decode cX2_copy 65 = .ok (.aload_n 1, 1) := by decide +kernel
theorem dX2_copy_66 : decode cX2_copy 66 = .ok (.getfield 67, 3) := by decide +kernel
theorem dX2_copy_69 : decode cX2_copy 69 = .ok (.putfield 67, 3) := by decide +kernel
theorem dX2_copy_72 : decode cX2_copy 72 = .ok (.aload_n 1, 1) := by decide +kernel
theorem dX2_copy_73 : decode cX2_copy 73 = .ok (.getfield 9, 3) := by decide +kernel
theorem dX2_copy_76 : decode cX2_copy 76 = .ok (.iconst 0, 1) := by decide +kernel
theorem dX2_copy_77 : decode cX2_copy 77 = .ok (.aload_n 0, 1) := by decide +kernel
theorem dX2_copy_78 : decode cX2_copy 78 = .ok (.getfield 9, 3) := by decide +kernel
theorem dX2_copy_81 : decode cX2_copy 81 = .ok (.iconst 0, 1) := by decide +kernel
theorem dX2_copy_82 : decode cX2_copy 82 = .ok (.bipush 12, 2) := by decide +kernel
theorem dX2_copy_84 : decode cX2_copy 84 = .ok (.invokestatic 70, 3) := by decide +kernel
theorem dX2_copy_87 : decode cX2_copy 87 = .ok (.aload_n 1, 1) := by decide +kernel
theorem dX2_copy_88 : decode cX2_copy 88 = .ok (.getfield 15, 3) := by decide +kernel
theorem dX2_copy_91 : decode cX2_copy 91 = .ok (.iconst 0, 1) := by decide +kernel
theorem dX2_copy_92 : decode cX2_copy 92 = .ok (.aload_n 0, 1) := by decide +kernel
theorem dX2_copy_93 : decode cX2_copy 93 = .ok (.getfield 15, 3) := by decide +kernel
theorem dX2_copy_96 : decode cX2_copy 96 = .ok (.iconst 0, 1) := by decide +kernel
theorem dX2_copy_97 : decode cX2_copy 97 = .ok (.bipush 12, 2) := by decide +kernel
theorem dX2_copy_99 : decode cX2_copy 99 = .ok (.invokestatic 70, 3) := by decide +kernel
theorem dX2_copy_102 : decode cX2_copy 102 = .ok (.aload_n 1, 1) := by decide +kernel
theorem dX2_copy_103 : decode cX2_copy 103 = .ok (.getfield 18, 3) := by decide +kernel
theorem dX2_copy_106 : decode cX2_copy 106 = .ok (.iconst 0, 1) := by decide +kernel
theorem dX2_copy_107 : decode cX2_copy 107 = .ok (.aload_n 0, 1) := by decide +kernel
theorem dX2_copy_108 : decode cX2_copy 108 = .ok (.getfield 18, 3) := by decide +kernel
theorem dX2_copy_111 : decode cX2_copy 111 = .ok (.iconst 0, 1) := by decide +kernel
theorem dX2_copy_112 : decode cX2_copy 112 = .ok (.bipush 12, 2) := by decide +kernel
theorem dX2_copy_114 : decode cX2_copy 114 = .ok (.invokestatic 70, 3) := by decide +kernel
theorem dX2_copy_117 : decode cX2_copy 117 = .ok (.aload_n 1, 1) := by decide +kernel
theorem dX2_copy_118 : decode cX2_copy 118 = .ok (.getfield 21, 3) := by decide +kernel
theorem dX2_copy_121 : decode cX2_copy 121 = .ok (.iconst 0, 1) := by decide +kernel
theorem dX2_copy_122 : decode cX2_copy 122 = .ok (.aload_n 0, 1) := by decide +kernel
theorem dX2_copy_123 : decode cX2_copy 123 = .ok (.getfield 21, 3) := by decide +kernel
theorem dX2_copy_126 : decode cX2_copy 126 = .ok (.iconst 0, 1) := by decide +kernel
theorem dX2_copy_127 : decode cX2_copy 127 = .ok (.bipush 12, 2) := by decide +kernel
theorem dX2_copy_129 : decode cX2_copy 129 = .ok (.invokestatic 70, 3) := by decide +kernel
theorem dX2_copy_132 : decode cX2_copy 132 = .ok (.aload_n 1, 1) := by decide +kernel
theorem dX2_copy_133 : decode cX2_copy 133 = .ok (.getfield 24, 3) := by decide +kernel
theorem dX2_copy_136 : decode cX2_copy 136 = .ok (.iconst 0, 1) := by decide +kernel
theorem dX2_copy_137 : decode cX2_copy 137 = .ok (.aload_n 0, 1) := by decide +kernel
theorem dX2_copy_138 : decode cX2_copy 138 = .ok (.getfield 24, 3) := by decide +kernel
theorem dX2_copy_141 : decode cX2_copy 141 = .ok (.iconst 0, 1) := by decide +kernel
theorem dX2_copy_142 : decode cX2_copy 142 = .ok (.bipush 12, 2) := by decide +kernel
theorem dX2_copy_144 : decode cX2_copy 144 = .ok (.invokestatic 70, 3) := by decide +kernel
theorem dX2_copy_147 : decode cX2_copy 147 = .ok (.aload_n 1, 1) := by decide +kernel
theorem dX2_copy_148 : decode cX2_copy 148 = .ok (.getfield 27, 3) := by decide +kernel
theorem dX2_copy_151 : decode cX2_copy 151 = .ok (.iconst 0, 1) := by decide +kernel
theorem dX2_copy_152 : decode cX2_copy 152 = .ok (.aload_n 0, 1) := by decide +kernel
theorem dX2_copy_153 : decode cX2_copy 153 = .ok (.getfield 27, 3) := by decide +kernel
theorem dX2_copy_156 : decode cX2_copy 156 = .ok (.iconst 0, 1) := by decide +kernel
theorem dX2_copy_157 : decode cX2_copy 157 = .ok (.bipush 12, 2) := by decide +kernel
theorem dX2_copy_159 : decode cX2_copy 159 = .ok (.invokestatic 70, 3) := by decide +kernel
theorem dX2_copy_162 : decode cX2_copy 162 = .ok (.aload_n 1, 1) := by decide +kernel
theorem dX2_copy_163 : decode cX2_copy 163 = .ok (.getfield 30, 3) := by decide +kernel
theorem dX2_copy_166 : decode cX2_copy 166 = .ok (.iconst 0, 1) := by decide +kernel
theorem dX2_copy_167 : decode cX2_copy 167 = .ok (.aload_n 0, 1) := by decide +kernel
theorem dX2_copy_168 : decode cX2_copy 168 = .ok (.getfield 30, 3) := by decide +kernel
theorem dX2_copy_171 : decode cX2_copy 171 = .ok (.iconst 0, 1) := by decide +kernel
theorem dX2_copy_172 : decode cX2_copy 172 = .ok (.iconst 4, 1) := by decide +kernel
theorem dX2_copy_173 : decode cX2_copy 173 = .ok (.invokestatic 70, 3) := by decide +kernel
theorem dX2_copy_176 : decode cX2_copy 176 = .ok (.aload_n 1, 1) := by decide +kernel
theorem dX2_copy_177 : decode cX2_copy 177 = .ok (.getfield 33, 3) := by decide +kernel
theorem dX2_copy_180 : decode cX2_copy 180 = .ok (.iconst 0, 1) := by decide +kernel
theorem dX2_copy_181 : decode cX2_copy 181 = .ok (.aload_n 0, 1) := by decide +kernel
theorem dX2_copy_182 : decode cX2_copy 182 = .ok (.getfield 33, 3) := by decide +kernel
theorem dX2_copy_185 : decode cX2_copy 185 = .ok (.iconst 0, 1) := by decide +kernel
theorem dX2_copy_186 : decode cX2_copy 186 = .ok (.bipush 42, 2) := by decide +kernel
theorem dX2_copy_188 : decode cX2_copy 188 = .ok (.invokestatic 70, 3) := by decide +kernel
theorem dX2_copy_191 : decode cX2_copy 191 = .ok (.aload_n 1, 1) := by decide +kernel
theorem dX2_copy_192 : decode cX2_copy 192 = .ok (.getfield 36, 3) := by decide +kernel
theorem dX2_copy_195 : decode cX2_copy 195 = .ok (.iconst 0, 1) := by decide +kernel
theorem dX2_copy_196 : decode cX2_copy 196 = .ok (.aload_n 0, 1) := by decide +kernel
theorem dX2_copy_197 : decode cX2_copy 197 = .ok (.getfield 36, 3) := by decide +kernel
theorem dX2_copy_200 : decode cX2_copy 200 = .ok (.iconst 0, 1) := by decide +kernel
theorem dX2_copy_201 : decode cX2_copy 201 = .ok (.bipush 42, 2) := by decide +kernel
theorem dX2_copy_203 : decode cX2_copy 203 = .ok (.invokestatic 70, 3) := by decide +kernel
theorem dX2_copy_206 : decode cX2_copy 206 = .ok (.aload_n 1, 1) := by decide +kernel
theorem dX2_copy_207 : decode cX2_copy 207 = .ok (.getfield 39, 3) := by decide +kernel
theorem dX2_copy_210 : decode cX2_copy 210 = .ok (.iconst 0, 1) := by decide +kernel
theorem dX2_copy_211 : decode cX2_copy 211 = .ok (.aload_n 0, 1) := by decide +kernel
theorem dX2_copy_212 : decode cX2_copy 212 = .ok (.getfield 39, 3) := by decide +kernel
theorem dX2_copy_215 : decode cX2_copy 215 = .ok (.iconst 0, 1) := by decide +kernel
theorem dX2_copy_216 : decode cX2_copy 216 = .ok (.bipush 42, 2) := by decide +kernel
theorem dX2_copy_218 : decode cX2_copy 218 = .ok (.invokestatic 70, 3) := by decide +kernel
theorem dX2_copy_221 : decode cX2_copy 221 = .ok (.return_, 1) := by decide +kernel
set_option maxHeartbeats 4000000 in
set_option maxRecDepth 100000 in
theorem ctX4_kindOf (l : Launch) (D : va_G) (k : Nat → ClassId) (z : Nat → Nat) (p0 : Int32)  : RO l yX4_kindOf cX4_kindOf 1 (some .int) 0 D k z [.int p0] [] (Qi (fun r : Int32 => True)) := by
  refine RO.of (by decide) (Nat.le_of_ble_eq_true rfl) ?_
  intro p e s m below meth c ls A B args Q S hr hlk hQ hK hP hDW hZ hAB hBA hA hS hl
  have hx := S.1
  have hb := S.2.1
  have hl : lv_has ls 1 [(0, .int p0)] := hl
  refine lv_iload_n hx hb dX4_kindOf_0 rfl (lv_at hl 0 rfl) ?_
  refine lv_bipush (v := 32) hx hb dX4_kindOf_1 (by decide) ?_
  refine lv_icmp_eq (tgt := 12) hx hb dX4_kindOf_3 (by decide) (fun c_1 => ?_) (fun c_1 => ?_)
  · skip
    refine lv_iconst (v := 5) hx hb dX4_kindOf_12 (by decide) ?_
    exact x_reti S hr hlk hQ hS () trivial x_T dX4_kindOf_13
  · skip
    refine lv_iload_n hx hb dX4_kindOf_6 rfl (lv_at hl 0 rfl) ?_
    refine lv_bipush (v := 10) hx hb dX4_kindOf_7 (by decide) ?_
    refine lv_icmp_ne (tgt := 14) hx hb dX4_kindOf_9 (by decide) (fun c_2 => ?_) (fun c_2 => ?_)
    · skip
      refine lv_iload_n hx hb dX4_kindOf_14 rfl (lv_at hl 0 rfl) ?_
      refine lv_bipush (v := 97) hx hb dX4_kindOf_15 (by decide) ?_
      refine lv_icmp_lt (tgt := 28) hx hb dX4_kindOf_17 (by decide) (fun c_3 => ?_) (fun c_3 => ?_)
      · skip
        refine lv_iload_n hx hb dX4_kindOf_28 rfl (lv_at hl 0 rfl) ?_
        refine lv_bipush (v := 48) hx hb dX4_kindOf_29 (by decide) ?_
        refine lv_icmp_lt (tgt := 42) hx hb dX4_kindOf_31 (by decide) (fun c_4 => ?_) (fun c_4 => ?_)
        · skip
          refine lv_iload_n hx hb dX4_kindOf_42 rfl (lv_at hl 0 rfl) ?_
          refine lv_bipush (v := 59) hx hb dX4_kindOf_43 (by decide) ?_
          refine lv_icmp_ne (tgt := 52) hx hb dX4_kindOf_45 (by decide) (fun c_5 => ?_) (fun c_5 => ?_)
          · skip
            refine lv_iconst (v := 4) hx hb dX4_kindOf_52 (by decide) ?_
            exact x_reti S hr hlk hQ hS () trivial x_T dX4_kindOf_53
          · skip
            refine lv_iconst (v := 3) hx hb dX4_kindOf_48 (by decide) ?_
            refine lv_goto (tgt := 53) hx hb dX4_kindOf_49 (by decide) ?_
            exact x_reti S hr hlk hQ hS () trivial x_T dX4_kindOf_53
        · skip
          refine lv_iload_n hx hb dX4_kindOf_34 rfl (lv_at hl 0 rfl) ?_
          refine lv_bipush (v := 57) hx hb dX4_kindOf_35 (by decide) ?_
          refine lv_icmp_gt (tgt := 42) hx hb dX4_kindOf_37 (by decide) (fun c_6 => ?_) (fun c_6 => ?_)
          · skip
            refine lv_iload_n hx hb dX4_kindOf_42 rfl (lv_at hl 0 rfl) ?_
            refine lv_bipush (v := 59) hx hb dX4_kindOf_43 (by decide) ?_
            refine lv_icmp_ne (tgt := 52) hx hb dX4_kindOf_45 (by decide) (fun c_7 => ?_) (fun c_7 => ?_)
            · skip
              refine lv_iconst (v := 4) hx hb dX4_kindOf_52 (by decide) ?_
              exact x_reti S hr hlk hQ hS () trivial x_T dX4_kindOf_53
            · skip
              refine lv_iconst (v := 3) hx hb dX4_kindOf_48 (by decide) ?_
              refine lv_goto (tgt := 53) hx hb dX4_kindOf_49 (by decide) ?_
              exact x_reti S hr hlk hQ hS () trivial x_T dX4_kindOf_53
          · skip
            refine lv_iconst (v := 2) hx hb dX4_kindOf_40 (by decide) ?_
            exact x_reti S hr hlk hQ hS () trivial x_T dX4_kindOf_41
      · skip
        refine lv_iload_n hx hb dX4_kindOf_20 rfl (lv_at hl 0 rfl) ?_
        refine lv_bipush (v := 122) hx hb dX4_kindOf_21 (by decide) ?_
        refine lv_icmp_gt (tgt := 28) hx hb dX4_kindOf_23 (by decide) (fun c_8 => ?_) (fun c_8 => ?_)
        · skip
          refine lv_iload_n hx hb dX4_kindOf_28 rfl (lv_at hl 0 rfl) ?_
          refine lv_bipush (v := 48) hx hb dX4_kindOf_29 (by decide) ?_
          refine lv_icmp_lt (tgt := 42) hx hb dX4_kindOf_31 (by decide) (fun c_9 => ?_) (fun c_9 => ?_)
          · skip
            refine lv_iload_n hx hb dX4_kindOf_42 rfl (lv_at hl 0 rfl) ?_
            refine lv_bipush (v := 59) hx hb dX4_kindOf_43 (by decide) ?_
            refine lv_icmp_ne (tgt := 52) hx hb dX4_kindOf_45 (by decide) (fun c_10 => ?_) (fun c_10 => ?_)
            · skip
              refine lv_iconst (v := 4) hx hb dX4_kindOf_52 (by decide) ?_
              exact x_reti S hr hlk hQ hS () trivial x_T dX4_kindOf_53
            · skip
              refine lv_iconst (v := 3) hx hb dX4_kindOf_48 (by decide) ?_
              refine lv_goto (tgt := 53) hx hb dX4_kindOf_49 (by decide) ?_
              exact x_reti S hr hlk hQ hS () trivial x_T dX4_kindOf_53
          · skip
            refine lv_iload_n hx hb dX4_kindOf_34 rfl (lv_at hl 0 rfl) ?_
            refine lv_bipush (v := 57) hx hb dX4_kindOf_35 (by decide) ?_
            refine lv_icmp_gt (tgt := 42) hx hb dX4_kindOf_37 (by decide) (fun c_11 => ?_) (fun c_11 => ?_)
            · skip
              refine lv_iload_n hx hb dX4_kindOf_42 rfl (lv_at hl 0 rfl) ?_
              refine lv_bipush (v := 59) hx hb dX4_kindOf_43 (by decide) ?_
              refine lv_icmp_ne (tgt := 52) hx hb dX4_kindOf_45 (by decide) (fun c_12 => ?_) (fun c_12 => ?_)
              · skip
                refine lv_iconst (v := 4) hx hb dX4_kindOf_52 (by decide) ?_
                exact x_reti S hr hlk hQ hS () trivial x_T dX4_kindOf_53
              · skip
                refine lv_iconst (v := 3) hx hb dX4_kindOf_48 (by decide) ?_
                refine lv_goto (tgt := 53) hx hb dX4_kindOf_49 (by decide) ?_
                exact x_reti S hr hlk hQ hS () trivial x_T dX4_kindOf_53
            · skip
              refine lv_iconst (v := 2) hx hb dX4_kindOf_40 (by decide) ?_
              exact x_reti S hr hlk hQ hS () trivial x_T dX4_kindOf_41
        · skip
          refine lv_iconst (v := 1) hx hb dX4_kindOf_26 (by decide) ?_
          exact x_reti S hr hlk hQ hS () trivial x_T dX4_kindOf_27
    · skip
      refine lv_iconst (v := 5) hx hb dX4_kindOf_12 (by decide) ?_
      exact x_reti S hr hlk hQ hS () trivial x_T dX4_kindOf_13

set_option maxHeartbeats 4000000 in
set_option maxRecDepth 100000 in
theorem ctX4_hasRoom (l : Launch) (D : va_G) (k : Nat → ClassId) (z : Nat → Nat) (o : Nat → Nat) (rfault : Int32) (rplace : Int32) (rkind : Int32) (rvalue : Int32) (rnumber : Int32) (rsize : Nat) (rstart : Nat) (rnext : Nat) (f15 : Nat → Int32) (hrsize : rsize ≤ 600) (hrstart : rstart ≤ 600) (hrnext : rnext ≤ 600) : RO l yX4_hasRoom cX4_hasRoom 1 (some .boolean) 0 D k z [.ref (o 1)] [((o 1), .inr (4, [.ref (o 15), .int (nI rsize), .int rfault, .int rplace, .int rkind, .int (nI rstart), .int (nI rnext), .int rvalue, .int rnumber])), ((o 15), .inl (k 1, 600, .inl f15))] (Qi (fun r : Int32 => True)) := by
  refine RO.of (by decide) (Nat.le_of_ble_eq_true rfl) ?_
  intro p e s m below meth c ls A B args Q S hr hlk hQ hK hP hDW hZ hAB hBA hA hS hl
  have hx := S.1
  have hb := S.2.1
  have hl : lv_has ls 1 [(0, .ref (o 1))] := hl
  refine lv_aload_n hx hb dX4_hasRoom_0 rfl (lv_at hl 0 rfl) ?_
  refine x_get S hK hP 0 rfl cfX4 1 lkX4_19 (by decide) rfl dX4_hasRoom_1 ?_
  refine lv_bipush (v := 20) hx hb dX4_hasRoom_4 (by decide) ?_
  refine lv_iadd hx hb dX4_hasRoom_6 ?_
  refine x_is (nI (rsize + 20)) (ni_add rfl (by decide)) ?_
  refine lv_sipush (v := 600) hx hb dX4_hasRoom_7 (by decide) ?_
  refine lv_icmp_gt (tgt := 17) hx hb dX4_hasRoom_10 (by decide) (fun c_1 => ?_) (fun c_1 => ?_)
  · skip
    have c_1 : 600 < rsize + 20 := (ni_lt (by decide) rfl (by omega) (by omega)).mp c_1
    refine lv_iconst (v := 0) hx hb dX4_hasRoom_17 (by decide) ?_
    exact x_retz S hr hlk hQ hS rfl () trivial x_T dX4_hasRoom_18
  · skip
    have c_1 : ¬ 600 < rsize + 20 := fun q => c_1 ((ni_lt (by decide) rfl (by omega) (by omega)).mpr q)
    refine lv_iconst (v := 1) hx hb dX4_hasRoom_13 (by decide) ?_
    refine lv_goto (tgt := 18) hx hb dX4_hasRoom_14 (by decide) ?_
    exact x_retz S hr hlk hQ hS rfl () trivial x_T dX4_hasRoom_18

set_option maxHeartbeats 4000000 in
set_option maxRecDepth 100000 in
theorem ctX4_append (l : Launch) (D : va_G) (k : Nat → ClassId) (z : Nat → Nat) (o : Nat → Nat) (rfault : Int32) (rplace : Int32) (rkind : Int32) (rvalue : Int32) (rnumber : Int32) (rsize : Nat) (rstart : Nat) (rnext : Nat) (f15 : Nat → Int32) (p0 : Int32) (hrsize : rsize ≤ 600) (hrstart : rstart ≤ 600) (hrnext : rnext ≤ 600) : MU l yX4_append cX4_append 3 none 0 D k z [.ref (o 1), .int p0] [((o 1), .inr (4, [.ref (o 15), .int (nI rsize), .int rfault, .int rplace, .int rkind, .int (nI rstart), .int (nI rnext), .int rvalue, .int rnumber])), ((o 15), .inl (k 1, 600, .inl f15))] 0 0 (Uv D (fun u : (Nat → Int32) × (Nat → Nat) × (Nat → Nat → Int32) × (Nat → Nat → Int64) × (Nat → Int64) => (u.2.1 0 ≤ 600)) (fun u : (Nat → Int32) × (Nat → Nat) × (Nat → Nat → Int32) × (Nat → Nat → Int64) × (Nat → Int64) => [((o 1), .inr (4, [.ref (o 15), .int (nI (u.2.1 0)), .int rfault, .int rplace, .int rkind, .int (nI rstart), .int (nI rnext), .int rvalue, .int rnumber])), ((o 15), .inl (k 1, 600, .inl (u.2.2.1 0)))])) := by
  refine MU.of (by decide) (Nat.le_of_ble_eq_true rfl) ?_
  intro p e s m below meth c ls A args Q S hr hlk hnm hQ hK hP hD hZ hA hS hl
  have hx := S.1
  have hb := S.2.1
  have hl : lv_has ls 3 [(0, .ref (o 1)), (1, .int p0)] := hl
  refine lv_bipush (v := 24) hx hb dX4_append_0 (by decide) ?_
  refine lv_istore_n (lv' := [(2, .int 24), (0, .ref (o 1)), (1, .int p0)]) hx hb dX4_append_2 rfl hl (by decide) rfl (fun ls hl => ?_)
  refine lv_iload_n hx hb dX4_append_3 rfl (lv_at hl 0 rfl) ?_
  refine lv_if_lt (tgt := 46) hx hb dX4_append_4 (by decide) (fun c_1 => absurd c_1 (by decide)) (fun c_1 => ?_)
  refine lv_aload_n hx hb dX4_append_7 rfl (lv_at hl 1 rfl) ?_
  refine x_get S hK hP 0 rfl cfX4 1 lkX4_19 (by decide) rfl dX4_append_8 ?_
  refine lv_sipush (v := 600) hx hb dX4_append_11 (by decide) ?_
  refine lv_icmp_ge (tgt := 46) hx hb dX4_append_14 (by decide) (fun c_2 => ?_) (fun c_2 => ?_)
  · skip
    have c_2 : 600 ≤ rsize := (ni_le (by decide) rfl (by omega) (by omega)).mp c_2
    exact x_retv S hr hlk hQ hS ((fun i => ([] : List (Int32)).getD i 0), (fun i => ([rsize] : List (Nat)).getD i 0), (fun i => ([f15] : List (Nat → Int32)).getD i (fun _ => 0)), (fun i => ([] : List (Nat → Int64)).getD i (fun _ => 0)), (fun i => ([] : List (Int64)).getD i 0)) (show rsize ≤ 600 by omega) (x_B hP hD) dX4_append_46
  · skip
    have c_2 : ¬ 600 ≤ rsize := fun q => c_2 ((ni_le (by decide) rfl (by omega) (by omega)).mpr q)
    refine lv_aload_n hx hb dX4_append_17 rfl (lv_at hl 1 rfl) ?_
    refine x_get S hK hP 0 rfl cfX4 0 lkX4_9 (by decide) rfl dX4_append_18 ?_
    refine lv_aload_n hx hb dX4_append_21 rfl (lv_at hl 1 rfl) ?_
    refine x_get S hK hP 0 rfl cfX4 1 lkX4_19 (by decide) rfl dX4_append_22 ?_
    refine lv_iload_n hx hb dX4_append_25 rfl (lv_at hl 2 rfl) ?_
    refine lv_iload_n hx hb dX4_append_26 rfl (lv_at hl 0 rfl) ?_
    refine lv_iushr hx hb dX4_append_27 rfl ?_
    refine lv_topi (fun v_3 ev_3 => ?_)
    refine lv_i2b hx hb dX4_append_28 rfl ?_
    refine lv_topi (fun v_4 ev_4 => ?_)
    refine x_bast (ws' := fun f_5 => [((o 1), .inr (4, [.ref (o 15), .int (nI rsize), .int rfault, .int rplace, .int rkind, .int (nI rstart), .int (nI rnext), .int rvalue, .int rnumber])), ((o 15), .inl (k 1, 600, .inl f_5))]) S hK hP hD hS 1 rfl (vp_in_nI (by omega) (by decide)) (fun _ => rfl) dX4_append_29 (fun f_5 H locs ef_5 hP hD hS => ?_)
    refine lv_aload_n hx hb dX4_append_30 rfl (lv_at hl 1 rfl) ?_
    refine lv_dup hx hb dX4_append_31 rfl ?_
    refine x_get S hK hP 0 rfl cfX4 1 lkX4_19 (by decide) rfl dX4_append_32 ?_
    refine lv_iconst (v := 1) hx hb dX4_append_35 (by decide) ?_
    refine lv_iadd hx hb dX4_append_36 ?_
    refine x_is (nI (rsize + 1)) (ni_add rfl (by decide)) ?_
    refine x_put (ws' := [((o 1), .inr (4, [.ref (o 15), .int (nI (rsize + 1)), .int rfault, .int rplace, .int rkind, .int (nI rstart), .int (nI rnext), .int rvalue, .int rnumber])), ((o 15), .inl (k 1, 600, .inl f_5))]) S hK hP hD hS 0 rfl cfX4 1 lkX4_19 (by decide) rfl rfl rfl (Nat.le_of_ble_eq_true rfl) rfl dX4_append_37 (fun H locs hP hD hS => ?_)
    refine lv_iinc (v := 16) (lv' := [(2, .int 16), (0, .ref (o 1)), (1, .int p0)]) hx hb dX4_append_40 hl (k := 0) rfl (by decide) (by decide) rfl (fun ls hl => ?_)
    refine lv_goto (tgt := 3) hx hb dX4_append_43 (by decide) ?_
    refine lv_iload_n hx hb dX4_append_3 rfl (lv_at hl 0 rfl) ?_
    refine lv_if_lt (tgt := 46) hx hb dX4_append_4 (by decide) (fun c_6 => absurd c_6 (by decide)) (fun c_6 => ?_)
    refine lv_aload_n hx hb dX4_append_7 rfl (lv_at hl 1 rfl) ?_
    refine x_get S hK hP 0 rfl cfX4 1 lkX4_19 (by decide) rfl dX4_append_8 ?_
    refine lv_sipush (v := 600) hx hb dX4_append_11 (by decide) ?_
    refine lv_icmp_ge (tgt := 46) hx hb dX4_append_14 (by decide) (fun c_7 => ?_) (fun c_7 => ?_)
    · skip
      have c_7 : 600 ≤ rsize + 1 := (ni_le (by decide) rfl (by omega) (by omega)).mp c_7
      exact x_retv S hr hlk hQ hS ((fun i => ([] : List (Int32)).getD i 0), (fun i => ([rsize + 1] : List (Nat)).getD i 0), (fun i => ([f_5] : List (Nat → Int32)).getD i (fun _ => 0)), (fun i => ([] : List (Nat → Int64)).getD i (fun _ => 0)), (fun i => ([] : List (Int64)).getD i 0)) (show rsize + 1 ≤ 600 by omega) (x_B hP hD) dX4_append_46
    · skip
      have c_7 : ¬ 600 ≤ rsize + 1 := fun q => c_7 ((ni_le (by decide) rfl (by omega) (by omega)).mpr q)
      refine lv_aload_n hx hb dX4_append_17 rfl (lv_at hl 1 rfl) ?_
      refine x_get S hK hP 0 rfl cfX4 0 lkX4_9 (by decide) rfl dX4_append_18 ?_
      refine lv_aload_n hx hb dX4_append_21 rfl (lv_at hl 1 rfl) ?_
      refine x_get S hK hP 0 rfl cfX4 1 lkX4_19 (by decide) rfl dX4_append_22 ?_
      refine lv_iload_n hx hb dX4_append_25 rfl (lv_at hl 2 rfl) ?_
      refine lv_iload_n hx hb dX4_append_26 rfl (lv_at hl 0 rfl) ?_
      refine lv_iushr hx hb dX4_append_27 rfl ?_
      refine lv_topi (fun v_8 ev_8 => ?_)
      refine lv_i2b hx hb dX4_append_28 rfl ?_
      refine lv_topi (fun v_9 ev_9 => ?_)
      refine x_bast (ws' := fun f_10 => [((o 1), .inr (4, [.ref (o 15), .int (nI (rsize + 1)), .int rfault, .int rplace, .int rkind, .int (nI rstart), .int (nI rnext), .int rvalue, .int rnumber])), ((o 15), .inl (k 1, 600, .inl f_10))]) S hK hP hD hS 1 rfl (vp_in_nI (by omega) (by decide)) (fun _ => rfl) dX4_append_29 (fun f_10 H locs ef_10 hP hD hS => ?_)
      refine lv_aload_n hx hb dX4_append_30 rfl (lv_at hl 1 rfl) ?_
      refine lv_dup hx hb dX4_append_31 rfl ?_
      refine x_get S hK hP 0 rfl cfX4 1 lkX4_19 (by decide) rfl dX4_append_32 ?_
      refine lv_iconst (v := 1) hx hb dX4_append_35 (by decide) ?_
      refine lv_iadd hx hb dX4_append_36 ?_
      refine x_is (nI (rsize + 1 + 1)) (ni_add rfl (by decide)) ?_
      refine x_put (ws' := [((o 1), .inr (4, [.ref (o 15), .int (nI (rsize + 1 + 1)), .int rfault, .int rplace, .int rkind, .int (nI rstart), .int (nI rnext), .int rvalue, .int rnumber])), ((o 15), .inl (k 1, 600, .inl f_10))]) S hK hP hD hS 0 rfl cfX4 1 lkX4_19 (by decide) rfl rfl rfl (Nat.le_of_ble_eq_true rfl) rfl dX4_append_37 (fun H locs hP hD hS => ?_)
      refine lv_iinc (v := 8) (lv' := [(2, .int 8), (0, .ref (o 1)), (1, .int p0)]) hx hb dX4_append_40 hl (k := 0) rfl (by decide) (by decide) rfl (fun ls hl => ?_)
      refine lv_goto (tgt := 3) hx hb dX4_append_43 (by decide) ?_
      refine lv_iload_n hx hb dX4_append_3 rfl (lv_at hl 0 rfl) ?_
      refine lv_if_lt (tgt := 46) hx hb dX4_append_4 (by decide) (fun c_11 => absurd c_11 (by decide)) (fun c_11 => ?_)
      refine lv_aload_n hx hb dX4_append_7 rfl (lv_at hl 1 rfl) ?_
      refine x_get S hK hP 0 rfl cfX4 1 lkX4_19 (by decide) rfl dX4_append_8 ?_
      refine lv_sipush (v := 600) hx hb dX4_append_11 (by decide) ?_
      refine lv_icmp_ge (tgt := 46) hx hb dX4_append_14 (by decide) (fun c_12 => ?_) (fun c_12 => ?_)
      · skip
        have c_12 : 600 ≤ rsize + 1 + 1 := (ni_le (by decide) rfl (by omega) (by omega)).mp c_12
        exact x_retv S hr hlk hQ hS ((fun i => ([] : List (Int32)).getD i 0), (fun i => ([rsize + 1 + 1] : List (Nat)).getD i 0), (fun i => ([f_10] : List (Nat → Int32)).getD i (fun _ => 0)), (fun i => ([] : List (Nat → Int64)).getD i (fun _ => 0)), (fun i => ([] : List (Int64)).getD i 0)) (show rsize + 1 + 1 ≤ 600 by omega) (x_B hP hD) dX4_append_46
      · skip
        have c_12 : ¬ 600 ≤ rsize + 1 + 1 := fun q => c_12 ((ni_le (by decide) rfl (by omega) (by omega)).mpr q)
        refine lv_aload_n hx hb dX4_append_17 rfl (lv_at hl 1 rfl) ?_
        refine x_get S hK hP 0 rfl cfX4 0 lkX4_9 (by decide) rfl dX4_append_18 ?_
        refine lv_aload_n hx hb dX4_append_21 rfl (lv_at hl 1 rfl) ?_
        refine x_get S hK hP 0 rfl cfX4 1 lkX4_19 (by decide) rfl dX4_append_22 ?_
        refine lv_iload_n hx hb dX4_append_25 rfl (lv_at hl 2 rfl) ?_
        refine lv_iload_n hx hb dX4_append_26 rfl (lv_at hl 0 rfl) ?_
        refine lv_iushr hx hb dX4_append_27 rfl ?_
        refine lv_topi (fun v_13 ev_13 => ?_)
        refine lv_i2b hx hb dX4_append_28 rfl ?_
        refine lv_topi (fun v_14 ev_14 => ?_)
        refine x_bast (ws' := fun f_15 => [((o 1), .inr (4, [.ref (o 15), .int (nI (rsize + 1 + 1)), .int rfault, .int rplace, .int rkind, .int (nI rstart), .int (nI rnext), .int rvalue, .int rnumber])), ((o 15), .inl (k 1, 600, .inl f_15))]) S hK hP hD hS 1 rfl (vp_in_nI (by omega) (by decide)) (fun _ => rfl) dX4_append_29 (fun f_15 H locs ef_15 hP hD hS => ?_)
        refine lv_aload_n hx hb dX4_append_30 rfl (lv_at hl 1 rfl) ?_
        refine lv_dup hx hb dX4_append_31 rfl ?_
        refine x_get S hK hP 0 rfl cfX4 1 lkX4_19 (by decide) rfl dX4_append_32 ?_
        refine lv_iconst (v := 1) hx hb dX4_append_35 (by decide) ?_
        refine lv_iadd hx hb dX4_append_36 ?_
        refine x_is (nI (rsize + 1 + 1 + 1)) (ni_add rfl (by decide)) ?_
        refine x_put (ws' := [((o 1), .inr (4, [.ref (o 15), .int (nI (rsize + 1 + 1 + 1)), .int rfault, .int rplace, .int rkind, .int (nI rstart), .int (nI rnext), .int rvalue, .int rnumber])), ((o 15), .inl (k 1, 600, .inl f_15))]) S hK hP hD hS 0 rfl cfX4 1 lkX4_19 (by decide) rfl rfl rfl (Nat.le_of_ble_eq_true rfl) rfl dX4_append_37 (fun H locs hP hD hS => ?_)
        refine lv_iinc (v := 0) (lv' := [(2, .int 0), (0, .ref (o 1)), (1, .int p0)]) hx hb dX4_append_40 hl (k := 0) rfl (by decide) (by decide) rfl (fun ls hl => ?_)
        refine lv_goto (tgt := 3) hx hb dX4_append_43 (by decide) ?_
        refine lv_iload_n hx hb dX4_append_3 rfl (lv_at hl 0 rfl) ?_
        refine lv_if_lt (tgt := 46) hx hb dX4_append_4 (by decide) (fun c_16 => absurd c_16 (by decide)) (fun c_16 => ?_)
        refine lv_aload_n hx hb dX4_append_7 rfl (lv_at hl 1 rfl) ?_
        refine x_get S hK hP 0 rfl cfX4 1 lkX4_19 (by decide) rfl dX4_append_8 ?_
        refine lv_sipush (v := 600) hx hb dX4_append_11 (by decide) ?_
        refine lv_icmp_ge (tgt := 46) hx hb dX4_append_14 (by decide) (fun c_17 => ?_) (fun c_17 => ?_)
        · skip
          have c_17 : 600 ≤ rsize + 1 + 1 + 1 := (ni_le (by decide) rfl (by omega) (by omega)).mp c_17
          exact x_retv S hr hlk hQ hS ((fun i => ([] : List (Int32)).getD i 0), (fun i => ([rsize + 1 + 1 + 1] : List (Nat)).getD i 0), (fun i => ([f_15] : List (Nat → Int32)).getD i (fun _ => 0)), (fun i => ([] : List (Nat → Int64)).getD i (fun _ => 0)), (fun i => ([] : List (Int64)).getD i 0)) (show rsize + 1 + 1 + 1 ≤ 600 by omega) (x_B hP hD) dX4_append_46
        · skip
          have c_17 : ¬ 600 ≤ rsize + 1 + 1 + 1 := fun q => c_17 ((ni_le (by decide) rfl (by omega) (by omega)).mpr q)
          refine lv_aload_n hx hb dX4_append_17 rfl (lv_at hl 1 rfl) ?_
          refine x_get S hK hP 0 rfl cfX4 0 lkX4_9 (by decide) rfl dX4_append_18 ?_
          refine lv_aload_n hx hb dX4_append_21 rfl (lv_at hl 1 rfl) ?_
          refine x_get S hK hP 0 rfl cfX4 1 lkX4_19 (by decide) rfl dX4_append_22 ?_
          refine lv_iload_n hx hb dX4_append_25 rfl (lv_at hl 2 rfl) ?_
          refine lv_iload_n hx hb dX4_append_26 rfl (lv_at hl 0 rfl) ?_
          refine lv_iushr hx hb dX4_append_27 rfl ?_
          refine lv_topi (fun v_18 ev_18 => ?_)
          refine lv_i2b hx hb dX4_append_28 rfl ?_
          refine lv_topi (fun v_19 ev_19 => ?_)
          refine x_bast (ws' := fun f_20 => [((o 1), .inr (4, [.ref (o 15), .int (nI (rsize + 1 + 1 + 1)), .int rfault, .int rplace, .int rkind, .int (nI rstart), .int (nI rnext), .int rvalue, .int rnumber])), ((o 15), .inl (k 1, 600, .inl f_20))]) S hK hP hD hS 1 rfl (vp_in_nI (by omega) (by decide)) (fun _ => rfl) dX4_append_29 (fun f_20 H locs ef_20 hP hD hS => ?_)
          refine lv_aload_n hx hb dX4_append_30 rfl (lv_at hl 1 rfl) ?_
          refine lv_dup hx hb dX4_append_31 rfl ?_
          refine x_get S hK hP 0 rfl cfX4 1 lkX4_19 (by decide) rfl dX4_append_32 ?_
          refine lv_iconst (v := 1) hx hb dX4_append_35 (by decide) ?_
          refine lv_iadd hx hb dX4_append_36 ?_
          refine x_is (nI (rsize + 1 + 1 + 1 + 1)) (ni_add rfl (by decide)) ?_
          refine x_put (ws' := [((o 1), .inr (4, [.ref (o 15), .int (nI (rsize + 1 + 1 + 1 + 1)), .int rfault, .int rplace, .int rkind, .int (nI rstart), .int (nI rnext), .int rvalue, .int rnumber])), ((o 15), .inl (k 1, 600, .inl f_20))]) S hK hP hD hS 0 rfl cfX4 1 lkX4_19 (by decide) rfl rfl rfl (Nat.le_of_ble_eq_true rfl) rfl dX4_append_37 (fun H locs hP hD hS => ?_)
          refine lv_iinc (v := (-8)) (lv' := [(2, .int (-8)), (0, .ref (o 1)), (1, .int p0)]) hx hb dX4_append_40 hl (k := 0) rfl (by decide) (by decide) rfl (fun ls hl => ?_)
          refine lv_goto (tgt := 3) hx hb dX4_append_43 (by decide) ?_
          refine lv_iload_n hx hb dX4_append_3 rfl (lv_at hl 0 rfl) ?_
          refine lv_if_lt (tgt := 46) hx hb dX4_append_4 (by decide) (fun c_21 => ?_) (fun c_21 => absurd (by decide) c_21)
          exact x_retv S hr hlk hQ hS ((fun i => ([] : List (Int32)).getD i 0), (fun i => ([rsize + 1 + 1 + 1 + 1] : List (Nat)).getD i 0), (fun i => ([f_20] : List (Nat → Int32)).getD i (fun _ => 0)), (fun i => ([] : List (Nat → Int64)).getD i (fun _ => 0)), (fun i => ([] : List (Int64)).getD i 0)) (show rsize + 1 + 1 + 1 + 1 ≤ 600 by omega) (x_B hP hD) dX4_append_46

set_option maxHeartbeats 4000000 in
set_option maxRecDepth 100000 in
theorem ctX4_advance (l : Launch) (D : va_G) (k : Nat → ClassId) (z : Nat → Nat) (o : Nat → Nat) (rfault : Int32) (rplace : Int32) (rkind : Int32) (rvalue : Int32) (rnumber : Int32) (rsize : Nat) (rstart : Nat) (rnext : Nat) (f15 : Nat → Int32) (hrsize : rsize ≤ 600) (hrstart : rstart ≤ 600) (hrnext : rnext ≤ 600) : MU l yX4_advance cX4_advance 2 none 1 D k z [.ref (o 1)] [((o 1), .inr (4, [.ref (o 15), .int (nI rsize), .int rfault, .int rplace, .int rkind, .int (nI rstart), .int (nI rnext), .int rvalue, .int rnumber])), ((o 15), .inl (k 1, 600, .inl f15))] 0 0 (Uv D (fun u : (Nat → Int32) × (Nat → Nat) × (Nat → Nat → Int32) × (Nat → Nat → Int64) × (Nat → Int64) => (u.2.1 0 ≤ 600) ∧ (u.2.1 1 ≤ 600)) (fun u : (Nat → Int32) × (Nat → Nat) × (Nat → Nat → Int32) × (Nat → Nat → Int64) × (Nat → Int64) => [((o 1), .inr (4, [.ref (o 15), .int (nI rsize), .int rfault, .int rplace, .int (u.1 0), .int (nI (u.2.1 0)), .int (nI (u.2.1 1)), .int (u.1 1), .int rnumber])), ((o 15), .inl (k 1, 600, .inl f15))])) := by
  refine MU.of (by decide) (Nat.le_of_ble_eq_true rfl) ?_
  intro p e s m below meth c ls A args Q S hr hlk hnm hQ hK hP hD hZ hA hS hl
  have hx := S.1
  have hb := S.2.1
  have hl : lv_has ls 2 [(0, .ref (o 1))] := hl
  refine lv_aload_n hx hb dX4_advance_0 rfl (lv_at hl 0 rfl) ?_
  refine lv_aload_n hx hb dX4_advance_1 rfl (lv_at hl 0 rfl) ?_
  refine x_get S hK hP 0 rfl cfX4 6 lkX4_30 (by decide) rfl dX4_advance_2 ?_
  refine x_put (ws' := [((o 1), .inr (4, [.ref (o 15), .int (nI rsize), .int rfault, .int rplace, .int rkind, .int (nI rnext), .int (nI rnext), .int rvalue, .int rnumber])), ((o 15), .inl (k 1, 600, .inl f15))]) S hK hP hD hS 0 rfl cfX4 5 lkX4_148 (by decide) rfl rfl rfl (Nat.le_of_ble_eq_true rfl) rfl dX4_advance_5 (fun H locs hP hD hS => ?_)
  have lp_8 : ∀ (nn j_7 : Nat)  (H : Heap) (locs : List Loc) (ls : Array Slot), j_7 ≤ 600 → 600 - j_7 < nn → va_P D vwCl [((o 1), .inr (4, [.ref (o 15), .int (nI rsize), .int rfault, .int rplace, .int rkind, .int (nI j_7), .int (nI rnext), .int rvalue, .int rnumber])), ((o 15), .inl (k 1, 600, .inl f15))] H → va_D A [((o 1), .inr (4, [.ref (o 15), .int (nI rsize), .int rfault, .int rplace, .int rkind, .int (nI j_7), .int (nI rnext), .int rvalue, .int rnumber])), ((o 15), .inl (k 1, 600, .inl f15))] → va_S A s.heap H locs → lv_has ls 2 [(0, .ref (o 1))] → W p l e (Rm 1 0 0) s m args below meth c H locs 0 0 Q (F0 m 8 ls []) := by
    intro nn
    induction nn with
    | zero => intro j_7  H locs ls hjj_7 hnj_7; exact absurd hnj_7 (by omega)
    | succ nn ihj_7 =>
      intro j_7  H locs ls hjj_7 hnj_7 hP hD hS hl
      refine lv_aload_n hx hb dX4_advance_8 rfl (lv_at hl 0 rfl) ?_
      refine x_get S hK hP 0 rfl cfX4 5 lkX4_148 (by decide) rfl dX4_advance_9 ?_
      refine lv_aload_n hx hb dX4_advance_12 rfl (lv_at hl 0 rfl) ?_
      refine x_get S hK hP 0 rfl cfX4 1 lkX4_19 (by decide) rfl dX4_advance_13 ?_
      refine lv_icmp_ge (tgt := 48) hx hb dX4_advance_16 (by decide) (fun c_9 => ?_) (fun c_9 => ?_)
      · skip
        have c_9 : rsize ≤ j_7 := (ni_le rfl rfl (by omega) (by omega)).mp c_9
        refine lv_aload_n hx hb dX4_advance_48 rfl (lv_at hl 0 rfl) ?_
        refine lv_aload_n hx hb dX4_advance_49 rfl (lv_at hl 0 rfl) ?_
        refine x_get S hK hP 0 rfl cfX4 5 lkX4_148 (by decide) rfl dX4_advance_50 ?_
        refine lv_aload_n hx hb dX4_advance_53 rfl (lv_at hl 0 rfl) ?_
        refine x_get S hK hP 0 rfl cfX4 1 lkX4_19 (by decide) rfl dX4_advance_54 ?_
        refine lv_icmp_ge (tgt := 75) hx hb dX4_advance_57 (by decide) (fun c_10 => ?_) (fun c_10 => ?_)
        · skip
          have c_10 : rsize ≤ j_7 := (ni_le rfl rfl (by omega) (by omega)).mp c_10
          refine lv_iconst (v := 0) hx hb dX4_advance_75 (by decide) ?_
          refine x_put (ws' := [((o 1), .inr (4, [.ref (o 15), .int (nI rsize), .int rfault, .int rplace, .int 0, .int (nI j_7), .int (nI rnext), .int rvalue, .int rnumber])), ((o 15), .inl (k 1, 600, .inl f15))]) S hK hP hD hS 0 rfl cfX4 4 lkX4_36 (by decide) rfl rfl rfl (Nat.le_of_ble_eq_true rfl) rfl dX4_advance_76 (fun H locs hP hD hS => ?_)
          refine lv_aload_n hx hb dX4_advance_79 rfl (lv_at hl 0 rfl) ?_
          refine lv_iconst (v := 0) hx hb dX4_advance_80 (by decide) ?_
          refine x_put (ws' := [((o 1), .inr (4, [.ref (o 15), .int (nI rsize), .int rfault, .int rplace, .int 0, .int (nI j_7), .int (nI rnext), .int 0, .int rnumber])), ((o 15), .inl (k 1, 600, .inl f15))]) S hK hP hD hS 0 rfl cfX4 7 lkX4_145 (by decide) rfl rfl rfl (Nat.le_of_ble_eq_true rfl) rfl dX4_advance_81 (fun H locs hP hD hS => ?_)
          refine lv_aload_n hx hb dX4_advance_84 rfl (lv_at hl 0 rfl) ?_
          refine lv_aload_n hx hb dX4_advance_85 rfl (lv_at hl 0 rfl) ?_
          refine x_get S hK hP 0 rfl cfX4 5 lkX4_148 (by decide) rfl dX4_advance_86 ?_
          refine x_put (ws' := [((o 1), .inr (4, [.ref (o 15), .int (nI rsize), .int rfault, .int rplace, .int 0, .int (nI j_7), .int (nI j_7), .int 0, .int rnumber])), ((o 15), .inl (k 1, 600, .inl f15))]) S hK hP hD hS 0 rfl cfX4 6 lkX4_30 (by decide) rfl rfl rfl (Nat.le_of_ble_eq_true rfl) rfl dX4_advance_89 (fun H locs hP hD hS => ?_)
          refine lv_aload_n hx hb dX4_advance_92 rfl (lv_at hl 0 rfl) ?_
          refine x_get S hK hP 0 rfl cfX4 4 lkX4_36 (by decide) rfl dX4_advance_93 ?_
          refine lv_iconst (v := 1) hx hb dX4_advance_96 (by decide) ?_
          refine lv_icmp_eq (tgt := 108) hx hb dX4_advance_97 (by decide) (fun c_11 => absurd c_11 (by decide)) (fun c_11 => ?_)
          refine lv_aload_n hx hb dX4_advance_100 rfl (lv_at hl 0 rfl) ?_
          refine x_get S hK hP 0 rfl cfX4 4 lkX4_36 (by decide) rfl dX4_advance_101 ?_
          refine lv_iconst (v := 2) hx hb dX4_advance_104 (by decide) ?_
          refine lv_icmp_ne (tgt := 112) hx hb dX4_advance_105 (by decide) (fun c_12 => ?_) (fun c_12 => absurd c_12 (by decide))
          refine lv_iconst (v := 0) hx hb dX4_advance_112 (by decide) ?_
          refine lv_istore_n (lv' := [(1, .int 0), (0, .ref (o 1))]) hx hb dX4_advance_113 rfl hl (by decide) rfl (fun ls hl => ?_)
          have lp_23 : ∀ (nn j_22 : Nat)  (H : Heap) (locs : List Loc) (ls : Array Slot), j_22 ≤ 600 → 600 - j_22 < nn → va_P D vwCl [((o 1), .inr (4, [.ref (o 15), .int (nI rsize), .int rfault, .int rplace, .int 0, .int (nI j_7), .int (nI j_22), .int 0, .int rnumber])), ((o 15), .inl (k 1, 600, .inl f15))] H → va_D A [((o 1), .inr (4, [.ref (o 15), .int (nI rsize), .int rfault, .int rplace, .int 0, .int (nI j_7), .int (nI j_22), .int 0, .int rnumber])), ((o 15), .inl (k 1, 600, .inl f15))] → va_S A s.heap H locs → lv_has ls 2 [(1, .int 0), (0, .ref (o 1))] → W p l e (Rm 1 0 0) s m args below meth c H locs 0 0 Q (F0 m 114 ls []) := by
            intro nn
            induction nn with
            | zero => intro j_22  H locs ls hjj_22 hnj_22; exact absurd hnj_22 (by omega)
            | succ nn ihj_22 =>
              intro j_22  H locs ls hjj_22 hnj_22 hP hD hS hl
              refine lv_aload_n hx hb dX4_advance_114 rfl (lv_at hl 1 rfl) ?_
              refine x_get S hK hP 0 rfl cfX4 6 lkX4_30 (by decide) rfl dX4_advance_115 ?_
              refine lv_aload_n hx hb dX4_advance_118 rfl (lv_at hl 1 rfl) ?_
              refine x_get S hK hP 0 rfl cfX4 1 lkX4_19 (by decide) rfl dX4_advance_119 ?_
              refine lv_icmp_ge (tgt := 210) hx hb dX4_advance_122 (by decide) (fun c_24 => ?_) (fun c_24 => ?_)
              · skip
                have c_24 : rsize ≤ j_22 := (ni_le rfl rfl (by omega) (by omega)).mp c_24
                exact x_retv S hr hlk hQ hS ((fun i => ([0, 0] : List (Int32)).getD i 0), (fun i => ([j_7, j_22] : List (Nat)).getD i 0), (fun i => ([] : List (Nat → Int32)).getD i (fun _ => 0)), (fun i => ([] : List (Nat → Int64)).getD i (fun _ => 0)), (fun i => ([] : List (Int64)).getD i 0)) ⟨(show j_7 ≤ 600 by omega), (show j_22 ≤ 600 by omega)⟩ (x_B hP hD) dX4_advance_210
              · skip
                have c_24 : ¬ rsize ≤ j_22 := fun q => c_24 ((ni_le rfl rfl (by omega) (by omega)).mpr q)
                refine lv_aload_n hx hb dX4_advance_125 rfl (lv_at hl 1 rfl) ?_
                refine x_get S hK hP 0 rfl cfX4 0 lkX4_9 (by decide) rfl dX4_advance_126 ?_
                refine lv_aload_n hx hb dX4_advance_129 rfl (lv_at hl 1 rfl) ?_
                refine x_get S hK hP 0 rfl cfX4 6 lkX4_30 (by decide) rfl dX4_advance_130 ?_
                refine x_bald S hK hP 1 rfl (vp_in_nI (by omega) (by decide)) dX4_advance_133 ?_
                refine lv_topi (fun v_25 ev_25 => ?_)
                refine x_roSi (As := [.int v_25]) S hK hP hD hZ (fun _ h => h) hA hS hA hl mwX4_kindOf lkX4_160 (ctX4_kindOf l D k z v_25 ) [] rfl (by decide) rfl rfl ⟨Nat.le_of_ble_eq_true rfl, Nat.le_of_ble_eq_true rfl, Nat.le_of_ble_eq_true rfl⟩ dX4_advance_134 ⟨Nat.le_of_ble_eq_true rfl, Nat.le_of_ble_eq_true rfl⟩ (fun r_26 H locs hr_26 hP hS => ?_)
                refine lv_aload_n hx hb dX4_advance_137 rfl (lv_at hl 1 rfl) ?_
                refine x_get S hK hP 0 rfl cfX4 4 lkX4_36 (by decide) rfl dX4_advance_138 ?_
                refine lv_icmp_ne (tgt := 210) hx hb dX4_advance_141 (by decide) (fun c_28 => ?_) (fun c_28 => ?_)
                · skip
                  exact x_retv S hr hlk hQ hS ((fun i => ([0, 0] : List (Int32)).getD i 0), (fun i => ([j_7, j_22] : List (Nat)).getD i 0), (fun i => ([] : List (Nat → Int32)).getD i (fun _ => 0)), (fun i => ([] : List (Nat → Int64)).getD i (fun _ => 0)), (fun i => ([] : List (Int64)).getD i 0)) ⟨(show j_7 ≤ 600 by omega), (show j_22 ≤ 600 by omega)⟩ (x_B hP hD) dX4_advance_210
                · skip
                  refine lv_iload_n hx hb dX4_advance_144 rfl (lv_at hl 0 rfl) ?_
                  refine lv_if_ne (tgt := 159) hx hb dX4_advance_145 (by decide) (fun c_29 => absurd (by decide) c_29) (fun c_29 => ?_)
                  refine lv_aload_n hx hb dX4_advance_148 rfl (lv_at hl 1 rfl) ?_
                  refine x_get S hK hP 0 rfl cfX4 6 lkX4_30 (by decide) rfl dX4_advance_149 ?_
                  refine lv_aload_n hx hb dX4_advance_152 rfl (lv_at hl 1 rfl) ?_
                  refine x_get S hK hP 0 rfl cfX4 5 lkX4_148 (by decide) rfl dX4_advance_153 ?_
                  refine lv_icmp_ne (tgt := 210) hx hb dX4_advance_156 (by decide) (fun c_30 => ?_) (fun c_30 => ?_)
                  · skip
                    have c_30 : ¬ j_22 = j_7 := fun q => c_30 ((ni_eq rfl rfl (by omega) (by omega)).mpr q)
                    exact x_retv S hr hlk hQ hS ((fun i => ([0, 0] : List (Int32)).getD i 0), (fun i => ([j_7, j_22] : List (Nat)).getD i 0), (fun i => ([] : List (Nat → Int32)).getD i (fun _ => 0)), (fun i => ([] : List (Nat → Int64)).getD i (fun _ => 0)), (fun i => ([] : List (Int64)).getD i 0)) ⟨(show j_7 ≤ 600 by omega), (show j_22 ≤ 600 by omega)⟩ (x_B hP hD) dX4_advance_210
                  · skip
                    have c_30 : j_22 = j_7 := (ni_eq rfl rfl (by omega) (by omega)).mp c_30
                    refine lv_aload_n hx hb dX4_advance_159 rfl (lv_at hl 1 rfl) ?_
                    refine x_get S hK hP 0 rfl cfX4 4 lkX4_36 (by decide) rfl dX4_advance_160 ?_
                    refine lv_iconst (v := 2) hx hb dX4_advance_163 (by decide) ?_
                    refine lv_icmp_ne (tgt := 197) hx hb dX4_advance_164 (by decide) (fun c_31 => ?_) (fun c_31 => absurd c_31 (by decide))
                    refine lv_aload_n hx hb dX4_advance_197 rfl (lv_at hl 1 rfl) ?_
                    refine lv_dup hx hb dX4_advance_198 rfl ?_
                    refine x_get S hK hP 0 rfl cfX4 6 lkX4_30 (by decide) rfl dX4_advance_199 ?_
                    refine lv_iconst (v := 1) hx hb dX4_advance_202 (by decide) ?_
                    refine lv_iadd hx hb dX4_advance_203 ?_
                    refine x_is (nI (j_22 + 1)) (ni_add rfl (by decide)) ?_
                    refine x_put (ws' := [((o 1), .inr (4, [.ref (o 15), .int (nI rsize), .int rfault, .int rplace, .int 0, .int (nI j_7), .int (nI (j_22 + 1)), .int 0, .int rnumber])), ((o 15), .inl (k 1, 600, .inl f15))]) S hK hP hD hS 0 rfl cfX4 6 lkX4_30 (by decide) rfl rfl rfl (Nat.le_of_ble_eq_true rfl) rfl dX4_advance_204 (fun H locs hP hD hS => ?_)
                    refine lv_goto (tgt := 114) hx hb dX4_advance_207 (by decide) ?_
                    exact ihj_22 (j_22 + 1)  _ _ _ (by omega) (by omega) hP hD hS (lv_sub hl [0, 1] rfl)
          exact lp_23 (600 + 1) j_7  _ _ _ (by omega) (by omega) hP hD hS (lv_sub hl [0, 1] rfl)
        · skip
          have c_10 : ¬ rsize ≤ j_7 := fun q => c_10 ((ni_le rfl rfl (by omega) (by omega)).mpr q)
          refine lv_aload_n hx hb dX4_advance_60 rfl (lv_at hl 0 rfl) ?_
          refine x_get S hK hP 0 rfl cfX4 0 lkX4_9 (by decide) rfl dX4_advance_61 ?_
          refine lv_aload_n hx hb dX4_advance_64 rfl (lv_at hl 0 rfl) ?_
          refine x_get S hK hP 0 rfl cfX4 5 lkX4_148 (by decide) rfl dX4_advance_65 ?_
          refine x_bald S hK hP 1 rfl (vp_in_nI (by omega) (by decide)) dX4_advance_68 ?_
          refine lv_topi (fun v_32 ev_32 => ?_)
          refine x_roSi (As := [.int v_32]) S hK hP hD hZ (fun _ h => h) hA hS hA hl mwX4_kindOf lkX4_160 (ctX4_kindOf l D k z v_32 ) [] rfl (by decide) rfl rfl ⟨Nat.le_of_ble_eq_true rfl, Nat.le_of_ble_eq_true rfl, Nat.le_of_ble_eq_true rfl⟩ dX4_advance_69 ⟨Nat.le_of_ble_eq_true rfl, Nat.le_of_ble_eq_true rfl⟩ (fun r_33 H locs hr_33 hP hS => ?_)
          refine lv_goto (tgt := 76) hx hb dX4_advance_72 (by decide) ?_
          refine x_put (ws' := [((o 1), .inr (4, [.ref (o 15), .int (nI rsize), .int rfault, .int rplace, .int r_33, .int (nI j_7), .int (nI rnext), .int rvalue, .int rnumber])), ((o 15), .inl (k 1, 600, .inl f15))]) S hK hP hD hS 0 rfl cfX4 4 lkX4_36 (by decide) rfl rfl rfl (Nat.le_of_ble_eq_true rfl) rfl dX4_advance_76 (fun H locs hP hD hS => ?_)
          refine lv_aload_n hx hb dX4_advance_79 rfl (lv_at hl 0 rfl) ?_
          refine lv_iconst (v := 0) hx hb dX4_advance_80 (by decide) ?_
          refine x_put (ws' := [((o 1), .inr (4, [.ref (o 15), .int (nI rsize), .int rfault, .int rplace, .int r_33, .int (nI j_7), .int (nI rnext), .int 0, .int rnumber])), ((o 15), .inl (k 1, 600, .inl f15))]) S hK hP hD hS 0 rfl cfX4 7 lkX4_145 (by decide) rfl rfl rfl (Nat.le_of_ble_eq_true rfl) rfl dX4_advance_81 (fun H locs hP hD hS => ?_)
          refine lv_aload_n hx hb dX4_advance_84 rfl (lv_at hl 0 rfl) ?_
          refine lv_aload_n hx hb dX4_advance_85 rfl (lv_at hl 0 rfl) ?_
          refine x_get S hK hP 0 rfl cfX4 5 lkX4_148 (by decide) rfl dX4_advance_86 ?_
          refine x_put (ws' := [((o 1), .inr (4, [.ref (o 15), .int (nI rsize), .int rfault, .int rplace, .int r_33, .int (nI j_7), .int (nI j_7), .int 0, .int rnumber])), ((o 15), .inl (k 1, 600, .inl f15))]) S hK hP hD hS 0 rfl cfX4 6 lkX4_30 (by decide) rfl rfl rfl (Nat.le_of_ble_eq_true rfl) rfl dX4_advance_89 (fun H locs hP hD hS => ?_)
          refine lv_aload_n hx hb dX4_advance_92 rfl (lv_at hl 0 rfl) ?_
          refine x_get S hK hP 0 rfl cfX4 4 lkX4_36 (by decide) rfl dX4_advance_93 ?_
          refine lv_iconst (v := 1) hx hb dX4_advance_96 (by decide) ?_
          refine lv_icmp_eq (tgt := 108) hx hb dX4_advance_97 (by decide) (fun c_35 => ?_) (fun c_35 => ?_)
          · skip
            refine lv_iconst (v := 1) hx hb dX4_advance_108 (by decide) ?_
            refine lv_goto (tgt := 113) hx hb dX4_advance_109 (by decide) ?_
            refine lv_istore_n (lv' := [(1, .int 1), (0, .ref (o 1))]) hx hb dX4_advance_113 rfl hl (by decide) rfl (fun ls hl => ?_)
            have lp_64 : ∀ (nn j_62 : Nat) (x_63 : Int32) (H : Heap) (locs : List Loc) (ls : Array Slot), j_62 ≤ 600 → 600 - j_62 < nn → va_P D vwCl [((o 1), .inr (4, [.ref (o 15), .int (nI rsize), .int rfault, .int rplace, .int r_33, .int (nI j_7), .int (nI j_62), .int x_63, .int rnumber])), ((o 15), .inl (k 1, 600, .inl f15))] H → va_D A [((o 1), .inr (4, [.ref (o 15), .int (nI rsize), .int rfault, .int rplace, .int r_33, .int (nI j_7), .int (nI j_62), .int x_63, .int rnumber])), ((o 15), .inl (k 1, 600, .inl f15))] → va_S A s.heap H locs → lv_has ls 2 [(1, .int 1), (0, .ref (o 1))] → W p l e (Rm 1 0 0) s m args below meth c H locs 0 0 Q (F0 m 114 ls []) := by
              intro nn
              induction nn with
              | zero => intro j_62 x_63 H locs ls hjj_62 hnj_62; exact absurd hnj_62 (by omega)
              | succ nn ihj_62 =>
                intro j_62 x_63 H locs ls hjj_62 hnj_62 hP hD hS hl
                refine lv_aload_n hx hb dX4_advance_114 rfl (lv_at hl 1 rfl) ?_
                refine x_get S hK hP 0 rfl cfX4 6 lkX4_30 (by decide) rfl dX4_advance_115 ?_
                refine lv_aload_n hx hb dX4_advance_118 rfl (lv_at hl 1 rfl) ?_
                refine x_get S hK hP 0 rfl cfX4 1 lkX4_19 (by decide) rfl dX4_advance_119 ?_
                refine lv_icmp_ge (tgt := 210) hx hb dX4_advance_122 (by decide) (fun c_65 => ?_) (fun c_65 => ?_)
                · skip
                  have c_65 : rsize ≤ j_62 := (ni_le rfl rfl (by omega) (by omega)).mp c_65
                  exact x_retv S hr hlk hQ hS ((fun i => ([r_33, x_63] : List (Int32)).getD i 0), (fun i => ([j_7, j_62] : List (Nat)).getD i 0), (fun i => ([] : List (Nat → Int32)).getD i (fun _ => 0)), (fun i => ([] : List (Nat → Int64)).getD i (fun _ => 0)), (fun i => ([] : List (Int64)).getD i 0)) ⟨(show j_7 ≤ 600 by omega), (show j_62 ≤ 600 by omega)⟩ (x_B hP hD) dX4_advance_210
                · skip
                  have c_65 : ¬ rsize ≤ j_62 := fun q => c_65 ((ni_le rfl rfl (by omega) (by omega)).mpr q)
                  refine lv_aload_n hx hb dX4_advance_125 rfl (lv_at hl 1 rfl) ?_
                  refine x_get S hK hP 0 rfl cfX4 0 lkX4_9 (by decide) rfl dX4_advance_126 ?_
                  refine lv_aload_n hx hb dX4_advance_129 rfl (lv_at hl 1 rfl) ?_
                  refine x_get S hK hP 0 rfl cfX4 6 lkX4_30 (by decide) rfl dX4_advance_130 ?_
                  refine x_bald S hK hP 1 rfl (vp_in_nI (by omega) (by decide)) dX4_advance_133 ?_
                  refine lv_topi (fun v_66 ev_66 => ?_)
                  refine x_roSi (As := [.int v_66]) S hK hP hD hZ (fun _ h => h) hA hS hA hl mwX4_kindOf lkX4_160 (ctX4_kindOf l D k z v_66 ) [] rfl (by decide) rfl rfl ⟨Nat.le_of_ble_eq_true rfl, Nat.le_of_ble_eq_true rfl, Nat.le_of_ble_eq_true rfl⟩ dX4_advance_134 ⟨Nat.le_of_ble_eq_true rfl, Nat.le_of_ble_eq_true rfl⟩ (fun r_67 H locs hr_67 hP hS => ?_)
                  refine lv_aload_n hx hb dX4_advance_137 rfl (lv_at hl 1 rfl) ?_
                  refine x_get S hK hP 0 rfl cfX4 4 lkX4_36 (by decide) rfl dX4_advance_138 ?_
                  refine lv_icmp_ne (tgt := 210) hx hb dX4_advance_141 (by decide) (fun c_69 => ?_) (fun c_69 => ?_)
                  · skip
                    exact x_retv S hr hlk hQ hS ((fun i => ([r_33, x_63] : List (Int32)).getD i 0), (fun i => ([j_7, j_62] : List (Nat)).getD i 0), (fun i => ([] : List (Nat → Int32)).getD i (fun _ => 0)), (fun i => ([] : List (Nat → Int64)).getD i (fun _ => 0)), (fun i => ([] : List (Int64)).getD i 0)) ⟨(show j_7 ≤ 600 by omega), (show j_62 ≤ 600 by omega)⟩ (x_B hP hD) dX4_advance_210
                  · skip
                    refine lv_iload_n hx hb dX4_advance_144 rfl (lv_at hl 0 rfl) ?_
                    refine lv_if_ne (tgt := 159) hx hb dX4_advance_145 (by decide) (fun c_70 => ?_) (fun c_70 => absurd c_70 (by decide))
                    refine lv_aload_n hx hb dX4_advance_159 rfl (lv_at hl 1 rfl) ?_
                    refine x_get S hK hP 0 rfl cfX4 4 lkX4_36 (by decide) rfl dX4_advance_160 ?_
                    refine lv_iconst (v := 2) hx hb dX4_advance_163 (by decide) ?_
                    refine lv_icmp_ne (tgt := 197) hx hb dX4_advance_164 (by decide) (fun c_71 => ?_) (fun c_71 => ?_)
                    · skip
                      refine lv_aload_n hx hb dX4_advance_197 rfl (lv_at hl 1 rfl) ?_
                      refine lv_dup hx hb dX4_advance_198 rfl ?_
                      refine x_get S hK hP 0 rfl cfX4 6 lkX4_30 (by decide) rfl dX4_advance_199 ?_
                      refine lv_iconst (v := 1) hx hb dX4_advance_202 (by decide) ?_
                      refine lv_iadd hx hb dX4_advance_203 ?_
                      refine x_is (nI (j_62 + 1)) (ni_add rfl (by decide)) ?_
                      refine x_put (ws' := [((o 1), .inr (4, [.ref (o 15), .int (nI rsize), .int rfault, .int rplace, .int r_33, .int (nI j_7), .int (nI (j_62 + 1)), .int x_63, .int rnumber])), ((o 15), .inl (k 1, 600, .inl f15))]) S hK hP hD hS 0 rfl cfX4 6 lkX4_30 (by decide) rfl rfl rfl (Nat.le_of_ble_eq_true rfl) rfl dX4_advance_204 (fun H locs hP hD hS => ?_)
                      refine lv_goto (tgt := 114) hx hb dX4_advance_207 (by decide) ?_
                      exact ihj_62 (j_62 + 1) x_63 _ _ _ (by omega) (by omega) hP hD hS (lv_sub hl [0, 1] rfl)
                    · skip
                      refine lv_aload_n hx hb dX4_advance_167 rfl (lv_at hl 1 rfl) ?_
                      refine lv_sipush (v := 1000) hx hb dX4_advance_168 (by decide) ?_
                      refine lv_aload_n hx hb dX4_advance_171 rfl (lv_at hl 1 rfl) ?_
                      refine x_get S hK hP 0 rfl cfX4 7 lkX4_145 (by decide) rfl dX4_advance_172 ?_
                      refine lv_bipush (v := 10) hx hb dX4_advance_175 (by decide) ?_
                      refine lv_imul hx hb dX4_advance_177 ?_
                      refine lv_topi (fun v_72 ev_72 => ?_)
                      refine lv_aload_n hx hb dX4_advance_178 rfl (lv_at hl 1 rfl) ?_
                      refine x_get S hK hP 0 rfl cfX4 0 lkX4_9 (by decide) rfl dX4_advance_179 ?_
                      refine lv_aload_n hx hb dX4_advance_182 rfl (lv_at hl 1 rfl) ?_
                      refine x_get S hK hP 0 rfl cfX4 6 lkX4_30 (by decide) rfl dX4_advance_183 ?_
                      refine x_bald S hK hP 1 rfl (vp_in_nI (by omega) (by decide)) dX4_advance_186 ?_
                      refine lv_topi (fun v_73 ev_73 => ?_)
                      refine lv_iadd hx hb dX4_advance_187 ?_
                      refine lv_topi (fun v_74 ev_74 => ?_)
                      refine lv_bipush (v := 48) hx hb dX4_advance_188 (by decide) ?_
                      refine lv_isub hx hb dX4_advance_190 ?_
                      refine lv_topi (fun v_75 ev_75 => ?_)
                      refine x_mmin S hl lkX4_164 (Nat.le_of_ble_eq_true rfl) (Nat.le_of_ble_eq_true rfl) ⟨Nat.le_of_ble_eq_true rfl, Nat.le_of_ble_eq_true rfl⟩ dX4_advance_191 (fun v_76 ev_76 => ?_)
                      refine x_put (ws' := [((o 1), .inr (4, [.ref (o 15), .int (nI rsize), .int rfault, .int rplace, .int r_33, .int (nI j_7), .int (nI j_62), .int v_76, .int rnumber])), ((o 15), .inl (k 1, 600, .inl f15))]) S hK hP hD hS 0 rfl cfX4 7 lkX4_145 (by decide) rfl rfl rfl (Nat.le_of_ble_eq_true rfl) rfl dX4_advance_194 (fun H locs hP hD hS => ?_)
                      refine lv_aload_n hx hb dX4_advance_197 rfl (lv_at hl 1 rfl) ?_
                      refine lv_dup hx hb dX4_advance_198 rfl ?_
                      refine x_get S hK hP 0 rfl cfX4 6 lkX4_30 (by decide) rfl dX4_advance_199 ?_
                      refine lv_iconst (v := 1) hx hb dX4_advance_202 (by decide) ?_
                      refine lv_iadd hx hb dX4_advance_203 ?_
                      refine x_is (nI (j_62 + 1)) (ni_add rfl (by decide)) ?_
                      refine x_put (ws' := [((o 1), .inr (4, [.ref (o 15), .int (nI rsize), .int rfault, .int rplace, .int r_33, .int (nI j_7), .int (nI (j_62 + 1)), .int v_76, .int rnumber])), ((o 15), .inl (k 1, 600, .inl f15))]) S hK hP hD hS 0 rfl cfX4 6 lkX4_30 (by decide) rfl rfl rfl (Nat.le_of_ble_eq_true rfl) rfl dX4_advance_204 (fun H locs hP hD hS => ?_)
                      refine lv_goto (tgt := 114) hx hb dX4_advance_207 (by decide) ?_
                      exact ihj_62 (j_62 + 1) v_76 _ _ _ (by omega) (by omega) hP hD hS (lv_sub hl [0, 1] rfl)
            exact lp_64 (600 + 1) j_7 0 _ _ _ (by omega) (by omega) hP hD hS (lv_sub hl [0, 1] rfl)
          · skip
            refine lv_aload_n hx hb dX4_advance_100 rfl (lv_at hl 0 rfl) ?_
            refine x_get S hK hP 0 rfl cfX4 4 lkX4_36 (by decide) rfl dX4_advance_101 ?_
            refine lv_iconst (v := 2) hx hb dX4_advance_104 (by decide) ?_
            refine lv_icmp_ne (tgt := 112) hx hb dX4_advance_105 (by decide) (fun c_77 => ?_) (fun c_77 => ?_)
            · skip
              refine lv_iconst (v := 0) hx hb dX4_advance_112 (by decide) ?_
              refine lv_istore_n (lv' := [(1, .int 0), (0, .ref (o 1))]) hx hb dX4_advance_113 rfl hl (by decide) rfl (fun ls hl => ?_)
              have lp_90 : ∀ (nn j_88 : Nat) (x_89 : Int32) (H : Heap) (locs : List Loc) (ls : Array Slot), j_88 ≤ 600 → 600 - j_88 < nn → va_P D vwCl [((o 1), .inr (4, [.ref (o 15), .int (nI rsize), .int rfault, .int rplace, .int r_33, .int (nI j_7), .int (nI j_88), .int x_89, .int rnumber])), ((o 15), .inl (k 1, 600, .inl f15))] H → va_D A [((o 1), .inr (4, [.ref (o 15), .int (nI rsize), .int rfault, .int rplace, .int r_33, .int (nI j_7), .int (nI j_88), .int x_89, .int rnumber])), ((o 15), .inl (k 1, 600, .inl f15))] → va_S A s.heap H locs → lv_has ls 2 [(1, .int 0), (0, .ref (o 1))] → W p l e (Rm 1 0 0) s m args below meth c H locs 0 0 Q (F0 m 114 ls []) := by
                intro nn
                induction nn with
                | zero => intro j_88 x_89 H locs ls hjj_88 hnj_88; exact absurd hnj_88 (by omega)
                | succ nn ihj_88 =>
                  intro j_88 x_89 H locs ls hjj_88 hnj_88 hP hD hS hl
                  refine lv_aload_n hx hb dX4_advance_114 rfl (lv_at hl 1 rfl) ?_
                  refine x_get S hK hP 0 rfl cfX4 6 lkX4_30 (by decide) rfl dX4_advance_115 ?_
                  refine lv_aload_n hx hb dX4_advance_118 rfl (lv_at hl 1 rfl) ?_
                  refine x_get S hK hP 0 rfl cfX4 1 lkX4_19 (by decide) rfl dX4_advance_119 ?_
                  refine lv_icmp_ge (tgt := 210) hx hb dX4_advance_122 (by decide) (fun c_91 => ?_) (fun c_91 => ?_)
                  · skip
                    have c_91 : rsize ≤ j_88 := (ni_le rfl rfl (by omega) (by omega)).mp c_91
                    exact x_retv S hr hlk hQ hS ((fun i => ([r_33, x_89] : List (Int32)).getD i 0), (fun i => ([j_7, j_88] : List (Nat)).getD i 0), (fun i => ([] : List (Nat → Int32)).getD i (fun _ => 0)), (fun i => ([] : List (Nat → Int64)).getD i (fun _ => 0)), (fun i => ([] : List (Int64)).getD i 0)) ⟨(show j_7 ≤ 600 by omega), (show j_88 ≤ 600 by omega)⟩ (x_B hP hD) dX4_advance_210
                  · skip
                    have c_91 : ¬ rsize ≤ j_88 := fun q => c_91 ((ni_le rfl rfl (by omega) (by omega)).mpr q)
                    refine lv_aload_n hx hb dX4_advance_125 rfl (lv_at hl 1 rfl) ?_
                    refine x_get S hK hP 0 rfl cfX4 0 lkX4_9 (by decide) rfl dX4_advance_126 ?_
                    refine lv_aload_n hx hb dX4_advance_129 rfl (lv_at hl 1 rfl) ?_
                    refine x_get S hK hP 0 rfl cfX4 6 lkX4_30 (by decide) rfl dX4_advance_130 ?_
                    refine x_bald S hK hP 1 rfl (vp_in_nI (by omega) (by decide)) dX4_advance_133 ?_
                    refine lv_topi (fun v_92 ev_92 => ?_)
                    refine x_roSi (As := [.int v_92]) S hK hP hD hZ (fun _ h => h) hA hS hA hl mwX4_kindOf lkX4_160 (ctX4_kindOf l D k z v_92 ) [] rfl (by decide) rfl rfl ⟨Nat.le_of_ble_eq_true rfl, Nat.le_of_ble_eq_true rfl, Nat.le_of_ble_eq_true rfl⟩ dX4_advance_134 ⟨Nat.le_of_ble_eq_true rfl, Nat.le_of_ble_eq_true rfl⟩ (fun r_93 H locs hr_93 hP hS => ?_)
                    refine lv_aload_n hx hb dX4_advance_137 rfl (lv_at hl 1 rfl) ?_
                    refine x_get S hK hP 0 rfl cfX4 4 lkX4_36 (by decide) rfl dX4_advance_138 ?_
                    refine lv_icmp_ne (tgt := 210) hx hb dX4_advance_141 (by decide) (fun c_95 => ?_) (fun c_95 => ?_)
                    · skip
                      exact x_retv S hr hlk hQ hS ((fun i => ([r_33, x_89] : List (Int32)).getD i 0), (fun i => ([j_7, j_88] : List (Nat)).getD i 0), (fun i => ([] : List (Nat → Int32)).getD i (fun _ => 0)), (fun i => ([] : List (Nat → Int64)).getD i (fun _ => 0)), (fun i => ([] : List (Int64)).getD i 0)) ⟨(show j_7 ≤ 600 by omega), (show j_88 ≤ 600 by omega)⟩ (x_B hP hD) dX4_advance_210
                    · skip
                      refine lv_iload_n hx hb dX4_advance_144 rfl (lv_at hl 0 rfl) ?_
                      refine lv_if_ne (tgt := 159) hx hb dX4_advance_145 (by decide) (fun c_96 => absurd (by decide) c_96) (fun c_96 => ?_)
                      refine lv_aload_n hx hb dX4_advance_148 rfl (lv_at hl 1 rfl) ?_
                      refine x_get S hK hP 0 rfl cfX4 6 lkX4_30 (by decide) rfl dX4_advance_149 ?_
                      refine lv_aload_n hx hb dX4_advance_152 rfl (lv_at hl 1 rfl) ?_
                      refine x_get S hK hP 0 rfl cfX4 5 lkX4_148 (by decide) rfl dX4_advance_153 ?_
                      refine lv_icmp_ne (tgt := 210) hx hb dX4_advance_156 (by decide) (fun c_97 => ?_) (fun c_97 => ?_)
                      · skip
                        have c_97 : ¬ j_88 = j_7 := fun q => c_97 ((ni_eq rfl rfl (by omega) (by omega)).mpr q)
                        exact x_retv S hr hlk hQ hS ((fun i => ([r_33, x_89] : List (Int32)).getD i 0), (fun i => ([j_7, j_88] : List (Nat)).getD i 0), (fun i => ([] : List (Nat → Int32)).getD i (fun _ => 0)), (fun i => ([] : List (Nat → Int64)).getD i (fun _ => 0)), (fun i => ([] : List (Int64)).getD i 0)) ⟨(show j_7 ≤ 600 by omega), (show j_88 ≤ 600 by omega)⟩ (x_B hP hD) dX4_advance_210
                      · skip
                        have c_97 : j_88 = j_7 := (ni_eq rfl rfl (by omega) (by omega)).mp c_97
                        refine lv_aload_n hx hb dX4_advance_159 rfl (lv_at hl 1 rfl) ?_
                        refine x_get S hK hP 0 rfl cfX4 4 lkX4_36 (by decide) rfl dX4_advance_160 ?_
                        refine lv_iconst (v := 2) hx hb dX4_advance_163 (by decide) ?_
                        refine lv_icmp_ne (tgt := 197) hx hb dX4_advance_164 (by decide) (fun c_98 => ?_) (fun c_98 => ?_)
                        · skip
                          refine lv_aload_n hx hb dX4_advance_197 rfl (lv_at hl 1 rfl) ?_
                          refine lv_dup hx hb dX4_advance_198 rfl ?_
                          refine x_get S hK hP 0 rfl cfX4 6 lkX4_30 (by decide) rfl dX4_advance_199 ?_
                          refine lv_iconst (v := 1) hx hb dX4_advance_202 (by decide) ?_
                          refine lv_iadd hx hb dX4_advance_203 ?_
                          refine x_is (nI (j_88 + 1)) (ni_add rfl (by decide)) ?_
                          refine x_put (ws' := [((o 1), .inr (4, [.ref (o 15), .int (nI rsize), .int rfault, .int rplace, .int r_33, .int (nI j_7), .int (nI (j_88 + 1)), .int x_89, .int rnumber])), ((o 15), .inl (k 1, 600, .inl f15))]) S hK hP hD hS 0 rfl cfX4 6 lkX4_30 (by decide) rfl rfl rfl (Nat.le_of_ble_eq_true rfl) rfl dX4_advance_204 (fun H locs hP hD hS => ?_)
                          refine lv_goto (tgt := 114) hx hb dX4_advance_207 (by decide) ?_
                          exact ihj_88 (j_88 + 1) x_89 _ _ _ (by omega) (by omega) hP hD hS (lv_sub hl [0, 1] rfl)
                        · skip
                          exact absurd c_98 c_77
              exact lp_90 (600 + 1) j_7 0 _ _ _ (by omega) (by omega) hP hD hS (lv_sub hl [0, 1] rfl)
            · skip
              refine lv_iconst (v := 1) hx hb dX4_advance_108 (by decide) ?_
              refine lv_goto (tgt := 113) hx hb dX4_advance_109 (by decide) ?_
              refine lv_istore_n (lv' := [(1, .int 1), (0, .ref (o 1))]) hx hb dX4_advance_113 rfl hl (by decide) rfl (fun ls hl => ?_)
              have lp_115 : ∀ (nn j_113 : Nat) (x_114 : Int32) (H : Heap) (locs : List Loc) (ls : Array Slot), j_113 ≤ 600 → 600 - j_113 < nn → va_P D vwCl [((o 1), .inr (4, [.ref (o 15), .int (nI rsize), .int rfault, .int rplace, .int r_33, .int (nI j_7), .int (nI j_113), .int x_114, .int rnumber])), ((o 15), .inl (k 1, 600, .inl f15))] H → va_D A [((o 1), .inr (4, [.ref (o 15), .int (nI rsize), .int rfault, .int rplace, .int r_33, .int (nI j_7), .int (nI j_113), .int x_114, .int rnumber])), ((o 15), .inl (k 1, 600, .inl f15))] → va_S A s.heap H locs → lv_has ls 2 [(1, .int 1), (0, .ref (o 1))] → W p l e (Rm 1 0 0) s m args below meth c H locs 0 0 Q (F0 m 114 ls []) := by
                intro nn
                induction nn with
                | zero => intro j_113 x_114 H locs ls hjj_113 hnj_113; exact absurd hnj_113 (by omega)
                | succ nn ihj_113 =>
                  intro j_113 x_114 H locs ls hjj_113 hnj_113 hP hD hS hl
                  refine lv_aload_n hx hb dX4_advance_114 rfl (lv_at hl 1 rfl) ?_
                  refine x_get S hK hP 0 rfl cfX4 6 lkX4_30 (by decide) rfl dX4_advance_115 ?_
                  refine lv_aload_n hx hb dX4_advance_118 rfl (lv_at hl 1 rfl) ?_
                  refine x_get S hK hP 0 rfl cfX4 1 lkX4_19 (by decide) rfl dX4_advance_119 ?_
                  refine lv_icmp_ge (tgt := 210) hx hb dX4_advance_122 (by decide) (fun c_116 => ?_) (fun c_116 => ?_)
                  · skip
                    have c_116 : rsize ≤ j_113 := (ni_le rfl rfl (by omega) (by omega)).mp c_116
                    exact x_retv S hr hlk hQ hS ((fun i => ([r_33, x_114] : List (Int32)).getD i 0), (fun i => ([j_7, j_113] : List (Nat)).getD i 0), (fun i => ([] : List (Nat → Int32)).getD i (fun _ => 0)), (fun i => ([] : List (Nat → Int64)).getD i (fun _ => 0)), (fun i => ([] : List (Int64)).getD i 0)) ⟨(show j_7 ≤ 600 by omega), (show j_113 ≤ 600 by omega)⟩ (x_B hP hD) dX4_advance_210
                  · skip
                    have c_116 : ¬ rsize ≤ j_113 := fun q => c_116 ((ni_le rfl rfl (by omega) (by omega)).mpr q)
                    refine lv_aload_n hx hb dX4_advance_125 rfl (lv_at hl 1 rfl) ?_
                    refine x_get S hK hP 0 rfl cfX4 0 lkX4_9 (by decide) rfl dX4_advance_126 ?_
                    refine lv_aload_n hx hb dX4_advance_129 rfl (lv_at hl 1 rfl) ?_
                    refine x_get S hK hP 0 rfl cfX4 6 lkX4_30 (by decide) rfl dX4_advance_130 ?_
                    refine x_bald S hK hP 1 rfl (vp_in_nI (by omega) (by decide)) dX4_advance_133 ?_
                    refine lv_topi (fun v_117 ev_117 => ?_)
                    refine x_roSi (As := [.int v_117]) S hK hP hD hZ (fun _ h => h) hA hS hA hl mwX4_kindOf lkX4_160 (ctX4_kindOf l D k z v_117 ) [] rfl (by decide) rfl rfl ⟨Nat.le_of_ble_eq_true rfl, Nat.le_of_ble_eq_true rfl, Nat.le_of_ble_eq_true rfl⟩ dX4_advance_134 ⟨Nat.le_of_ble_eq_true rfl, Nat.le_of_ble_eq_true rfl⟩ (fun r_118 H locs hr_118 hP hS => ?_)
                    refine lv_aload_n hx hb dX4_advance_137 rfl (lv_at hl 1 rfl) ?_
                    refine x_get S hK hP 0 rfl cfX4 4 lkX4_36 (by decide) rfl dX4_advance_138 ?_
                    refine lv_icmp_ne (tgt := 210) hx hb dX4_advance_141 (by decide) (fun c_120 => ?_) (fun c_120 => ?_)
                    · skip
                      exact x_retv S hr hlk hQ hS ((fun i => ([r_33, x_114] : List (Int32)).getD i 0), (fun i => ([j_7, j_113] : List (Nat)).getD i 0), (fun i => ([] : List (Nat → Int32)).getD i (fun _ => 0)), (fun i => ([] : List (Nat → Int64)).getD i (fun _ => 0)), (fun i => ([] : List (Int64)).getD i 0)) ⟨(show j_7 ≤ 600 by omega), (show j_113 ≤ 600 by omega)⟩ (x_B hP hD) dX4_advance_210
                    · skip
                      refine lv_iload_n hx hb dX4_advance_144 rfl (lv_at hl 0 rfl) ?_
                      refine lv_if_ne (tgt := 159) hx hb dX4_advance_145 (by decide) (fun c_121 => ?_) (fun c_121 => absurd c_121 (by decide))
                      refine lv_aload_n hx hb dX4_advance_159 rfl (lv_at hl 1 rfl) ?_
                      refine x_get S hK hP 0 rfl cfX4 4 lkX4_36 (by decide) rfl dX4_advance_160 ?_
                      refine lv_iconst (v := 2) hx hb dX4_advance_163 (by decide) ?_
                      refine lv_icmp_ne (tgt := 197) hx hb dX4_advance_164 (by decide) (fun c_122 => ?_) (fun c_122 => ?_)
                      · skip
                        exact absurd c_77 c_122
                      · skip
                        refine lv_aload_n hx hb dX4_advance_167 rfl (lv_at hl 1 rfl) ?_
                        refine lv_sipush (v := 1000) hx hb dX4_advance_168 (by decide) ?_
                        refine lv_aload_n hx hb dX4_advance_171 rfl (lv_at hl 1 rfl) ?_
                        refine x_get S hK hP 0 rfl cfX4 7 lkX4_145 (by decide) rfl dX4_advance_172 ?_
                        refine lv_bipush (v := 10) hx hb dX4_advance_175 (by decide) ?_
                        refine lv_imul hx hb dX4_advance_177 ?_
                        refine lv_topi (fun v_123 ev_123 => ?_)
                        refine lv_aload_n hx hb dX4_advance_178 rfl (lv_at hl 1 rfl) ?_
                        refine x_get S hK hP 0 rfl cfX4 0 lkX4_9 (by decide) rfl dX4_advance_179 ?_
                        refine lv_aload_n hx hb dX4_advance_182 rfl (lv_at hl 1 rfl) ?_
                        refine x_get S hK hP 0 rfl cfX4 6 lkX4_30 (by decide) rfl dX4_advance_183 ?_
                        refine x_bald S hK hP 1 rfl (vp_in_nI (by omega) (by decide)) dX4_advance_186 ?_
                        refine lv_topi (fun v_124 ev_124 => ?_)
                        refine lv_iadd hx hb dX4_advance_187 ?_
                        refine lv_topi (fun v_125 ev_125 => ?_)
                        refine lv_bipush (v := 48) hx hb dX4_advance_188 (by decide) ?_
                        refine lv_isub hx hb dX4_advance_190 ?_
                        refine lv_topi (fun v_126 ev_126 => ?_)
                        refine x_mmin S hl lkX4_164 (Nat.le_of_ble_eq_true rfl) (Nat.le_of_ble_eq_true rfl) ⟨Nat.le_of_ble_eq_true rfl, Nat.le_of_ble_eq_true rfl⟩ dX4_advance_191 (fun v_127 ev_127 => ?_)
                        refine x_put (ws' := [((o 1), .inr (4, [.ref (o 15), .int (nI rsize), .int rfault, .int rplace, .int r_33, .int (nI j_7), .int (nI j_113), .int v_127, .int rnumber])), ((o 15), .inl (k 1, 600, .inl f15))]) S hK hP hD hS 0 rfl cfX4 7 lkX4_145 (by decide) rfl rfl rfl (Nat.le_of_ble_eq_true rfl) rfl dX4_advance_194 (fun H locs hP hD hS => ?_)
                        refine lv_aload_n hx hb dX4_advance_197 rfl (lv_at hl 1 rfl) ?_
                        refine lv_dup hx hb dX4_advance_198 rfl ?_
                        refine x_get S hK hP 0 rfl cfX4 6 lkX4_30 (by decide) rfl dX4_advance_199 ?_
                        refine lv_iconst (v := 1) hx hb dX4_advance_202 (by decide) ?_
                        refine lv_iadd hx hb dX4_advance_203 ?_
                        refine x_is (nI (j_113 + 1)) (ni_add rfl (by decide)) ?_
                        refine x_put (ws' := [((o 1), .inr (4, [.ref (o 15), .int (nI rsize), .int rfault, .int rplace, .int r_33, .int (nI j_7), .int (nI (j_113 + 1)), .int v_127, .int rnumber])), ((o 15), .inl (k 1, 600, .inl f15))]) S hK hP hD hS 0 rfl cfX4 6 lkX4_30 (by decide) rfl rfl rfl (Nat.le_of_ble_eq_true rfl) rfl dX4_advance_204 (fun H locs hP hD hS => ?_)
                        refine lv_goto (tgt := 114) hx hb dX4_advance_207 (by decide) ?_
                        exact ihj_113 (j_113 + 1) v_127 _ _ _ (by omega) (by omega) hP hD hS (lv_sub hl [0, 1] rfl)
              exact lp_115 (600 + 1) j_7 0 _ _ _ (by omega) (by omega) hP hD hS (lv_sub hl [0, 1] rfl)
      · skip
        have c_9 : ¬ rsize ≤ j_7 := fun q => c_9 ((ni_le rfl rfl (by omega) (by omega)).mpr q)
        refine lv_aload_n hx hb dX4_advance_19 rfl (lv_at hl 0 rfl) ?_
        refine x_get S hK hP 0 rfl cfX4 0 lkX4_9 (by decide) rfl dX4_advance_20 ?_
        refine lv_aload_n hx hb dX4_advance_23 rfl (lv_at hl 0 rfl) ?_
        refine x_get S hK hP 0 rfl cfX4 5 lkX4_148 (by decide) rfl dX4_advance_24 ?_
        refine x_bald S hK hP 1 rfl (vp_in_nI (by omega) (by decide)) dX4_advance_27 ?_
        refine lv_topi (fun v_128 ev_128 => ?_)
        refine x_roSi (As := [.int v_128]) S hK hP hD hZ (fun _ h => h) hA hS hA hl mwX4_kindOf lkX4_160 (ctX4_kindOf l D k z v_128 ) [] rfl (by decide) rfl rfl ⟨Nat.le_of_ble_eq_true rfl, Nat.le_of_ble_eq_true rfl, Nat.le_of_ble_eq_true rfl⟩ dX4_advance_28 ⟨Nat.le_of_ble_eq_true rfl, Nat.le_of_ble_eq_true rfl⟩ (fun r_129 H locs hr_129 hP hS => ?_)
        refine lv_iconst (v := 5) hx hb dX4_advance_31 (by decide) ?_
        refine lv_icmp_ne (tgt := 48) hx hb dX4_advance_32 (by decide) (fun c_131 => ?_) (fun c_131 => ?_)
        · skip
          refine lv_aload_n hx hb dX4_advance_48 rfl (lv_at hl 0 rfl) ?_
          refine lv_aload_n hx hb dX4_advance_49 rfl (lv_at hl 0 rfl) ?_
          refine x_get S hK hP 0 rfl cfX4 5 lkX4_148 (by decide) rfl dX4_advance_50 ?_
          refine lv_aload_n hx hb dX4_advance_53 rfl (lv_at hl 0 rfl) ?_
          refine x_get S hK hP 0 rfl cfX4 1 lkX4_19 (by decide) rfl dX4_advance_54 ?_
          refine lv_icmp_ge (tgt := 75) hx hb dX4_advance_57 (by decide) (fun c_132 => ?_) (fun c_132 => ?_)
          · skip
            have c_132 : rsize ≤ j_7 := (ni_le rfl rfl (by omega) (by omega)).mp c_132
            refine lv_iconst (v := 0) hx hb dX4_advance_75 (by decide) ?_
            refine x_put (ws' := [((o 1), .inr (4, [.ref (o 15), .int (nI rsize), .int rfault, .int rplace, .int 0, .int (nI j_7), .int (nI rnext), .int rvalue, .int rnumber])), ((o 15), .inl (k 1, 600, .inl f15))]) S hK hP hD hS 0 rfl cfX4 4 lkX4_36 (by decide) rfl rfl rfl (Nat.le_of_ble_eq_true rfl) rfl dX4_advance_76 (fun H locs hP hD hS => ?_)
            refine lv_aload_n hx hb dX4_advance_79 rfl (lv_at hl 0 rfl) ?_
            refine lv_iconst (v := 0) hx hb dX4_advance_80 (by decide) ?_
            refine x_put (ws' := [((o 1), .inr (4, [.ref (o 15), .int (nI rsize), .int rfault, .int rplace, .int 0, .int (nI j_7), .int (nI rnext), .int 0, .int rnumber])), ((o 15), .inl (k 1, 600, .inl f15))]) S hK hP hD hS 0 rfl cfX4 7 lkX4_145 (by decide) rfl rfl rfl (Nat.le_of_ble_eq_true rfl) rfl dX4_advance_81 (fun H locs hP hD hS => ?_)
            refine lv_aload_n hx hb dX4_advance_84 rfl (lv_at hl 0 rfl) ?_
            refine lv_aload_n hx hb dX4_advance_85 rfl (lv_at hl 0 rfl) ?_
            refine x_get S hK hP 0 rfl cfX4 5 lkX4_148 (by decide) rfl dX4_advance_86 ?_
            refine x_put (ws' := [((o 1), .inr (4, [.ref (o 15), .int (nI rsize), .int rfault, .int rplace, .int 0, .int (nI j_7), .int (nI j_7), .int 0, .int rnumber])), ((o 15), .inl (k 1, 600, .inl f15))]) S hK hP hD hS 0 rfl cfX4 6 lkX4_30 (by decide) rfl rfl rfl (Nat.le_of_ble_eq_true rfl) rfl dX4_advance_89 (fun H locs hP hD hS => ?_)
            refine lv_aload_n hx hb dX4_advance_92 rfl (lv_at hl 0 rfl) ?_
            refine x_get S hK hP 0 rfl cfX4 4 lkX4_36 (by decide) rfl dX4_advance_93 ?_
            refine lv_iconst (v := 1) hx hb dX4_advance_96 (by decide) ?_
            refine lv_icmp_eq (tgt := 108) hx hb dX4_advance_97 (by decide) (fun c_133 => absurd c_133 (by decide)) (fun c_133 => ?_)
            refine lv_aload_n hx hb dX4_advance_100 rfl (lv_at hl 0 rfl) ?_
            refine x_get S hK hP 0 rfl cfX4 4 lkX4_36 (by decide) rfl dX4_advance_101 ?_
            refine lv_iconst (v := 2) hx hb dX4_advance_104 (by decide) ?_
            refine lv_icmp_ne (tgt := 112) hx hb dX4_advance_105 (by decide) (fun c_134 => ?_) (fun c_134 => absurd c_134 (by decide))
            refine lv_iconst (v := 0) hx hb dX4_advance_112 (by decide) ?_
            refine lv_istore_n (lv' := [(1, .int 0), (0, .ref (o 1))]) hx hb dX4_advance_113 rfl hl (by decide) rfl (fun ls hl => ?_)
            have lp_147 : ∀ (nn j_145 : Nat) (x_146 : Int32) (H : Heap) (locs : List Loc) (ls : Array Slot), j_145 ≤ 600 → 600 - j_145 < nn → va_P D vwCl [((o 1), .inr (4, [.ref (o 15), .int (nI rsize), .int rfault, .int rplace, .int 0, .int (nI j_7), .int (nI j_145), .int x_146, .int rnumber])), ((o 15), .inl (k 1, 600, .inl f15))] H → va_D A [((o 1), .inr (4, [.ref (o 15), .int (nI rsize), .int rfault, .int rplace, .int 0, .int (nI j_7), .int (nI j_145), .int x_146, .int rnumber])), ((o 15), .inl (k 1, 600, .inl f15))] → va_S A s.heap H locs → lv_has ls 2 [(1, .int 0), (0, .ref (o 1))] → W p l e (Rm 1 0 0) s m args below meth c H locs 0 0 Q (F0 m 114 ls []) := by
              intro nn
              induction nn with
              | zero => intro j_145 x_146 H locs ls hjj_145 hnj_145; exact absurd hnj_145 (by omega)
              | succ nn ihj_145 =>
                intro j_145 x_146 H locs ls hjj_145 hnj_145 hP hD hS hl
                refine lv_aload_n hx hb dX4_advance_114 rfl (lv_at hl 1 rfl) ?_
                refine x_get S hK hP 0 rfl cfX4 6 lkX4_30 (by decide) rfl dX4_advance_115 ?_
                refine lv_aload_n hx hb dX4_advance_118 rfl (lv_at hl 1 rfl) ?_
                refine x_get S hK hP 0 rfl cfX4 1 lkX4_19 (by decide) rfl dX4_advance_119 ?_
                refine lv_icmp_ge (tgt := 210) hx hb dX4_advance_122 (by decide) (fun c_148 => ?_) (fun c_148 => ?_)
                · skip
                  have c_148 : rsize ≤ j_145 := (ni_le rfl rfl (by omega) (by omega)).mp c_148
                  exact x_retv S hr hlk hQ hS ((fun i => ([0, x_146] : List (Int32)).getD i 0), (fun i => ([j_7, j_145] : List (Nat)).getD i 0), (fun i => ([] : List (Nat → Int32)).getD i (fun _ => 0)), (fun i => ([] : List (Nat → Int64)).getD i (fun _ => 0)), (fun i => ([] : List (Int64)).getD i 0)) ⟨(show j_7 ≤ 600 by omega), (show j_145 ≤ 600 by omega)⟩ (x_B hP hD) dX4_advance_210
                · skip
                  have c_148 : ¬ rsize ≤ j_145 := fun q => c_148 ((ni_le rfl rfl (by omega) (by omega)).mpr q)
                  refine lv_aload_n hx hb dX4_advance_125 rfl (lv_at hl 1 rfl) ?_
                  refine x_get S hK hP 0 rfl cfX4 0 lkX4_9 (by decide) rfl dX4_advance_126 ?_
                  refine lv_aload_n hx hb dX4_advance_129 rfl (lv_at hl 1 rfl) ?_
                  refine x_get S hK hP 0 rfl cfX4 6 lkX4_30 (by decide) rfl dX4_advance_130 ?_
                  refine x_bald S hK hP 1 rfl (vp_in_nI (by omega) (by decide)) dX4_advance_133 ?_
                  refine lv_topi (fun v_149 ev_149 => ?_)
                  refine x_roSi (As := [.int v_149]) S hK hP hD hZ (fun _ h => h) hA hS hA hl mwX4_kindOf lkX4_160 (ctX4_kindOf l D k z v_149 ) [] rfl (by decide) rfl rfl ⟨Nat.le_of_ble_eq_true rfl, Nat.le_of_ble_eq_true rfl, Nat.le_of_ble_eq_true rfl⟩ dX4_advance_134 ⟨Nat.le_of_ble_eq_true rfl, Nat.le_of_ble_eq_true rfl⟩ (fun r_150 H locs hr_150 hP hS => ?_)
                  refine lv_aload_n hx hb dX4_advance_137 rfl (lv_at hl 1 rfl) ?_
                  refine x_get S hK hP 0 rfl cfX4 4 lkX4_36 (by decide) rfl dX4_advance_138 ?_
                  refine lv_icmp_ne (tgt := 210) hx hb dX4_advance_141 (by decide) (fun c_152 => ?_) (fun c_152 => ?_)
                  · skip
                    exact x_retv S hr hlk hQ hS ((fun i => ([0, x_146] : List (Int32)).getD i 0), (fun i => ([j_7, j_145] : List (Nat)).getD i 0), (fun i => ([] : List (Nat → Int32)).getD i (fun _ => 0)), (fun i => ([] : List (Nat → Int64)).getD i (fun _ => 0)), (fun i => ([] : List (Int64)).getD i 0)) ⟨(show j_7 ≤ 600 by omega), (show j_145 ≤ 600 by omega)⟩ (x_B hP hD) dX4_advance_210
                  · skip
                    refine lv_iload_n hx hb dX4_advance_144 rfl (lv_at hl 0 rfl) ?_
                    refine lv_if_ne (tgt := 159) hx hb dX4_advance_145 (by decide) (fun c_153 => absurd (by decide) c_153) (fun c_153 => ?_)
                    refine lv_aload_n hx hb dX4_advance_148 rfl (lv_at hl 1 rfl) ?_
                    refine x_get S hK hP 0 rfl cfX4 6 lkX4_30 (by decide) rfl dX4_advance_149 ?_
                    refine lv_aload_n hx hb dX4_advance_152 rfl (lv_at hl 1 rfl) ?_
                    refine x_get S hK hP 0 rfl cfX4 5 lkX4_148 (by decide) rfl dX4_advance_153 ?_
                    refine lv_icmp_ne (tgt := 210) hx hb dX4_advance_156 (by decide) (fun c_154 => ?_) (fun c_154 => ?_)
                    · skip
                      have c_154 : ¬ j_145 = j_7 := fun q => c_154 ((ni_eq rfl rfl (by omega) (by omega)).mpr q)
                      exact x_retv S hr hlk hQ hS ((fun i => ([0, x_146] : List (Int32)).getD i 0), (fun i => ([j_7, j_145] : List (Nat)).getD i 0), (fun i => ([] : List (Nat → Int32)).getD i (fun _ => 0)), (fun i => ([] : List (Nat → Int64)).getD i (fun _ => 0)), (fun i => ([] : List (Int64)).getD i 0)) ⟨(show j_7 ≤ 600 by omega), (show j_145 ≤ 600 by omega)⟩ (x_B hP hD) dX4_advance_210
                    · skip
                      have c_154 : j_145 = j_7 := (ni_eq rfl rfl (by omega) (by omega)).mp c_154
                      refine lv_aload_n hx hb dX4_advance_159 rfl (lv_at hl 1 rfl) ?_
                      refine x_get S hK hP 0 rfl cfX4 4 lkX4_36 (by decide) rfl dX4_advance_160 ?_
                      refine lv_iconst (v := 2) hx hb dX4_advance_163 (by decide) ?_
                      refine lv_icmp_ne (tgt := 197) hx hb dX4_advance_164 (by decide) (fun c_155 => ?_) (fun c_155 => absurd c_155 (by decide))
                      refine lv_aload_n hx hb dX4_advance_197 rfl (lv_at hl 1 rfl) ?_
                      refine lv_dup hx hb dX4_advance_198 rfl ?_
                      refine x_get S hK hP 0 rfl cfX4 6 lkX4_30 (by decide) rfl dX4_advance_199 ?_
                      refine lv_iconst (v := 1) hx hb dX4_advance_202 (by decide) ?_
                      refine lv_iadd hx hb dX4_advance_203 ?_
                      refine x_is (nI (j_145 + 1)) (ni_add rfl (by decide)) ?_
                      refine x_put (ws' := [((o 1), .inr (4, [.ref (o 15), .int (nI rsize), .int rfault, .int rplace, .int 0, .int (nI j_7), .int (nI (j_145 + 1)), .int x_146, .int rnumber])), ((o 15), .inl (k 1, 600, .inl f15))]) S hK hP hD hS 0 rfl cfX4 6 lkX4_30 (by decide) rfl rfl rfl (Nat.le_of_ble_eq_true rfl) rfl dX4_advance_204 (fun H locs hP hD hS => ?_)
                      refine lv_goto (tgt := 114) hx hb dX4_advance_207 (by decide) ?_
                      exact ihj_145 (j_145 + 1) x_146 _ _ _ (by omega) (by omega) hP hD hS (lv_sub hl [0, 1] rfl)
            exact lp_147 (600 + 1) j_7 0 _ _ _ (by omega) (by omega) hP hD hS (lv_sub hl [0, 1] rfl)
          · skip
            have c_132 : ¬ rsize ≤ j_7 := fun q => c_132 ((ni_le rfl rfl (by omega) (by omega)).mpr q)
            refine lv_aload_n hx hb dX4_advance_60 rfl (lv_at hl 0 rfl) ?_
            refine x_get S hK hP 0 rfl cfX4 0 lkX4_9 (by decide) rfl dX4_advance_61 ?_
            refine lv_aload_n hx hb dX4_advance_64 rfl (lv_at hl 0 rfl) ?_
            refine x_get S hK hP 0 rfl cfX4 5 lkX4_148 (by decide) rfl dX4_advance_65 ?_
            refine x_bald S hK hP 1 rfl (vp_in_nI (by omega) (by decide)) dX4_advance_68 ?_
            refine lv_topi (fun v_156 ev_156 => ?_)
            refine x_roSi (As := [.int v_156]) S hK hP hD hZ (fun _ h => h) hA hS hA hl mwX4_kindOf lkX4_160 (ctX4_kindOf l D k z v_156 ) [] rfl (by decide) rfl rfl ⟨Nat.le_of_ble_eq_true rfl, Nat.le_of_ble_eq_true rfl, Nat.le_of_ble_eq_true rfl⟩ dX4_advance_69 ⟨Nat.le_of_ble_eq_true rfl, Nat.le_of_ble_eq_true rfl⟩ (fun r_157 H locs hr_157 hP hS => ?_)
            refine lv_goto (tgt := 76) hx hb dX4_advance_72 (by decide) ?_
            refine x_put (ws' := [((o 1), .inr (4, [.ref (o 15), .int (nI rsize), .int rfault, .int rplace, .int r_157, .int (nI j_7), .int (nI rnext), .int rvalue, .int rnumber])), ((o 15), .inl (k 1, 600, .inl f15))]) S hK hP hD hS 0 rfl cfX4 4 lkX4_36 (by decide) rfl rfl rfl (Nat.le_of_ble_eq_true rfl) rfl dX4_advance_76 (fun H locs hP hD hS => ?_)
            refine lv_aload_n hx hb dX4_advance_79 rfl (lv_at hl 0 rfl) ?_
            refine lv_iconst (v := 0) hx hb dX4_advance_80 (by decide) ?_
            refine x_put (ws' := [((o 1), .inr (4, [.ref (o 15), .int (nI rsize), .int rfault, .int rplace, .int r_157, .int (nI j_7), .int (nI rnext), .int 0, .int rnumber])), ((o 15), .inl (k 1, 600, .inl f15))]) S hK hP hD hS 0 rfl cfX4 7 lkX4_145 (by decide) rfl rfl rfl (Nat.le_of_ble_eq_true rfl) rfl dX4_advance_81 (fun H locs hP hD hS => ?_)
            refine lv_aload_n hx hb dX4_advance_84 rfl (lv_at hl 0 rfl) ?_
            refine lv_aload_n hx hb dX4_advance_85 rfl (lv_at hl 0 rfl) ?_
            refine x_get S hK hP 0 rfl cfX4 5 lkX4_148 (by decide) rfl dX4_advance_86 ?_
            refine x_put (ws' := [((o 1), .inr (4, [.ref (o 15), .int (nI rsize), .int rfault, .int rplace, .int r_157, .int (nI j_7), .int (nI j_7), .int 0, .int rnumber])), ((o 15), .inl (k 1, 600, .inl f15))]) S hK hP hD hS 0 rfl cfX4 6 lkX4_30 (by decide) rfl rfl rfl (Nat.le_of_ble_eq_true rfl) rfl dX4_advance_89 (fun H locs hP hD hS => ?_)
            refine lv_aload_n hx hb dX4_advance_92 rfl (lv_at hl 0 rfl) ?_
            refine x_get S hK hP 0 rfl cfX4 4 lkX4_36 (by decide) rfl dX4_advance_93 ?_
            refine lv_iconst (v := 1) hx hb dX4_advance_96 (by decide) ?_
            refine lv_icmp_eq (tgt := 108) hx hb dX4_advance_97 (by decide) (fun c_159 => ?_) (fun c_159 => ?_)
            · skip
              refine lv_iconst (v := 1) hx hb dX4_advance_108 (by decide) ?_
              refine lv_goto (tgt := 113) hx hb dX4_advance_109 (by decide) ?_
              refine lv_istore_n (lv' := [(1, .int 1), (0, .ref (o 1))]) hx hb dX4_advance_113 rfl hl (by decide) rfl (fun ls hl => ?_)
              have lp_176 : ∀ (nn j_174 : Nat) (x_175 : Int32) (H : Heap) (locs : List Loc) (ls : Array Slot), j_174 ≤ 600 → 600 - j_174 < nn → va_P D vwCl [((o 1), .inr (4, [.ref (o 15), .int (nI rsize), .int rfault, .int rplace, .int r_157, .int (nI j_7), .int (nI j_174), .int x_175, .int rnumber])), ((o 15), .inl (k 1, 600, .inl f15))] H → va_D A [((o 1), .inr (4, [.ref (o 15), .int (nI rsize), .int rfault, .int rplace, .int r_157, .int (nI j_7), .int (nI j_174), .int x_175, .int rnumber])), ((o 15), .inl (k 1, 600, .inl f15))] → va_S A s.heap H locs → lv_has ls 2 [(1, .int 1), (0, .ref (o 1))] → W p l e (Rm 1 0 0) s m args below meth c H locs 0 0 Q (F0 m 114 ls []) := by
                intro nn
                induction nn with
                | zero => intro j_174 x_175 H locs ls hjj_174 hnj_174; exact absurd hnj_174 (by omega)
                | succ nn ihj_174 =>
                  intro j_174 x_175 H locs ls hjj_174 hnj_174 hP hD hS hl
                  refine lv_aload_n hx hb dX4_advance_114 rfl (lv_at hl 1 rfl) ?_
                  refine x_get S hK hP 0 rfl cfX4 6 lkX4_30 (by decide) rfl dX4_advance_115 ?_
                  refine lv_aload_n hx hb dX4_advance_118 rfl (lv_at hl 1 rfl) ?_
                  refine x_get S hK hP 0 rfl cfX4 1 lkX4_19 (by decide) rfl dX4_advance_119 ?_
                  refine lv_icmp_ge (tgt := 210) hx hb dX4_advance_122 (by decide) (fun c_177 => ?_) (fun c_177 => ?_)
                  · skip
                    have c_177 : rsize ≤ j_174 := (ni_le rfl rfl (by omega) (by omega)).mp c_177
                    exact x_retv S hr hlk hQ hS ((fun i => ([r_157, x_175] : List (Int32)).getD i 0), (fun i => ([j_7, j_174] : List (Nat)).getD i 0), (fun i => ([] : List (Nat → Int32)).getD i (fun _ => 0)), (fun i => ([] : List (Nat → Int64)).getD i (fun _ => 0)), (fun i => ([] : List (Int64)).getD i 0)) ⟨(show j_7 ≤ 600 by omega), (show j_174 ≤ 600 by omega)⟩ (x_B hP hD) dX4_advance_210
                  · skip
                    have c_177 : ¬ rsize ≤ j_174 := fun q => c_177 ((ni_le rfl rfl (by omega) (by omega)).mpr q)
                    refine lv_aload_n hx hb dX4_advance_125 rfl (lv_at hl 1 rfl) ?_
                    refine x_get S hK hP 0 rfl cfX4 0 lkX4_9 (by decide) rfl dX4_advance_126 ?_
                    refine lv_aload_n hx hb dX4_advance_129 rfl (lv_at hl 1 rfl) ?_
                    refine x_get S hK hP 0 rfl cfX4 6 lkX4_30 (by decide) rfl dX4_advance_130 ?_
                    refine x_bald S hK hP 1 rfl (vp_in_nI (by omega) (by decide)) dX4_advance_133 ?_
                    refine lv_topi (fun v_178 ev_178 => ?_)
                    refine x_roSi (As := [.int v_178]) S hK hP hD hZ (fun _ h => h) hA hS hA hl mwX4_kindOf lkX4_160 (ctX4_kindOf l D k z v_178 ) [] rfl (by decide) rfl rfl ⟨Nat.le_of_ble_eq_true rfl, Nat.le_of_ble_eq_true rfl, Nat.le_of_ble_eq_true rfl⟩ dX4_advance_134 ⟨Nat.le_of_ble_eq_true rfl, Nat.le_of_ble_eq_true rfl⟩ (fun r_179 H locs hr_179 hP hS => ?_)
                    refine lv_aload_n hx hb dX4_advance_137 rfl (lv_at hl 1 rfl) ?_
                    refine x_get S hK hP 0 rfl cfX4 4 lkX4_36 (by decide) rfl dX4_advance_138 ?_
                    refine lv_icmp_ne (tgt := 210) hx hb dX4_advance_141 (by decide) (fun c_181 => ?_) (fun c_181 => ?_)
                    · skip
                      exact x_retv S hr hlk hQ hS ((fun i => ([r_157, x_175] : List (Int32)).getD i 0), (fun i => ([j_7, j_174] : List (Nat)).getD i 0), (fun i => ([] : List (Nat → Int32)).getD i (fun _ => 0)), (fun i => ([] : List (Nat → Int64)).getD i (fun _ => 0)), (fun i => ([] : List (Int64)).getD i 0)) ⟨(show j_7 ≤ 600 by omega), (show j_174 ≤ 600 by omega)⟩ (x_B hP hD) dX4_advance_210
                    · skip
                      refine lv_iload_n hx hb dX4_advance_144 rfl (lv_at hl 0 rfl) ?_
                      refine lv_if_ne (tgt := 159) hx hb dX4_advance_145 (by decide) (fun c_182 => ?_) (fun c_182 => absurd c_182 (by decide))
                      refine lv_aload_n hx hb dX4_advance_159 rfl (lv_at hl 1 rfl) ?_
                      refine x_get S hK hP 0 rfl cfX4 4 lkX4_36 (by decide) rfl dX4_advance_160 ?_
                      refine lv_iconst (v := 2) hx hb dX4_advance_163 (by decide) ?_
                      refine lv_icmp_ne (tgt := 197) hx hb dX4_advance_164 (by decide) (fun c_183 => ?_) (fun c_183 => ?_)
                      · skip
                        refine lv_aload_n hx hb dX4_advance_197 rfl (lv_at hl 1 rfl) ?_
                        refine lv_dup hx hb dX4_advance_198 rfl ?_
                        refine x_get S hK hP 0 rfl cfX4 6 lkX4_30 (by decide) rfl dX4_advance_199 ?_
                        refine lv_iconst (v := 1) hx hb dX4_advance_202 (by decide) ?_
                        refine lv_iadd hx hb dX4_advance_203 ?_
                        refine x_is (nI (j_174 + 1)) (ni_add rfl (by decide)) ?_
                        refine x_put (ws' := [((o 1), .inr (4, [.ref (o 15), .int (nI rsize), .int rfault, .int rplace, .int r_157, .int (nI j_7), .int (nI (j_174 + 1)), .int x_175, .int rnumber])), ((o 15), .inl (k 1, 600, .inl f15))]) S hK hP hD hS 0 rfl cfX4 6 lkX4_30 (by decide) rfl rfl rfl (Nat.le_of_ble_eq_true rfl) rfl dX4_advance_204 (fun H locs hP hD hS => ?_)
                        refine lv_goto (tgt := 114) hx hb dX4_advance_207 (by decide) ?_
                        exact ihj_174 (j_174 + 1) x_175 _ _ _ (by omega) (by omega) hP hD hS (lv_sub hl [0, 1] rfl)
                      · skip
                        refine lv_aload_n hx hb dX4_advance_167 rfl (lv_at hl 1 rfl) ?_
                        refine lv_sipush (v := 1000) hx hb dX4_advance_168 (by decide) ?_
                        refine lv_aload_n hx hb dX4_advance_171 rfl (lv_at hl 1 rfl) ?_
                        refine x_get S hK hP 0 rfl cfX4 7 lkX4_145 (by decide) rfl dX4_advance_172 ?_
                        refine lv_bipush (v := 10) hx hb dX4_advance_175 (by decide) ?_
                        refine lv_imul hx hb dX4_advance_177 ?_
                        refine lv_topi (fun v_184 ev_184 => ?_)
                        refine lv_aload_n hx hb dX4_advance_178 rfl (lv_at hl 1 rfl) ?_
                        refine x_get S hK hP 0 rfl cfX4 0 lkX4_9 (by decide) rfl dX4_advance_179 ?_
                        refine lv_aload_n hx hb dX4_advance_182 rfl (lv_at hl 1 rfl) ?_
                        refine x_get S hK hP 0 rfl cfX4 6 lkX4_30 (by decide) rfl dX4_advance_183 ?_
                        refine x_bald S hK hP 1 rfl (vp_in_nI (by omega) (by decide)) dX4_advance_186 ?_
                        refine lv_topi (fun v_185 ev_185 => ?_)
                        refine lv_iadd hx hb dX4_advance_187 ?_
                        refine lv_topi (fun v_186 ev_186 => ?_)
                        refine lv_bipush (v := 48) hx hb dX4_advance_188 (by decide) ?_
                        refine lv_isub hx hb dX4_advance_190 ?_
                        refine lv_topi (fun v_187 ev_187 => ?_)
                        refine x_mmin S hl lkX4_164 (Nat.le_of_ble_eq_true rfl) (Nat.le_of_ble_eq_true rfl) ⟨Nat.le_of_ble_eq_true rfl, Nat.le_of_ble_eq_true rfl⟩ dX4_advance_191 (fun v_188 ev_188 => ?_)
                        refine x_put (ws' := [((o 1), .inr (4, [.ref (o 15), .int (nI rsize), .int rfault, .int rplace, .int r_157, .int (nI j_7), .int (nI j_174), .int v_188, .int rnumber])), ((o 15), .inl (k 1, 600, .inl f15))]) S hK hP hD hS 0 rfl cfX4 7 lkX4_145 (by decide) rfl rfl rfl (Nat.le_of_ble_eq_true rfl) rfl dX4_advance_194 (fun H locs hP hD hS => ?_)
                        refine lv_aload_n hx hb dX4_advance_197 rfl (lv_at hl 1 rfl) ?_
                        refine lv_dup hx hb dX4_advance_198 rfl ?_
                        refine x_get S hK hP 0 rfl cfX4 6 lkX4_30 (by decide) rfl dX4_advance_199 ?_
                        refine lv_iconst (v := 1) hx hb dX4_advance_202 (by decide) ?_
                        refine lv_iadd hx hb dX4_advance_203 ?_
                        refine x_is (nI (j_174 + 1)) (ni_add rfl (by decide)) ?_
                        refine x_put (ws' := [((o 1), .inr (4, [.ref (o 15), .int (nI rsize), .int rfault, .int rplace, .int r_157, .int (nI j_7), .int (nI (j_174 + 1)), .int v_188, .int rnumber])), ((o 15), .inl (k 1, 600, .inl f15))]) S hK hP hD hS 0 rfl cfX4 6 lkX4_30 (by decide) rfl rfl rfl (Nat.le_of_ble_eq_true rfl) rfl dX4_advance_204 (fun H locs hP hD hS => ?_)
                        refine lv_goto (tgt := 114) hx hb dX4_advance_207 (by decide) ?_
                        exact ihj_174 (j_174 + 1) v_188 _ _ _ (by omega) (by omega) hP hD hS (lv_sub hl [0, 1] rfl)
              exact lp_176 (600 + 1) j_7 0 _ _ _ (by omega) (by omega) hP hD hS (lv_sub hl [0, 1] rfl)
            · skip
              refine lv_aload_n hx hb dX4_advance_100 rfl (lv_at hl 0 rfl) ?_
              refine x_get S hK hP 0 rfl cfX4 4 lkX4_36 (by decide) rfl dX4_advance_101 ?_
              refine lv_iconst (v := 2) hx hb dX4_advance_104 (by decide) ?_
              refine lv_icmp_ne (tgt := 112) hx hb dX4_advance_105 (by decide) (fun c_189 => ?_) (fun c_189 => ?_)
              · skip
                refine lv_iconst (v := 0) hx hb dX4_advance_112 (by decide) ?_
                refine lv_istore_n (lv' := [(1, .int 0), (0, .ref (o 1))]) hx hb dX4_advance_113 rfl hl (by decide) rfl (fun ls hl => ?_)
                have lp_202 : ∀ (nn j_200 : Nat) (x_201 : Int32) (H : Heap) (locs : List Loc) (ls : Array Slot), j_200 ≤ 600 → 600 - j_200 < nn → va_P D vwCl [((o 1), .inr (4, [.ref (o 15), .int (nI rsize), .int rfault, .int rplace, .int r_157, .int (nI j_7), .int (nI j_200), .int x_201, .int rnumber])), ((o 15), .inl (k 1, 600, .inl f15))] H → va_D A [((o 1), .inr (4, [.ref (o 15), .int (nI rsize), .int rfault, .int rplace, .int r_157, .int (nI j_7), .int (nI j_200), .int x_201, .int rnumber])), ((o 15), .inl (k 1, 600, .inl f15))] → va_S A s.heap H locs → lv_has ls 2 [(1, .int 0), (0, .ref (o 1))] → W p l e (Rm 1 0 0) s m args below meth c H locs 0 0 Q (F0 m 114 ls []) := by
                  intro nn
                  induction nn with
                  | zero => intro j_200 x_201 H locs ls hjj_200 hnj_200; exact absurd hnj_200 (by omega)
                  | succ nn ihj_200 =>
                    intro j_200 x_201 H locs ls hjj_200 hnj_200 hP hD hS hl
                    refine lv_aload_n hx hb dX4_advance_114 rfl (lv_at hl 1 rfl) ?_
                    refine x_get S hK hP 0 rfl cfX4 6 lkX4_30 (by decide) rfl dX4_advance_115 ?_
                    refine lv_aload_n hx hb dX4_advance_118 rfl (lv_at hl 1 rfl) ?_
                    refine x_get S hK hP 0 rfl cfX4 1 lkX4_19 (by decide) rfl dX4_advance_119 ?_
                    refine lv_icmp_ge (tgt := 210) hx hb dX4_advance_122 (by decide) (fun c_203 => ?_) (fun c_203 => ?_)
                    · skip
                      have c_203 : rsize ≤ j_200 := (ni_le rfl rfl (by omega) (by omega)).mp c_203
                      exact x_retv S hr hlk hQ hS ((fun i => ([r_157, x_201] : List (Int32)).getD i 0), (fun i => ([j_7, j_200] : List (Nat)).getD i 0), (fun i => ([] : List (Nat → Int32)).getD i (fun _ => 0)), (fun i => ([] : List (Nat → Int64)).getD i (fun _ => 0)), (fun i => ([] : List (Int64)).getD i 0)) ⟨(show j_7 ≤ 600 by omega), (show j_200 ≤ 600 by omega)⟩ (x_B hP hD) dX4_advance_210
                    · skip
                      have c_203 : ¬ rsize ≤ j_200 := fun q => c_203 ((ni_le rfl rfl (by omega) (by omega)).mpr q)
                      refine lv_aload_n hx hb dX4_advance_125 rfl (lv_at hl 1 rfl) ?_
                      refine x_get S hK hP 0 rfl cfX4 0 lkX4_9 (by decide) rfl dX4_advance_126 ?_
                      refine lv_aload_n hx hb dX4_advance_129 rfl (lv_at hl 1 rfl) ?_
                      refine x_get S hK hP 0 rfl cfX4 6 lkX4_30 (by decide) rfl dX4_advance_130 ?_
                      refine x_bald S hK hP 1 rfl (vp_in_nI (by omega) (by decide)) dX4_advance_133 ?_
                      refine lv_topi (fun v_204 ev_204 => ?_)
                      refine x_roSi (As := [.int v_204]) S hK hP hD hZ (fun _ h => h) hA hS hA hl mwX4_kindOf lkX4_160 (ctX4_kindOf l D k z v_204 ) [] rfl (by decide) rfl rfl ⟨Nat.le_of_ble_eq_true rfl, Nat.le_of_ble_eq_true rfl, Nat.le_of_ble_eq_true rfl⟩ dX4_advance_134 ⟨Nat.le_of_ble_eq_true rfl, Nat.le_of_ble_eq_true rfl⟩ (fun r_205 H locs hr_205 hP hS => ?_)
                      refine lv_aload_n hx hb dX4_advance_137 rfl (lv_at hl 1 rfl) ?_
                      refine x_get S hK hP 0 rfl cfX4 4 lkX4_36 (by decide) rfl dX4_advance_138 ?_
                      refine lv_icmp_ne (tgt := 210) hx hb dX4_advance_141 (by decide) (fun c_207 => ?_) (fun c_207 => ?_)
                      · skip
                        exact x_retv S hr hlk hQ hS ((fun i => ([r_157, x_201] : List (Int32)).getD i 0), (fun i => ([j_7, j_200] : List (Nat)).getD i 0), (fun i => ([] : List (Nat → Int32)).getD i (fun _ => 0)), (fun i => ([] : List (Nat → Int64)).getD i (fun _ => 0)), (fun i => ([] : List (Int64)).getD i 0)) ⟨(show j_7 ≤ 600 by omega), (show j_200 ≤ 600 by omega)⟩ (x_B hP hD) dX4_advance_210
                      · skip
                        refine lv_iload_n hx hb dX4_advance_144 rfl (lv_at hl 0 rfl) ?_
                        refine lv_if_ne (tgt := 159) hx hb dX4_advance_145 (by decide) (fun c_208 => absurd (by decide) c_208) (fun c_208 => ?_)
                        refine lv_aload_n hx hb dX4_advance_148 rfl (lv_at hl 1 rfl) ?_
                        refine x_get S hK hP 0 rfl cfX4 6 lkX4_30 (by decide) rfl dX4_advance_149 ?_
                        refine lv_aload_n hx hb dX4_advance_152 rfl (lv_at hl 1 rfl) ?_
                        refine x_get S hK hP 0 rfl cfX4 5 lkX4_148 (by decide) rfl dX4_advance_153 ?_
                        refine lv_icmp_ne (tgt := 210) hx hb dX4_advance_156 (by decide) (fun c_209 => ?_) (fun c_209 => ?_)
                        · skip
                          have c_209 : ¬ j_200 = j_7 := fun q => c_209 ((ni_eq rfl rfl (by omega) (by omega)).mpr q)
                          exact x_retv S hr hlk hQ hS ((fun i => ([r_157, x_201] : List (Int32)).getD i 0), (fun i => ([j_7, j_200] : List (Nat)).getD i 0), (fun i => ([] : List (Nat → Int32)).getD i (fun _ => 0)), (fun i => ([] : List (Nat → Int64)).getD i (fun _ => 0)), (fun i => ([] : List (Int64)).getD i 0)) ⟨(show j_7 ≤ 600 by omega), (show j_200 ≤ 600 by omega)⟩ (x_B hP hD) dX4_advance_210
                        · skip
                          have c_209 : j_200 = j_7 := (ni_eq rfl rfl (by omega) (by omega)).mp c_209
                          refine lv_aload_n hx hb dX4_advance_159 rfl (lv_at hl 1 rfl) ?_
                          refine x_get S hK hP 0 rfl cfX4 4 lkX4_36 (by decide) rfl dX4_advance_160 ?_
                          refine lv_iconst (v := 2) hx hb dX4_advance_163 (by decide) ?_
                          refine lv_icmp_ne (tgt := 197) hx hb dX4_advance_164 (by decide) (fun c_210 => ?_) (fun c_210 => ?_)
                          · skip
                            refine lv_aload_n hx hb dX4_advance_197 rfl (lv_at hl 1 rfl) ?_
                            refine lv_dup hx hb dX4_advance_198 rfl ?_
                            refine x_get S hK hP 0 rfl cfX4 6 lkX4_30 (by decide) rfl dX4_advance_199 ?_
                            refine lv_iconst (v := 1) hx hb dX4_advance_202 (by decide) ?_
                            refine lv_iadd hx hb dX4_advance_203 ?_
                            refine x_is (nI (j_200 + 1)) (ni_add rfl (by decide)) ?_
                            refine x_put (ws' := [((o 1), .inr (4, [.ref (o 15), .int (nI rsize), .int rfault, .int rplace, .int r_157, .int (nI j_7), .int (nI (j_200 + 1)), .int x_201, .int rnumber])), ((o 15), .inl (k 1, 600, .inl f15))]) S hK hP hD hS 0 rfl cfX4 6 lkX4_30 (by decide) rfl rfl rfl (Nat.le_of_ble_eq_true rfl) rfl dX4_advance_204 (fun H locs hP hD hS => ?_)
                            refine lv_goto (tgt := 114) hx hb dX4_advance_207 (by decide) ?_
                            exact ihj_200 (j_200 + 1) x_201 _ _ _ (by omega) (by omega) hP hD hS (lv_sub hl [0, 1] rfl)
                          · skip
                            exact absurd c_210 c_189
                exact lp_202 (600 + 1) j_7 0 _ _ _ (by omega) (by omega) hP hD hS (lv_sub hl [0, 1] rfl)
              · skip
                refine lv_iconst (v := 1) hx hb dX4_advance_108 (by decide) ?_
                refine lv_goto (tgt := 113) hx hb dX4_advance_109 (by decide) ?_
                refine lv_istore_n (lv' := [(1, .int 1), (0, .ref (o 1))]) hx hb dX4_advance_113 rfl hl (by decide) rfl (fun ls hl => ?_)
                have lp_227 : ∀ (nn j_225 : Nat) (x_226 : Int32) (H : Heap) (locs : List Loc) (ls : Array Slot), j_225 ≤ 600 → 600 - j_225 < nn → va_P D vwCl [((o 1), .inr (4, [.ref (o 15), .int (nI rsize), .int rfault, .int rplace, .int r_157, .int (nI j_7), .int (nI j_225), .int x_226, .int rnumber])), ((o 15), .inl (k 1, 600, .inl f15))] H → va_D A [((o 1), .inr (4, [.ref (o 15), .int (nI rsize), .int rfault, .int rplace, .int r_157, .int (nI j_7), .int (nI j_225), .int x_226, .int rnumber])), ((o 15), .inl (k 1, 600, .inl f15))] → va_S A s.heap H locs → lv_has ls 2 [(1, .int 1), (0, .ref (o 1))] → W p l e (Rm 1 0 0) s m args below meth c H locs 0 0 Q (F0 m 114 ls []) := by
                  intro nn
                  induction nn with
                  | zero => intro j_225 x_226 H locs ls hjj_225 hnj_225; exact absurd hnj_225 (by omega)
                  | succ nn ihj_225 =>
                    intro j_225 x_226 H locs ls hjj_225 hnj_225 hP hD hS hl
                    refine lv_aload_n hx hb dX4_advance_114 rfl (lv_at hl 1 rfl) ?_
                    refine x_get S hK hP 0 rfl cfX4 6 lkX4_30 (by decide) rfl dX4_advance_115 ?_
                    refine lv_aload_n hx hb dX4_advance_118 rfl (lv_at hl 1 rfl) ?_
                    refine x_get S hK hP 0 rfl cfX4 1 lkX4_19 (by decide) rfl dX4_advance_119 ?_
                    refine lv_icmp_ge (tgt := 210) hx hb dX4_advance_122 (by decide) (fun c_228 => ?_) (fun c_228 => ?_)
                    · skip
                      have c_228 : rsize ≤ j_225 := (ni_le rfl rfl (by omega) (by omega)).mp c_228
                      exact x_retv S hr hlk hQ hS ((fun i => ([r_157, x_226] : List (Int32)).getD i 0), (fun i => ([j_7, j_225] : List (Nat)).getD i 0), (fun i => ([] : List (Nat → Int32)).getD i (fun _ => 0)), (fun i => ([] : List (Nat → Int64)).getD i (fun _ => 0)), (fun i => ([] : List (Int64)).getD i 0)) ⟨(show j_7 ≤ 600 by omega), (show j_225 ≤ 600 by omega)⟩ (x_B hP hD) dX4_advance_210
                    · skip
                      have c_228 : ¬ rsize ≤ j_225 := fun q => c_228 ((ni_le rfl rfl (by omega) (by omega)).mpr q)
                      refine lv_aload_n hx hb dX4_advance_125 rfl (lv_at hl 1 rfl) ?_
                      refine x_get S hK hP 0 rfl cfX4 0 lkX4_9 (by decide) rfl dX4_advance_126 ?_
                      refine lv_aload_n hx hb dX4_advance_129 rfl (lv_at hl 1 rfl) ?_
                      refine x_get S hK hP 0 rfl cfX4 6 lkX4_30 (by decide) rfl dX4_advance_130 ?_
                      refine x_bald S hK hP 1 rfl (vp_in_nI (by omega) (by decide)) dX4_advance_133 ?_
                      refine lv_topi (fun v_229 ev_229 => ?_)
                      refine x_roSi (As := [.int v_229]) S hK hP hD hZ (fun _ h => h) hA hS hA hl mwX4_kindOf lkX4_160 (ctX4_kindOf l D k z v_229 ) [] rfl (by decide) rfl rfl ⟨Nat.le_of_ble_eq_true rfl, Nat.le_of_ble_eq_true rfl, Nat.le_of_ble_eq_true rfl⟩ dX4_advance_134 ⟨Nat.le_of_ble_eq_true rfl, Nat.le_of_ble_eq_true rfl⟩ (fun r_230 H locs hr_230 hP hS => ?_)
                      refine lv_aload_n hx hb dX4_advance_137 rfl (lv_at hl 1 rfl) ?_
                      refine x_get S hK hP 0 rfl cfX4 4 lkX4_36 (by decide) rfl dX4_advance_138 ?_
                      refine lv_icmp_ne (tgt := 210) hx hb dX4_advance_141 (by decide) (fun c_232 => ?_) (fun c_232 => ?_)
                      · skip
                        exact x_retv S hr hlk hQ hS ((fun i => ([r_157, x_226] : List (Int32)).getD i 0), (fun i => ([j_7, j_225] : List (Nat)).getD i 0), (fun i => ([] : List (Nat → Int32)).getD i (fun _ => 0)), (fun i => ([] : List (Nat → Int64)).getD i (fun _ => 0)), (fun i => ([] : List (Int64)).getD i 0)) ⟨(show j_7 ≤ 600 by omega), (show j_225 ≤ 600 by omega)⟩ (x_B hP hD) dX4_advance_210
                      · skip
                        refine lv_iload_n hx hb dX4_advance_144 rfl (lv_at hl 0 rfl) ?_
                        refine lv_if_ne (tgt := 159) hx hb dX4_advance_145 (by decide) (fun c_233 => ?_) (fun c_233 => absurd c_233 (by decide))
                        refine lv_aload_n hx hb dX4_advance_159 rfl (lv_at hl 1 rfl) ?_
                        refine x_get S hK hP 0 rfl cfX4 4 lkX4_36 (by decide) rfl dX4_advance_160 ?_
                        refine lv_iconst (v := 2) hx hb dX4_advance_163 (by decide) ?_
                        refine lv_icmp_ne (tgt := 197) hx hb dX4_advance_164 (by decide) (fun c_234 => ?_) (fun c_234 => ?_)
                        · skip
                          exact absurd c_189 c_234
                        · skip
                          refine lv_aload_n hx hb dX4_advance_167 rfl (lv_at hl 1 rfl) ?_
                          refine lv_sipush (v := 1000) hx hb dX4_advance_168 (by decide) ?_
                          refine lv_aload_n hx hb dX4_advance_171 rfl (lv_at hl 1 rfl) ?_
                          refine x_get S hK hP 0 rfl cfX4 7 lkX4_145 (by decide) rfl dX4_advance_172 ?_
                          refine lv_bipush (v := 10) hx hb dX4_advance_175 (by decide) ?_
                          refine lv_imul hx hb dX4_advance_177 ?_
                          refine lv_topi (fun v_235 ev_235 => ?_)
                          refine lv_aload_n hx hb dX4_advance_178 rfl (lv_at hl 1 rfl) ?_
                          refine x_get S hK hP 0 rfl cfX4 0 lkX4_9 (by decide) rfl dX4_advance_179 ?_
                          refine lv_aload_n hx hb dX4_advance_182 rfl (lv_at hl 1 rfl) ?_
                          refine x_get S hK hP 0 rfl cfX4 6 lkX4_30 (by decide) rfl dX4_advance_183 ?_
                          refine x_bald S hK hP 1 rfl (vp_in_nI (by omega) (by decide)) dX4_advance_186 ?_
                          refine lv_topi (fun v_236 ev_236 => ?_)
                          refine lv_iadd hx hb dX4_advance_187 ?_
                          refine lv_topi (fun v_237 ev_237 => ?_)
                          refine lv_bipush (v := 48) hx hb dX4_advance_188 (by decide) ?_
                          refine lv_isub hx hb dX4_advance_190 ?_
                          refine lv_topi (fun v_238 ev_238 => ?_)
                          refine x_mmin S hl lkX4_164 (Nat.le_of_ble_eq_true rfl) (Nat.le_of_ble_eq_true rfl) ⟨Nat.le_of_ble_eq_true rfl, Nat.le_of_ble_eq_true rfl⟩ dX4_advance_191 (fun v_239 ev_239 => ?_)
                          refine x_put (ws' := [((o 1), .inr (4, [.ref (o 15), .int (nI rsize), .int rfault, .int rplace, .int r_157, .int (nI j_7), .int (nI j_225), .int v_239, .int rnumber])), ((o 15), .inl (k 1, 600, .inl f15))]) S hK hP hD hS 0 rfl cfX4 7 lkX4_145 (by decide) rfl rfl rfl (Nat.le_of_ble_eq_true rfl) rfl dX4_advance_194 (fun H locs hP hD hS => ?_)
                          refine lv_aload_n hx hb dX4_advance_197 rfl (lv_at hl 1 rfl) ?_
                          refine lv_dup hx hb dX4_advance_198 rfl ?_
                          refine x_get S hK hP 0 rfl cfX4 6 lkX4_30 (by decide) rfl dX4_advance_199 ?_
                          refine lv_iconst (v := 1) hx hb dX4_advance_202 (by decide) ?_
                          refine lv_iadd hx hb dX4_advance_203 ?_
                          refine x_is (nI (j_225 + 1)) (ni_add rfl (by decide)) ?_
                          refine x_put (ws' := [((o 1), .inr (4, [.ref (o 15), .int (nI rsize), .int rfault, .int rplace, .int r_157, .int (nI j_7), .int (nI (j_225 + 1)), .int v_239, .int rnumber])), ((o 15), .inl (k 1, 600, .inl f15))]) S hK hP hD hS 0 rfl cfX4 6 lkX4_30 (by decide) rfl rfl rfl (Nat.le_of_ble_eq_true rfl) rfl dX4_advance_204 (fun H locs hP hD hS => ?_)
                          refine lv_goto (tgt := 114) hx hb dX4_advance_207 (by decide) ?_
                          exact ihj_225 (j_225 + 1) v_239 _ _ _ (by omega) (by omega) hP hD hS (lv_sub hl [0, 1] rfl)
                exact lp_227 (600 + 1) j_7 0 _ _ _ (by omega) (by omega) hP hD hS (lv_sub hl [0, 1] rfl)
        · skip
          refine lv_aload_n hx hb dX4_advance_35 rfl (lv_at hl 0 rfl) ?_
          refine lv_dup hx hb dX4_advance_36 rfl ?_
          refine x_get S hK hP 0 rfl cfX4 5 lkX4_148 (by decide) rfl dX4_advance_37 ?_
          refine lv_iconst (v := 1) hx hb dX4_advance_40 (by decide) ?_
          refine lv_iadd hx hb dX4_advance_41 ?_
          refine x_is (nI (j_7 + 1)) (ni_add rfl (by decide)) ?_
          refine x_put (ws' := [((o 1), .inr (4, [.ref (o 15), .int (nI rsize), .int rfault, .int rplace, .int rkind, .int (nI (j_7 + 1)), .int (nI rnext), .int rvalue, .int rnumber])), ((o 15), .inl (k 1, 600, .inl f15))]) S hK hP hD hS 0 rfl cfX4 5 lkX4_148 (by decide) rfl rfl rfl (Nat.le_of_ble_eq_true rfl) rfl dX4_advance_42 (fun H locs hP hD hS => ?_)
          refine lv_goto (tgt := 8) hx hb dX4_advance_45 (by decide) ?_
          exact ihj_7 (j_7 + 1)  _ _ _ (by omega) (by omega) hP hD hS (lv_sub hl [0] rfl)
  exact lp_8 (600 + 1) rnext  _ _ _ (by omega) (by omega) hP hD hS (lv_sub hl [0] rfl)

set_option maxHeartbeats 4000000 in
set_option maxRecDepth 100000 in
theorem ctX4_refuse (l : Launch) (D : va_G) (k : Nat → ClassId) (z : Nat → Nat) (o : Nat → Nat) (rfault : Int32) (rplace : Int32) (rkind : Int32) (rvalue : Int32) (rnumber : Int32) (rsize : Nat) (rstart : Nat) (rnext : Nat) (f15 : Nat → Int32) (p0 : Int32) (hrsize : rsize ≤ 600) (hrstart : rstart ≤ 600) (hrnext : rnext ≤ 600) : MU l yX4_refuse cX4_refuse 2 (some .boolean) 0 D k z [.ref (o 1), .int p0] [((o 1), .inr (4, [.ref (o 15), .int (nI rsize), .int rfault, .int rplace, .int rkind, .int (nI rstart), .int (nI rnext), .int rvalue, .int rnumber])), ((o 15), .inl (k 1, 600, .inl f15))] 0 0 (Ui D (fun (r : Int32) (u : (Nat → Int32) × (Nat → Nat) × (Nat → Nat → Int32) × (Nat → Nat → Int64) × (Nat → Int64)) => (r = 0)) (fun u : (Nat → Int32) × (Nat → Nat) × (Nat → Nat → Int32) × (Nat → Nat → Int64) × (Nat → Int64) => [((o 1), .inr (4, [.ref (o 15), .int (nI rsize), .int (u.1 0), .int (u.1 1), .int rkind, .int (nI rstart), .int (nI rnext), .int rvalue, .int rnumber])), ((o 15), .inl (k 1, 600, .inl f15))])) := by
  refine MU.of (by decide) (Nat.le_of_ble_eq_true rfl) ?_
  intro p e s m below meth c ls A args Q S hr hlk hnm hQ hK hP hD hZ hA hS hl
  have hx := S.1
  have hb := S.2.1
  have hl : lv_has ls 2 [(0, .ref (o 1)), (1, .int p0)] := hl
  refine lv_aload_n hx hb dX4_refuse_0 rfl (lv_at hl 0 rfl) ?_
  refine lv_iload_n hx hb dX4_refuse_1 rfl (lv_at hl 1 rfl) ?_
  refine x_put (ws' := [((o 1), .inr (4, [.ref (o 15), .int (nI rsize), .int p0, .int rplace, .int rkind, .int (nI rstart), .int (nI rnext), .int rvalue, .int rnumber])), ((o 15), .inl (k 1, 600, .inl f15))]) S hK hP hD hS 0 rfl cfX4 2 lkX4_27 (by decide) rfl rfl rfl (Nat.le_of_ble_eq_true rfl) rfl dX4_refuse_2 (fun H locs hP hD hS => ?_)
  refine lv_aload_n hx hb dX4_refuse_5 rfl (lv_at hl 0 rfl) ?_
  refine lv_aload_n hx hb dX4_refuse_6 rfl (lv_at hl 0 rfl) ?_
  refine x_get S hK hP 0 rfl cfX4 5 lkX4_148 (by decide) rfl dX4_refuse_7 ?_
  refine x_put (ws' := [((o 1), .inr (4, [.ref (o 15), .int (nI rsize), .int p0, .int (nI rstart), .int rkind, .int (nI rstart), .int (nI rnext), .int rvalue, .int rnumber])), ((o 15), .inl (k 1, 600, .inl f15))]) S hK hP hD hS 0 rfl cfX4 3 lkX4_15 (by decide) rfl rfl rfl (Nat.le_of_ble_eq_true rfl) rfl dX4_refuse_10 (fun H locs hP hD hS => ?_)
  refine lv_iconst (v := 0) hx hb dX4_refuse_13 (by decide) ?_
  exact x_retz S hr hlk hQ hS rfl ((fun i => ([p0, (nI rstart)] : List (Int32)).getD i 0), (fun i => ([] : List (Nat)).getD i 0), (fun i => ([] : List (Nat → Int32)).getD i (fun _ => 0)), (fun i => ([] : List (Nat → Int64)).getD i (fun _ => 0)), (fun i => ([] : List (Int64)).getD i 0)) rfl (x_B hP hD) dX4_refuse_14

set_option maxHeartbeats 4000000 in
set_option maxRecDepth 100000 in
theorem ctX4_isWord (l : Launch) (D : va_G) (k : Nat → ClassId) (z : Nat → Nat) (o : Nat → Nat) (rfault : Int32) (rplace : Int32) (rkind : Int32) (rvalue : Int32) (rnumber : Int32) (rsize : Nat) (rstart : Nat) (rnext : Nat) (f15 : Nat → Int32) (i : Nat) (hrsize : rsize ≤ 600) (hrstart : rstart ≤ 600) (hrnext : rnext ≤ 600) (hi : i < 11) : RO l yX4_isWord cX4_isWord 3 (some .boolean) 4 D k z [.ref (o 1), .ref (z i)] [((o 1), .inr (4, [.ref (o 15), .int (nI rsize), .int rfault, .int rplace, .int rkind, .int (nI rstart), .int (nI rnext), .int rvalue, .int rnumber])), ((o 15), .inl (k 1, 600, .inl f15))] (Qi (fun r : Int32 => True)) := by
  refine RO.of (by decide) (Nat.le_of_ble_eq_true rfl) ?_
  intro p e s m below meth c ls A B args Q S hr hlk hQ hK hP hDW hZ hAB hBA hA hS hl
  have hx := S.1
  have hb := S.2.1
  have hsl := sl_lt i
  have hl : lv_has ls 3 [(0, .ref (o 1)), (1, .ref (z i))] := hl
  refine lv_aload_n hx hb dX4_isWord_0 rfl (lv_at hl 0 rfl) ?_
  refine x_get S hK hP 0 rfl cfX4 4 lkX4_36 (by decide) rfl dX4_isWord_1 ?_
  refine lv_iconst (v := 1) hx hb dX4_isWord_4 (by decide) ?_
  refine lv_icmp_ne (tgt := 24) hx hb dX4_isWord_5 (by decide) (fun c_1 => ?_) (fun c_1 => ?_)
  · skip
    refine lv_iconst (v := 0) hx hb dX4_isWord_24 (by decide) ?_
    exact x_retz S hr hlk hQ hS rfl () trivial x_T dX4_isWord_25
  · skip
    refine lv_aload_n hx hb dX4_isWord_8 rfl (lv_at hl 0 rfl) ?_
    refine x_get S hK hP 0 rfl cfX4 6 lkX4_30 (by decide) rfl dX4_isWord_9 ?_
    refine lv_aload_n hx hb dX4_isWord_12 rfl (lv_at hl 0 rfl) ?_
    refine x_get S hK hP 0 rfl cfX4 5 lkX4_148 (by decide) rfl dX4_isWord_13 ?_
    refine lv_isub hx hb dX4_isWord_16 ?_
    refine lv_topi (fun v_2 ev_2 => ?_)
    refine lv_aload_n hx hb dX4_isWord_17 rfl (lv_at hl 1 rfl) ?_
    refine x_roVir (As := []) S hK hP hDW hZ hAB hBA hS hA hl mwJ0_length_8abf5 lkX4_151 (ctJ0_length_8abf5 l D k z i (by omega)) [] rfl (by decide) (x_srec hZ hS hAB (by omega)) rfl rfl ⟨Nat.le_of_ble_eq_true rfl, Nat.le_of_ble_eq_true rfl, Nat.le_of_ble_eq_true rfl⟩ dX4_isWord_18 ⟨Nat.le_of_ble_eq_true rfl, Nat.le_of_ble_eq_true rfl⟩ (fun r_3 H locs hr_3 hP hS => ?_)
    obtain rfl := hr_3
    refine lv_icmp_eq (tgt := 26) hx hb dX4_isWord_21 (by decide) (fun c_4 => ?_) (fun c_4 => ?_)
    · skip
      have hwl := sub_len ev_2 c_4 (by omega) (by omega) (by omega)
      refine lv_iconst (v := 0) hx hb dX4_isWord_26 (by decide) ?_
      refine lv_istore_n (lv' := [(2, .int 0), (0, .ref (o 1)), (1, .ref (z i))]) hx hb dX4_isWord_27 rfl hl (by decide) rfl (fun ls hl => ?_)
      have lp_14 : ∀ (nn j_13 : Nat)  (H : Heap) (locs : List Loc) (ls : Array Slot), j_13 ≤ sl i → sl i - j_13 < nn → va_P D vwCl [((o 1), .inr (4, [.ref (o 15), .int (nI rsize), .int rfault, .int rplace, .int rkind, .int (nI rstart), .int (nI rnext), .int rvalue, .int rnumber])), ((o 15), .inl (k 1, 600, .inl f15))] H → va_S A s.heap H locs → lv_has ls 3 [(2, .int (nI j_13)), (0, .ref (o 1)), (1, .ref (z i))] → W p l e (Rm 4 0 0) s m args below meth c H locs 0 0 Q (F0 m 28 ls []) := by
        intro nn
        induction nn with
        | zero => intro j_13  H locs ls hjj_13 hnj_13; exact absurd hnj_13 (by omega)
        | succ nn ihj_13 =>
          intro j_13  H locs ls hjj_13 hnj_13 hP hS hl
          refine lv_iload_n hx hb dX4_isWord_28 rfl (lv_at hl 0 rfl) ?_
          refine lv_aload_n hx hb dX4_isWord_29 rfl (lv_at hl 2 rfl) ?_
          refine x_roVir (As := []) S hK hP hDW hZ hAB hBA hS hA hl mwJ0_length_8abf5 lkX4_151 (ctJ0_length_8abf5 l D k z i (by omega)) [] rfl (by decide) (x_srec hZ hS hAB (by omega)) rfl rfl ⟨Nat.le_of_ble_eq_true rfl, Nat.le_of_ble_eq_true rfl, Nat.le_of_ble_eq_true rfl⟩ dX4_isWord_30 ⟨Nat.le_of_ble_eq_true rfl, Nat.le_of_ble_eq_true rfl⟩ (fun r_15 H locs hr_15 hP hS => ?_)
          obtain rfl := hr_15
          refine lv_icmp_ge (tgt := 63) hx hb dX4_isWord_33 (by decide) (fun c_16 => ?_) (fun c_16 => ?_)
          · skip
            have c_16 : sl i ≤ j_13 := (ni_le rfl rfl (by omega) (by omega)).mp c_16
            refine lv_iconst (v := 1) hx hb dX4_isWord_63 (by decide) ?_
            exact x_retz S hr hlk hQ hS rfl () trivial x_T dX4_isWord_64
          · skip
            have c_16 : ¬ sl i ≤ j_13 := fun q => c_16 ((ni_le rfl rfl (by omega) (by omega)).mpr q)
            refine lv_aload_n hx hb dX4_isWord_36 rfl (lv_at hl 1 rfl) ?_
            refine x_get S hK hP 0 rfl cfX4 0 lkX4_9 (by decide) rfl dX4_isWord_37 ?_
            refine lv_aload_n hx hb dX4_isWord_40 rfl (lv_at hl 1 rfl) ?_
            refine x_get S hK hP 0 rfl cfX4 5 lkX4_148 (by decide) rfl dX4_isWord_41 ?_
            refine lv_iload_n hx hb dX4_isWord_44 rfl (lv_at hl 0 rfl) ?_
            refine lv_iadd hx hb dX4_isWord_45 ?_
            refine x_is (nI (rstart + j_13)) (ni_add rfl rfl) ?_
            refine x_bald S hK hP 1 rfl (vp_in_nI (by omega) (by decide)) dX4_isWord_46 ?_
            refine lv_topi (fun v_17 ev_17 => ?_)
            refine lv_aload_n hx hb dX4_isWord_47 rfl (lv_at hl 2 rfl) ?_
            refine lv_iload_n hx hb dX4_isWord_48 rfl (lv_at hl 0 rfl) ?_
            refine x_roVir (As := [.int (nI j_13)]) S hK hP hDW hZ hAB hBA hS hA hl mwJ0_charAt_5068e lkX4_156 (ctJ0_charAt_5068e l D k z i j_13 (by omega) (by omega)) [] rfl (by decide) (x_srec hZ hS hAB (by omega)) rfl rfl ⟨Nat.le_of_ble_eq_true rfl, Nat.le_of_ble_eq_true rfl, Nat.le_of_ble_eq_true rfl⟩ dX4_isWord_49 ⟨Nat.le_of_ble_eq_true rfl, Nat.le_of_ble_eq_true rfl⟩ (fun r_18 H locs hr_18 hP hS => ?_)
            obtain rfl := hr_18
            refine lv_icmp_eq (tgt := 57) hx hb dX4_isWord_52 (by decide) (fun c_19 => ?_) (fun c_19 => ?_)
            · skip
              refine lv_iinc (v := (nI (j_13 + 1))) (lv' := [(2, .int (nI (j_13 + 1))), (0, .ref (o 1)), (1, .ref (z i))]) hx hb dX4_isWord_57 hl (k := 0) rfl (ni_inc _) (by decide) rfl (fun ls hl => ?_)
              refine lv_goto (tgt := 28) hx hb dX4_isWord_60 (by decide) ?_
              exact ihj_13 (j_13 + 1)  _ _ _ (by omega) (by omega) hP hS (lv_sub hl [0, 1, 2] rfl)
            · skip
              refine lv_iconst (v := 0) hx hb dX4_isWord_55 (by decide) ?_
              exact x_retz S hr hlk hQ hS rfl () trivial x_T dX4_isWord_56
      exact lp_14 (sl i + 1) 0  _ _ _ (by omega) (by omega) hP hS (lv_sub hl [0, 1, 2] rfl)
    · skip
      refine lv_iconst (v := 0) hx hb dX4_isWord_24 (by decide) ?_
      exact x_retz S hr hlk hQ hS rfl () trivial x_T dX4_isWord_25

set_option maxHeartbeats 4000000 in
set_option maxRecDepth 100000 in
theorem ctX4_takeNumber (l : Launch) (D : va_G) (k : Nat → ClassId) (z : Nat → Nat) (o : Nat → Nat) (rfault : Int32) (rplace : Int32) (rkind : Int32) (rvalue : Int32) (rnumber : Int32) (rsize : Nat) (rstart : Nat) (rnext : Nat) (f15 : Nat → Int32) (i : Nat) (p1 : Int32) (p2 : Int32) (hrsize : rsize ≤ 600) (hrstart : rstart ≤ 600) (hrnext : rnext ≤ 600) (hi : i < 11) : MU l yX4_takeNumber cX4_takeNumber 4 (some .boolean) 5 D k z [.ref (o 1), .ref (z i), .int p1, .int p2] [((o 1), .inr (4, [.ref (o 15), .int (nI rsize), .int rfault, .int rplace, .int rkind, .int (nI rstart), .int (nI rnext), .int rvalue, .int rnumber])), ((o 15), .inl (k 1, 600, .inl f15))] 0 0 (Ui D (fun (r : Int32) (u : (Nat → Int32) × (Nat → Nat) × (Nat → Nat → Int32) × (Nat → Nat → Int64) × (Nat → Int64)) => (r = 0 ∨ (¬ (u.1 4) < p1 ∧ ¬ p2 < (u.1 4))) ∧ (u.2.1 0 ≤ 600) ∧ (u.2.1 1 ≤ 600)) (fun u : (Nat → Int32) × (Nat → Nat) × (Nat → Nat → Int32) × (Nat → Nat → Int64) × (Nat → Int64) => [((o 1), .inr (4, [.ref (o 15), .int (nI rsize), .int (u.1 0), .int (u.1 1), .int (u.1 2), .int (nI (u.2.1 0)), .int (nI (u.2.1 1)), .int (u.1 3), .int (u.1 4)])), ((o 15), .inl (k 1, 600, .inl f15))])) := by
  refine MU.of (by decide) (Nat.le_of_ble_eq_true rfl) ?_
  intro p e s m below meth c ls A args Q S hr hlk hnm hQ hK hP hD hZ hA hS hl
  have hx := S.1
  have hb := S.2.1
  have hsl := sl_lt i
  have hl : lv_has ls 4 [(0, .ref (o 1)), (1, .ref (z i)), (2, .int p1), (3, .int p2)] := hl
  refine lv_aload_n hx hb dX4_takeNumber_0 rfl (lv_at hl 0 rfl) ?_
  refine lv_aload_n hx hb dX4_takeNumber_1 rfl (lv_at hl 1 rfl) ?_
  refine x_roVi (As := [.ref (z i)]) S hK hP hD hZ (fun _ h => h) hA hS hA hl mwX4_isWord lkX4_54 (ctX4_isWord l D k z o rfault rplace rkind rvalue rnumber rsize rstart rnext f15 i (by omega) (by omega) (by omega) (by omega)) [0, 1] rfl (by decide) rfl rfl rfl rfl rfl ⟨Nat.le_of_ble_eq_true rfl, Nat.le_of_ble_eq_true rfl, Nat.le_of_ble_eq_true rfl⟩ dX4_takeNumber_2 ⟨Nat.le_of_ble_eq_true rfl, Nat.le_of_ble_eq_true rfl⟩ (fun r_1 H locs hr_1 hP hS => ?_)
  refine lv_if_ne (tgt := 14) hx hb dX4_takeNumber_5 (by decide) (fun c_3 => ?_) (fun c_3 => ?_)
  · skip
    refine lv_aload_n hx hb dX4_takeNumber_14 rfl (lv_at hl 0 rfl) ?_
    refine x_muVv (wr := []) (As := []) S hK hP hD hZ hS hA hl mwX4_advance lkX4_33 (ctX4_advance l D k z o rfault rplace rkind rvalue rnumber rsize rstart rnext f15 (by omega) (by omega) (by omega)) [0, 1] [] rfl rfl (by decide) (by decide) (by decide) rfl rfl rfl rfl rfl ⟨Nat.le_of_ble_eq_true rfl, Nat.le_of_ble_eq_true rfl, Nat.le_of_ble_eq_true rfl⟩ dX4_takeNumber_15 ⟨Nat.le_of_ble_eq_true rfl, Nat.le_of_ble_eq_true rfl⟩ (fun u_5 H locs hr_4 hP hD hS => ?_)
    have hP : va_P D vwCl [((o 1), .inr (4, [.ref (o 15), .int (nI rsize), .int rfault, .int rplace, .int (u_5.1 0), .int (nI (u_5.2.1 0)), .int (nI (u_5.2.1 1)), .int (u_5.1 1), .int rnumber])), ((o 15), .inl (k 1, 600, .inl f15))] H := hP.sub [0, 1] rfl
    have hD : va_D A [((o 1), .inr (4, [.ref (o 15), .int (nI rsize), .int rfault, .int rplace, .int (u_5.1 0), .int (nI (u_5.2.1 0)), .int (nI (u_5.2.1 1)), .int (u_5.1 1), .int rnumber])), ((o 15), .inl (k 1, 600, .inl f15))] := hD.sub [0, 1] (by decide) rfl
    obtain ⟨hg_6, hg_7⟩ := hr_4
    refine lv_aload_n hx hb dX4_takeNumber_18 rfl (lv_at hl 0 rfl) ?_
    refine x_get S hK hP 0 rfl cfX4 4 lkX4_36 (by decide) rfl dX4_takeNumber_19 ?_
    refine lv_iconst (v := 2) hx hb dX4_takeNumber_22 (by decide) ?_
    refine lv_icmp_eq (tgt := 32) hx hb dX4_takeNumber_23 (by decide) (fun c_8 => ?_) (fun c_8 => ?_)
    · skip
      refine lv_aload_n hx hb dX4_takeNumber_32 rfl (lv_at hl 0 rfl) ?_
      refine x_get S hK hP 0 rfl cfX4 7 lkX4_145 (by decide) rfl dX4_takeNumber_33 ?_
      refine lv_iload_n hx hb dX4_takeNumber_36 rfl (lv_at hl 2 rfl) ?_
      refine lv_icmp_lt (tgt := 48) hx hb dX4_takeNumber_37 (by decide) (fun c_9 => ?_) (fun c_9 => ?_)
      · skip
        refine lv_aload_n hx hb dX4_takeNumber_48 rfl (lv_at hl 0 rfl) ?_
        refine lv_iconst (v := 2) hx hb dX4_takeNumber_49 (by decide) ?_
        refine x_muVi (wr := []) (As := [.int 2]) S hK hP hD hZ hS hA hl mwX4_refuse lkX4_71 (ctX4_refuse l D k z o rfault rplace (u_5.1 0) (u_5.1 1) rnumber rsize (u_5.2.1 0) (u_5.2.1 1) f15 2 (by omega) (by omega) (by omega)) [0, 1] [] rfl rfl (by decide) (by decide) (by decide) rfl rfl rfl rfl rfl ⟨Nat.le_of_ble_eq_true rfl, Nat.le_of_ble_eq_true rfl, Nat.le_of_ble_eq_true rfl⟩ dX4_takeNumber_50 ⟨Nat.le_of_ble_eq_true rfl, Nat.le_of_ble_eq_true rfl⟩ (fun r_10 u_11 H locs hr_10 hP hD hS => ?_)
        have hP : va_P D vwCl [((o 1), .inr (4, [.ref (o 15), .int (nI rsize), .int (u_11.1 0), .int (u_11.1 1), .int (u_5.1 0), .int (nI (u_5.2.1 0)), .int (nI (u_5.2.1 1)), .int (u_5.1 1), .int rnumber])), ((o 15), .inl (k 1, 600, .inl f15))] H := hP.sub [0, 1] rfl
        have hD : va_D A [((o 1), .inr (4, [.ref (o 15), .int (nI rsize), .int (u_11.1 0), .int (u_11.1 1), .int (u_5.1 0), .int (nI (u_5.2.1 0)), .int (nI (u_5.2.1 1)), .int (u_5.1 1), .int rnumber])), ((o 15), .inl (k 1, 600, .inl f15))] := hD.sub [0, 1] (by decide) rfl
        obtain rfl := hr_10
        exact x_retz S hr hlk hQ hS rfl ((fun i => ([(u_11.1 0), (u_11.1 1), (u_5.1 0), (u_5.1 1), rnumber] : List (Int32)).getD i 0), (fun i => ([u_5.2.1 0, u_5.2.1 1] : List (Nat)).getD i 0), (fun i => ([] : List (Nat → Int32)).getD i (fun _ => 0)), (fun i => ([] : List (Nat → Int64)).getD i (fun _ => 0)), (fun i => ([] : List (Int64)).getD i 0)) ⟨(Or.inl rfl), (show u_5.2.1 0 ≤ 600 by omega), (show u_5.2.1 1 ≤ 600 by omega)⟩ (x_B hP hD) dX4_takeNumber_53
      · skip
        refine lv_aload_n hx hb dX4_takeNumber_40 rfl (lv_at hl 0 rfl) ?_
        refine x_get S hK hP 0 rfl cfX4 7 lkX4_145 (by decide) rfl dX4_takeNumber_41 ?_
        refine lv_iload_n hx hb dX4_takeNumber_44 rfl (lv_at hl 3 rfl) ?_
        refine lv_icmp_le (tgt := 54) hx hb dX4_takeNumber_45 (by decide) (fun c_12 => ?_) (fun c_12 => ?_)
        · skip
          refine lv_aload_n hx hb dX4_takeNumber_54 rfl (lv_at hl 0 rfl) ?_
          refine lv_aload_n hx hb dX4_takeNumber_55 rfl (lv_at hl 0 rfl) ?_
          refine x_get S hK hP 0 rfl cfX4 7 lkX4_145 (by decide) rfl dX4_takeNumber_56 ?_
          refine x_put (ws' := [((o 1), .inr (4, [.ref (o 15), .int (nI rsize), .int rfault, .int rplace, .int (u_5.1 0), .int (nI (u_5.2.1 0)), .int (nI (u_5.2.1 1)), .int (u_5.1 1), .int (u_5.1 1)])), ((o 15), .inl (k 1, 600, .inl f15))]) S hK hP hD hS 0 rfl cfX4 8 lkX4_90 (by decide) rfl rfl rfl (Nat.le_of_ble_eq_true rfl) rfl dX4_takeNumber_59 (fun H locs hP hD hS => ?_)
          refine lv_aload_n hx hb dX4_takeNumber_62 rfl (lv_at hl 0 rfl) ?_
          refine x_muVv (wr := []) (As := []) S hK hP hD hZ hS hA hl mwX4_advance lkX4_33 (ctX4_advance l D k z o rfault rplace (u_5.1 0) (u_5.1 1) (u_5.1 1) rsize (u_5.2.1 0) (u_5.2.1 1) f15 (by omega) (by omega) (by omega)) [0, 1] [] rfl rfl (by decide) (by decide) (by decide) rfl rfl rfl rfl rfl ⟨Nat.le_of_ble_eq_true rfl, Nat.le_of_ble_eq_true rfl, Nat.le_of_ble_eq_true rfl⟩ dX4_takeNumber_63 ⟨Nat.le_of_ble_eq_true rfl, Nat.le_of_ble_eq_true rfl⟩ (fun u_14 H locs hr_13 hP hD hS => ?_)
          have hP : va_P D vwCl [((o 1), .inr (4, [.ref (o 15), .int (nI rsize), .int rfault, .int rplace, .int (u_14.1 0), .int (nI (u_14.2.1 0)), .int (nI (u_14.2.1 1)), .int (u_14.1 1), .int (u_5.1 1)])), ((o 15), .inl (k 1, 600, .inl f15))] H := hP.sub [0, 1] rfl
          have hD : va_D A [((o 1), .inr (4, [.ref (o 15), .int (nI rsize), .int rfault, .int rplace, .int (u_14.1 0), .int (nI (u_14.2.1 0)), .int (nI (u_14.2.1 1)), .int (u_14.1 1), .int (u_5.1 1)])), ((o 15), .inl (k 1, 600, .inl f15))] := hD.sub [0, 1] (by decide) rfl
          obtain ⟨hg_15, hg_16⟩ := hr_13
          refine lv_iconst (v := 1) hx hb dX4_takeNumber_66 (by decide) ?_
          exact x_retz S hr hlk hQ hS rfl ((fun i => ([rfault, rplace, (u_14.1 0), (u_14.1 1), (u_5.1 1)] : List (Int32)).getD i 0), (fun i => ([u_14.2.1 0, u_14.2.1 1] : List (Nat)).getD i 0), (fun i => ([] : List (Nat → Int32)).getD i (fun _ => 0)), (fun i => ([] : List (Nat → Int64)).getD i (fun _ => 0)), (fun i => ([] : List (Int64)).getD i 0)) ⟨(Or.inr ⟨c_9, Int32.not_lt.mpr c_12⟩), (show u_14.2.1 0 ≤ 600 by omega), (show u_14.2.1 1 ≤ 600 by omega)⟩ (x_B hP hD) dX4_takeNumber_67
        · skip
          refine lv_aload_n hx hb dX4_takeNumber_48 rfl (lv_at hl 0 rfl) ?_
          refine lv_iconst (v := 2) hx hb dX4_takeNumber_49 (by decide) ?_
          refine x_muVi (wr := []) (As := [.int 2]) S hK hP hD hZ hS hA hl mwX4_refuse lkX4_71 (ctX4_refuse l D k z o rfault rplace (u_5.1 0) (u_5.1 1) rnumber rsize (u_5.2.1 0) (u_5.2.1 1) f15 2 (by omega) (by omega) (by omega)) [0, 1] [] rfl rfl (by decide) (by decide) (by decide) rfl rfl rfl rfl rfl ⟨Nat.le_of_ble_eq_true rfl, Nat.le_of_ble_eq_true rfl, Nat.le_of_ble_eq_true rfl⟩ dX4_takeNumber_50 ⟨Nat.le_of_ble_eq_true rfl, Nat.le_of_ble_eq_true rfl⟩ (fun r_17 u_18 H locs hr_17 hP hD hS => ?_)
          have hP : va_P D vwCl [((o 1), .inr (4, [.ref (o 15), .int (nI rsize), .int (u_18.1 0), .int (u_18.1 1), .int (u_5.1 0), .int (nI (u_5.2.1 0)), .int (nI (u_5.2.1 1)), .int (u_5.1 1), .int rnumber])), ((o 15), .inl (k 1, 600, .inl f15))] H := hP.sub [0, 1] rfl
          have hD : va_D A [((o 1), .inr (4, [.ref (o 15), .int (nI rsize), .int (u_18.1 0), .int (u_18.1 1), .int (u_5.1 0), .int (nI (u_5.2.1 0)), .int (nI (u_5.2.1 1)), .int (u_5.1 1), .int rnumber])), ((o 15), .inl (k 1, 600, .inl f15))] := hD.sub [0, 1] (by decide) rfl
          obtain rfl := hr_17
          exact x_retz S hr hlk hQ hS rfl ((fun i => ([(u_18.1 0), (u_18.1 1), (u_5.1 0), (u_5.1 1), rnumber] : List (Int32)).getD i 0), (fun i => ([u_5.2.1 0, u_5.2.1 1] : List (Nat)).getD i 0), (fun i => ([] : List (Nat → Int32)).getD i (fun _ => 0)), (fun i => ([] : List (Nat → Int64)).getD i (fun _ => 0)), (fun i => ([] : List (Int64)).getD i 0)) ⟨(Or.inl rfl), (show u_5.2.1 0 ≤ 600 by omega), (show u_5.2.1 1 ≤ 600 by omega)⟩ (x_B hP hD) dX4_takeNumber_53
    · skip
      refine lv_aload_n hx hb dX4_takeNumber_26 rfl (lv_at hl 0 rfl) ?_
      refine lv_iconst (v := 1) hx hb dX4_takeNumber_27 (by decide) ?_
      refine x_muVi (wr := []) (As := [.int 1]) S hK hP hD hZ hS hA hl mwX4_refuse lkX4_71 (ctX4_refuse l D k z o rfault rplace (u_5.1 0) (u_5.1 1) rnumber rsize (u_5.2.1 0) (u_5.2.1 1) f15 1 (by omega) (by omega) (by omega)) [0, 1] [] rfl rfl (by decide) (by decide) (by decide) rfl rfl rfl rfl rfl ⟨Nat.le_of_ble_eq_true rfl, Nat.le_of_ble_eq_true rfl, Nat.le_of_ble_eq_true rfl⟩ dX4_takeNumber_28 ⟨Nat.le_of_ble_eq_true rfl, Nat.le_of_ble_eq_true rfl⟩ (fun r_19 u_20 H locs hr_19 hP hD hS => ?_)
      have hP : va_P D vwCl [((o 1), .inr (4, [.ref (o 15), .int (nI rsize), .int (u_20.1 0), .int (u_20.1 1), .int (u_5.1 0), .int (nI (u_5.2.1 0)), .int (nI (u_5.2.1 1)), .int (u_5.1 1), .int rnumber])), ((o 15), .inl (k 1, 600, .inl f15))] H := hP.sub [0, 1] rfl
      have hD : va_D A [((o 1), .inr (4, [.ref (o 15), .int (nI rsize), .int (u_20.1 0), .int (u_20.1 1), .int (u_5.1 0), .int (nI (u_5.2.1 0)), .int (nI (u_5.2.1 1)), .int (u_5.1 1), .int rnumber])), ((o 15), .inl (k 1, 600, .inl f15))] := hD.sub [0, 1] (by decide) rfl
      obtain rfl := hr_19
      exact x_retz S hr hlk hQ hS rfl ((fun i => ([(u_20.1 0), (u_20.1 1), (u_5.1 0), (u_5.1 1), rnumber] : List (Int32)).getD i 0), (fun i => ([u_5.2.1 0, u_5.2.1 1] : List (Nat)).getD i 0), (fun i => ([] : List (Nat → Int32)).getD i (fun _ => 0)), (fun i => ([] : List (Nat → Int64)).getD i (fun _ => 0)), (fun i => ([] : List (Int64)).getD i 0)) ⟨(Or.inl rfl), (show u_5.2.1 0 ≤ 600 by omega), (show u_5.2.1 1 ≤ 600 by omega)⟩ (x_B hP hD) dX4_takeNumber_31
  · skip
    refine lv_aload_n hx hb dX4_takeNumber_8 rfl (lv_at hl 0 rfl) ?_
    refine lv_iconst (v := 1) hx hb dX4_takeNumber_9 (by decide) ?_
    refine x_muVi (wr := []) (As := [.int 1]) S hK hP hD hZ hS hA hl mwX4_refuse lkX4_71 (ctX4_refuse l D k z o rfault rplace rkind rvalue rnumber rsize rstart rnext f15 1 (by omega) (by omega) (by omega)) [0, 1] [] rfl rfl (by decide) (by decide) (by decide) rfl rfl rfl rfl rfl ⟨Nat.le_of_ble_eq_true rfl, Nat.le_of_ble_eq_true rfl, Nat.le_of_ble_eq_true rfl⟩ dX4_takeNumber_10 ⟨Nat.le_of_ble_eq_true rfl, Nat.le_of_ble_eq_true rfl⟩ (fun r_21 u_22 H locs hr_21 hP hD hS => ?_)
    have hP : va_P D vwCl [((o 1), .inr (4, [.ref (o 15), .int (nI rsize), .int (u_22.1 0), .int (u_22.1 1), .int rkind, .int (nI rstart), .int (nI rnext), .int rvalue, .int rnumber])), ((o 15), .inl (k 1, 600, .inl f15))] H := hP.sub [0, 1] rfl
    have hD : va_D A [((o 1), .inr (4, [.ref (o 15), .int (nI rsize), .int (u_22.1 0), .int (u_22.1 1), .int rkind, .int (nI rstart), .int (nI rnext), .int rvalue, .int rnumber])), ((o 15), .inl (k 1, 600, .inl f15))] := hD.sub [0, 1] (by decide) rfl
    obtain rfl := hr_21
    exact x_retz S hr hlk hQ hS rfl ((fun i => ([(u_22.1 0), (u_22.1 1), rkind, rvalue, rnumber] : List (Int32)).getD i 0), (fun i => ([rstart, rnext] : List (Nat)).getD i 0), (fun i => ([] : List (Nat → Int32)).getD i (fun _ => 0)), (fun i => ([] : List (Nat → Int64)).getD i (fun _ => 0)), (fun i => ([] : List (Int64)).getD i 0)) ⟨(Or.inl rfl), (show rstart ≤ 600 by omega), (show rnext ≤ 600 by omega)⟩ (x_B hP hD) dX4_takeNumber_13

set_option maxHeartbeats 4000000 in
set_option maxRecDepth 100000 in
theorem ctX4_takeWord (l : Launch) (D : va_G) (k : Nat → ClassId) (z : Nat → Nat) (o : Nat → Nat) (rfault : Int32) (rplace : Int32) (rkind : Int32) (rvalue : Int32) (rnumber : Int32) (rsize : Nat) (rstart : Nat) (rnext : Nat) (f15 : Nat → Int32) (i : Nat) (hrsize : rsize ≤ 600) (hrstart : rstart ≤ 600) (hrnext : rnext ≤ 600) (hi : i < 11) : MU l yX4_takeWord cX4_takeWord 2 (some .boolean) 5 D k z [.ref (o 1), .ref (z i)] [((o 1), .inr (4, [.ref (o 15), .int (nI rsize), .int rfault, .int rplace, .int rkind, .int (nI rstart), .int (nI rnext), .int rvalue, .int rnumber])), ((o 15), .inl (k 1, 600, .inl f15))] 0 0 (Ui D (fun (r : Int32) (u : (Nat → Int32) × (Nat → Nat) × (Nat → Nat → Int32) × (Nat → Nat → Int64) × (Nat → Int64)) => (u.2.1 0 ≤ 600) ∧ (u.2.1 1 ≤ 600)) (fun u : (Nat → Int32) × (Nat → Nat) × (Nat → Nat → Int32) × (Nat → Nat → Int64) × (Nat → Int64) => [((o 1), .inr (4, [.ref (o 15), .int (nI rsize), .int (u.1 0), .int (u.1 1), .int (u.1 2), .int (nI (u.2.1 0)), .int (nI (u.2.1 1)), .int (u.1 3), .int rnumber])), ((o 15), .inl (k 1, 600, .inl f15))])) := by
  refine MU.of (by decide) (Nat.le_of_ble_eq_true rfl) ?_
  intro p e s m below meth c ls A args Q S hr hlk hnm hQ hK hP hD hZ hA hS hl
  have hx := S.1
  have hb := S.2.1
  have hsl := sl_lt i
  have hl : lv_has ls 2 [(0, .ref (o 1)), (1, .ref (z i))] := hl
  refine lv_aload_n hx hb dX4_takeWord_0 rfl (lv_at hl 0 rfl) ?_
  refine lv_aload_n hx hb dX4_takeWord_1 rfl (lv_at hl 1 rfl) ?_
  refine x_roVi (As := [.ref (z i)]) S hK hP hD hZ (fun _ h => h) hA hS hA hl mwX4_isWord lkX4_54 (ctX4_isWord l D k z o rfault rplace rkind rvalue rnumber rsize rstart rnext f15 i (by omega) (by omega) (by omega) (by omega)) [0, 1] rfl (by decide) rfl rfl rfl rfl rfl ⟨Nat.le_of_ble_eq_true rfl, Nat.le_of_ble_eq_true rfl, Nat.le_of_ble_eq_true rfl⟩ dX4_takeWord_2 ⟨Nat.le_of_ble_eq_true rfl, Nat.le_of_ble_eq_true rfl⟩ (fun r_1 H locs hr_1 hP hS => ?_)
  refine lv_if_ne (tgt := 14) hx hb dX4_takeWord_5 (by decide) (fun c_3 => ?_) (fun c_3 => ?_)
  · skip
    refine lv_aload_n hx hb dX4_takeWord_14 rfl (lv_at hl 0 rfl) ?_
    refine x_muVv (wr := []) (As := []) S hK hP hD hZ hS hA hl mwX4_advance lkX4_33 (ctX4_advance l D k z o rfault rplace rkind rvalue rnumber rsize rstart rnext f15 (by omega) (by omega) (by omega)) [0, 1] [] rfl rfl (by decide) (by decide) (by decide) rfl rfl rfl rfl rfl ⟨Nat.le_of_ble_eq_true rfl, Nat.le_of_ble_eq_true rfl, Nat.le_of_ble_eq_true rfl⟩ dX4_takeWord_15 ⟨Nat.le_of_ble_eq_true rfl, Nat.le_of_ble_eq_true rfl⟩ (fun u_5 H locs hr_4 hP hD hS => ?_)
    have hP : va_P D vwCl [((o 1), .inr (4, [.ref (o 15), .int (nI rsize), .int rfault, .int rplace, .int (u_5.1 0), .int (nI (u_5.2.1 0)), .int (nI (u_5.2.1 1)), .int (u_5.1 1), .int rnumber])), ((o 15), .inl (k 1, 600, .inl f15))] H := hP.sub [0, 1] rfl
    have hD : va_D A [((o 1), .inr (4, [.ref (o 15), .int (nI rsize), .int rfault, .int rplace, .int (u_5.1 0), .int (nI (u_5.2.1 0)), .int (nI (u_5.2.1 1)), .int (u_5.1 1), .int rnumber])), ((o 15), .inl (k 1, 600, .inl f15))] := hD.sub [0, 1] (by decide) rfl
    obtain ⟨hg_6, hg_7⟩ := hr_4
    refine lv_iconst (v := 1) hx hb dX4_takeWord_18 (by decide) ?_
    exact x_retz S hr hlk hQ hS rfl ((fun i => ([rfault, rplace, (u_5.1 0), (u_5.1 1)] : List (Int32)).getD i 0), (fun i => ([u_5.2.1 0, u_5.2.1 1] : List (Nat)).getD i 0), (fun i => ([] : List (Nat → Int32)).getD i (fun _ => 0)), (fun i => ([] : List (Nat → Int64)).getD i (fun _ => 0)), (fun i => ([] : List (Int64)).getD i 0)) ⟨(show u_5.2.1 0 ≤ 600 by omega), (show u_5.2.1 1 ≤ 600 by omega)⟩ (x_B hP hD) dX4_takeWord_19
  · skip
    refine lv_aload_n hx hb dX4_takeWord_8 rfl (lv_at hl 0 rfl) ?_
    refine lv_iconst (v := 1) hx hb dX4_takeWord_9 (by decide) ?_
    refine x_muVi (wr := []) (As := [.int 1]) S hK hP hD hZ hS hA hl mwX4_refuse lkX4_71 (ctX4_refuse l D k z o rfault rplace rkind rvalue rnumber rsize rstart rnext f15 1 (by omega) (by omega) (by omega)) [0, 1] [] rfl rfl (by decide) (by decide) (by decide) rfl rfl rfl rfl rfl ⟨Nat.le_of_ble_eq_true rfl, Nat.le_of_ble_eq_true rfl, Nat.le_of_ble_eq_true rfl⟩ dX4_takeWord_10 ⟨Nat.le_of_ble_eq_true rfl, Nat.le_of_ble_eq_true rfl⟩ (fun r_8 u_9 H locs hr_8 hP hD hS => ?_)
    have hP : va_P D vwCl [((o 1), .inr (4, [.ref (o 15), .int (nI rsize), .int (u_9.1 0), .int (u_9.1 1), .int rkind, .int (nI rstart), .int (nI rnext), .int rvalue, .int rnumber])), ((o 15), .inl (k 1, 600, .inl f15))] H := hP.sub [0, 1] rfl
    have hD : va_D A [((o 1), .inr (4, [.ref (o 15), .int (nI rsize), .int (u_9.1 0), .int (u_9.1 1), .int rkind, .int (nI rstart), .int (nI rnext), .int rvalue, .int rnumber])), ((o 15), .inl (k 1, 600, .inl f15))] := hD.sub [0, 1] (by decide) rfl
    obtain rfl := hr_8
    exact x_retz S hr hlk hQ hS rfl ((fun i => ([(u_9.1 0), (u_9.1 1), rkind, rvalue] : List (Int32)).getD i 0), (fun i => ([rstart, rnext] : List (Nat)).getD i 0), (fun i => ([] : List (Nat → Int32)).getD i (fun _ => 0)), (fun i => ([] : List (Nat → Int64)).getD i (fun _ => 0)), (fun i => ([] : List (Int64)).getD i 0)) ⟨(show rstart ≤ 600 by omega), (show rnext ≤ 600 by omega)⟩ (x_B hP hD) dX4_takeWord_13

set_option maxHeartbeats 4000000 in
set_option maxRecDepth 100000 in
theorem ctX4_takeSign (l : Launch) (D : va_G) (k : Nat → ClassId) (z : Nat → Nat) (o : Nat → Nat) (rfault : Int32) (rplace : Int32) (rkind : Int32) (rvalue : Int32) (rnumber : Int32) (rsize : Nat) (rstart : Nat) (rnext : Nat) (f15 : Nat → Int32) (hrsize : rsize ≤ 600) (hrstart : rstart ≤ 600) (hrnext : rnext ≤ 600) : MU l yX4_takeSign cX4_takeSign 1 (some .boolean) 2 D k z [.ref (o 1)] [((o 1), .inr (4, [.ref (o 15), .int (nI rsize), .int rfault, .int rplace, .int rkind, .int (nI rstart), .int (nI rnext), .int rvalue, .int rnumber])), ((o 15), .inl (k 1, 600, .inl f15))] 0 0 (Ui D (fun (r : Int32) (u : (Nat → Int32) × (Nat → Nat) × (Nat → Nat → Int32) × (Nat → Nat → Int64) × (Nat → Int64)) => (u.2.1 0 ≤ 600) ∧ (u.2.1 1 ≤ 600)) (fun u : (Nat → Int32) × (Nat → Nat) × (Nat → Nat → Int32) × (Nat → Nat → Int64) × (Nat → Int64) => [((o 1), .inr (4, [.ref (o 15), .int (nI rsize), .int (u.1 0), .int (u.1 1), .int (u.1 2), .int (nI (u.2.1 0)), .int (nI (u.2.1 1)), .int (u.1 3), .int rnumber])), ((o 15), .inl (k 1, 600, .inl f15))])) := by
  refine MU.of (by decide) (Nat.le_of_ble_eq_true rfl) ?_
  intro p e s m below meth c ls A args Q S hr hlk hnm hQ hK hP hD hZ hA hS hl
  have hx := S.1
  have hb := S.2.1
  have hl : lv_has ls 1 [(0, .ref (o 1))] := hl
  refine lv_aload_n hx hb dX4_takeSign_0 rfl (lv_at hl 0 rfl) ?_
  refine x_get S hK hP 0 rfl cfX4 4 lkX4_36 (by decide) rfl dX4_takeSign_1 ?_
  refine lv_iconst (v := 3) hx hb dX4_takeSign_4 (by decide) ?_
  refine lv_icmp_eq (tgt := 14) hx hb dX4_takeSign_5 (by decide) (fun c_1 => ?_) (fun c_1 => ?_)
  · skip
    refine lv_aload_n hx hb dX4_takeSign_14 rfl (lv_at hl 0 rfl) ?_
    refine x_muVv (wr := []) (As := []) S hK hP hD hZ hS hA hl mwX4_advance lkX4_33 (ctX4_advance l D k z o rfault rplace rkind rvalue rnumber rsize rstart rnext f15 (by omega) (by omega) (by omega)) [0, 1] [] rfl rfl (by decide) (by decide) (by decide) rfl rfl rfl rfl rfl ⟨Nat.le_of_ble_eq_true rfl, Nat.le_of_ble_eq_true rfl, Nat.le_of_ble_eq_true rfl⟩ dX4_takeSign_15 ⟨Nat.le_of_ble_eq_true rfl, Nat.le_of_ble_eq_true rfl⟩ (fun u_3 H locs hr_2 hP hD hS => ?_)
    have hP : va_P D vwCl [((o 1), .inr (4, [.ref (o 15), .int (nI rsize), .int rfault, .int rplace, .int (u_3.1 0), .int (nI (u_3.2.1 0)), .int (nI (u_3.2.1 1)), .int (u_3.1 1), .int rnumber])), ((o 15), .inl (k 1, 600, .inl f15))] H := hP.sub [0, 1] rfl
    have hD : va_D A [((o 1), .inr (4, [.ref (o 15), .int (nI rsize), .int rfault, .int rplace, .int (u_3.1 0), .int (nI (u_3.2.1 0)), .int (nI (u_3.2.1 1)), .int (u_3.1 1), .int rnumber])), ((o 15), .inl (k 1, 600, .inl f15))] := hD.sub [0, 1] (by decide) rfl
    obtain ⟨hg_4, hg_5⟩ := hr_2
    refine lv_iconst (v := 1) hx hb dX4_takeSign_18 (by decide) ?_
    exact x_retz S hr hlk hQ hS rfl ((fun i => ([rfault, rplace, (u_3.1 0), (u_3.1 1)] : List (Int32)).getD i 0), (fun i => ([u_3.2.1 0, u_3.2.1 1] : List (Nat)).getD i 0), (fun i => ([] : List (Nat → Int32)).getD i (fun _ => 0)), (fun i => ([] : List (Nat → Int64)).getD i (fun _ => 0)), (fun i => ([] : List (Int64)).getD i 0)) ⟨(show u_3.2.1 0 ≤ 600 by omega), (show u_3.2.1 1 ≤ 600 by omega)⟩ (x_B hP hD) dX4_takeSign_19
  · skip
    refine lv_aload_n hx hb dX4_takeSign_8 rfl (lv_at hl 0 rfl) ?_
    refine lv_iconst (v := 1) hx hb dX4_takeSign_9 (by decide) ?_
    refine x_muVi (wr := []) (As := [.int 1]) S hK hP hD hZ hS hA hl mwX4_refuse lkX4_71 (ctX4_refuse l D k z o rfault rplace rkind rvalue rnumber rsize rstart rnext f15 1 (by omega) (by omega) (by omega)) [0, 1] [] rfl rfl (by decide) (by decide) (by decide) rfl rfl rfl rfl rfl ⟨Nat.le_of_ble_eq_true rfl, Nat.le_of_ble_eq_true rfl, Nat.le_of_ble_eq_true rfl⟩ dX4_takeSign_10 ⟨Nat.le_of_ble_eq_true rfl, Nat.le_of_ble_eq_true rfl⟩ (fun r_6 u_7 H locs hr_6 hP hD hS => ?_)
    have hP : va_P D vwCl [((o 1), .inr (4, [.ref (o 15), .int (nI rsize), .int (u_7.1 0), .int (u_7.1 1), .int rkind, .int (nI rstart), .int (nI rnext), .int rvalue, .int rnumber])), ((o 15), .inl (k 1, 600, .inl f15))] H := hP.sub [0, 1] rfl
    have hD : va_D A [((o 1), .inr (4, [.ref (o 15), .int (nI rsize), .int (u_7.1 0), .int (u_7.1 1), .int rkind, .int (nI rstart), .int (nI rnext), .int rvalue, .int rnumber])), ((o 15), .inl (k 1, 600, .inl f15))] := hD.sub [0, 1] (by decide) rfl
    obtain rfl := hr_6
    exact x_retz S hr hlk hQ hS rfl ((fun i => ([(u_7.1 0), (u_7.1 1), rkind, rvalue] : List (Int32)).getD i 0), (fun i => ([rstart, rnext] : List (Nat)).getD i 0), (fun i => ([] : List (Nat → Int32)).getD i (fun _ => 0)), (fun i => ([] : List (Nat → Int64)).getD i (fun _ => 0)), (fun i => ([] : List (Int64)).getD i 0)) ⟨(show rstart ≤ 600 by omega), (show rnext ≤ 600 by omega)⟩ (x_B hP hD) dX4_takeSign_13

set_option maxHeartbeats 4000000 in
set_option maxRecDepth 100000 in
theorem ctX4_readGarden (l : Launch) (D : va_G) (k : Nat → ClassId) (z : Nat → Nat) (o : Nat → Nat) (rfault : Int32) (rplace : Int32) (rkind : Int32) (rvalue : Int32) (rnumber : Int32) (rsize : Nat) (rstart : Nat) (rnext : Nat) (f15 : Nat → Int32) (dlines : Int32) (dhours : Nat) (dlaw : Int32) (dodds : Int32) (drows : Nat) (dheads : Nat) (dsayings : Nat) (dslugs : Nat) (dacts : Nat) (hrsize : rsize ≤ 600) (hrstart : rstart ≤ 600) (hrnext : rnext ≤ 600) (hdhours : dhours ≤ 16) (hdrows : drows ≤ 4) (hdheads : dheads ≤ 12) (hdsayings : dsayings ≤ 8) (hdslugs : dslugs ≤ 4) (hdacts : dacts ≤ 30) : MU l yX4_readGarden cX4_readGarden 2 (some .boolean) 6 D k z [.ref (o 1), .ref (o 2)] [((o 1), .inr (4, [.ref (o 15), .int (nI rsize), .int rfault, .int rplace, .int rkind, .int (nI rstart), .int (nI rnext), .int rvalue, .int rnumber])), ((o 15), .inl (k 1, 600, .inl f15)), ((o 2), .inr (2, [.int dlines, .int (nI dhours), .int dlaw, .int dodds, .int (nI drows), .int (nI dheads), .int (nI dsayings), .int (nI dslugs), .int (nI dacts), .ref (o 16), .ref (o 17), .ref (o 18), .ref (o 19), .ref (o 20), .ref (o 21), .ref (o 22), .ref (o 23), .ref (o 24), .ref (o 25)]))] 0 0 (Ui D (fun (r : Int32) (u : (Nat → Int32) × (Nat → Nat) × (Nat → Nat → Int32) × (Nat → Nat → Int64) × (Nat → Int64)) => (u.2.1 0 ≤ 600) ∧ (u.2.1 1 ≤ 600) ∧ (u.2.1 2 ≤ 16)) (fun u : (Nat → Int32) × (Nat → Nat) × (Nat → Nat → Int32) × (Nat → Nat → Int64) × (Nat → Int64) => [((o 1), .inr (4, [.ref (o 15), .int (nI rsize), .int (u.1 0), .int (u.1 1), .int (u.1 2), .int (nI (u.2.1 0)), .int (nI (u.2.1 1)), .int (u.1 3), .int (u.1 4)])), ((o 15), .inl (k 1, 600, .inl f15)), ((o 2), .inr (2, [.int dlines, .int (nI (u.2.1 2)), .int (u.1 5), .int (u.1 6), .int (nI drows), .int (nI dheads), .int (nI dsayings), .int (nI dslugs), .int (nI dacts), .ref (o 16), .ref (o 17), .ref (o 18), .ref (o 19), .ref (o 20), .ref (o 21), .ref (o 22), .ref (o 23), .ref (o 24), .ref (o 25)]))])) := by
  refine MU.of (by decide) (Nat.le_of_ble_eq_true rfl) ?_
  intro p e s m below meth c ls A args Q S hr hlk hnm hQ hK hP hD hZ hA hS hl
  have hx := S.1
  have hb := S.2.1
  have hl : lv_has ls 2 [(0, .ref (o 1)), (1, .ref (o 2))] := hl
  refine lv_aload_n hx hb dX4_readGarden_0 rfl (lv_at hl 0 rfl) ?_
  refine x_ldcS S hZ lsX4_79 dX4_readGarden_1 ?_
  refine x_muVi (wr := [((o 2), .inr (2, [.int dlines, .int (nI dhours), .int dlaw, .int dodds, .int (nI drows), .int (nI dheads), .int (nI dsayings), .int (nI dslugs), .int (nI dacts), .ref (o 16), .ref (o 17), .ref (o 18), .ref (o 19), .ref (o 20), .ref (o 21), .ref (o 22), .ref (o 23), .ref (o 24), .ref (o 25)]))]) (As := [.ref (z 0)]) S hK hP hD hZ hS hA hl mwX4_takeWord lkX4_81 (ctX4_takeWord l D k z o rfault rplace rkind rvalue rnumber rsize rstart rnext f15 0 (by omega) (by omega) (by omega) (by omega)) [0, 1] [2] rfl rfl (by decide) (by decide) (by decide) rfl rfl rfl rfl rfl ⟨Nat.le_of_ble_eq_true rfl, Nat.le_of_ble_eq_true rfl, Nat.le_of_ble_eq_true rfl⟩ dX4_readGarden_3 ⟨Nat.le_of_ble_eq_true rfl, Nat.le_of_ble_eq_true rfl⟩ (fun r_1 u_2 H locs hr_1 hP hD hS => ?_)
  have hP : va_P D vwCl [((o 1), .inr (4, [.ref (o 15), .int (nI rsize), .int (u_2.1 0), .int (u_2.1 1), .int (u_2.1 2), .int (nI (u_2.2.1 0)), .int (nI (u_2.2.1 1)), .int (u_2.1 3), .int rnumber])), ((o 15), .inl (k 1, 600, .inl f15)), ((o 2), .inr (2, [.int dlines, .int (nI dhours), .int dlaw, .int dodds, .int (nI drows), .int (nI dheads), .int (nI dsayings), .int (nI dslugs), .int (nI dacts), .ref (o 16), .ref (o 17), .ref (o 18), .ref (o 19), .ref (o 20), .ref (o 21), .ref (o 22), .ref (o 23), .ref (o 24), .ref (o 25)]))] H := hP.sub [1, 2, 0] rfl
  have hD : va_D A [((o 1), .inr (4, [.ref (o 15), .int (nI rsize), .int (u_2.1 0), .int (u_2.1 1), .int (u_2.1 2), .int (nI (u_2.2.1 0)), .int (nI (u_2.2.1 1)), .int (u_2.1 3), .int rnumber])), ((o 15), .inl (k 1, 600, .inl f15)), ((o 2), .inr (2, [.int dlines, .int (nI dhours), .int dlaw, .int dodds, .int (nI drows), .int (nI dheads), .int (nI dsayings), .int (nI dslugs), .int (nI dacts), .ref (o 16), .ref (o 17), .ref (o 18), .ref (o 19), .ref (o 20), .ref (o 21), .ref (o 22), .ref (o 23), .ref (o 24), .ref (o 25)]))] := hD.sub [1, 2, 0] (by decide) rfl
  obtain ⟨hg_3, hg_4⟩ := hr_1
  refine lv_if_eq (tgt := 21) hx hb dX4_readGarden_6 (by decide) (fun c_5 => ?_) (fun c_5 => ?_)
  · skip
    refine lv_iconst (v := 0) hx hb dX4_readGarden_21 (by decide) ?_
    exact x_retz S hr hlk hQ hS rfl ((fun i => ([(u_2.1 0), (u_2.1 1), (u_2.1 2), (u_2.1 3), rnumber, dlaw, dodds] : List (Int32)).getD i 0), (fun i => ([u_2.2.1 0, u_2.2.1 1, dhours] : List (Nat)).getD i 0), (fun i => ([] : List (Nat → Int32)).getD i (fun _ => 0)), (fun i => ([] : List (Nat → Int64)).getD i (fun _ => 0)), (fun i => ([] : List (Int64)).getD i 0)) ⟨(show u_2.2.1 0 ≤ 600 by omega), (show u_2.2.1 1 ≤ 600 by omega), (show dhours ≤ 16 by omega)⟩ (x_B hP hD) dX4_readGarden_22
  · skip
    refine lv_aload_n hx hb dX4_readGarden_9 rfl (lv_at hl 0 rfl) ?_
    refine x_ldcS S hZ lsX4_84 dX4_readGarden_10 ?_
    refine lv_iconst (v := 1) hx hb dX4_readGarden_12 (by decide) ?_
    refine lv_bipush (v := 16) hx hb dX4_readGarden_13 (by decide) ?_
    refine x_muVi (wr := [((o 2), .inr (2, [.int dlines, .int (nI dhours), .int dlaw, .int dodds, .int (nI drows), .int (nI dheads), .int (nI dsayings), .int (nI dslugs), .int (nI dacts), .ref (o 16), .ref (o 17), .ref (o 18), .ref (o 19), .ref (o 20), .ref (o 21), .ref (o 22), .ref (o 23), .ref (o 24), .ref (o 25)]))]) (As := [.ref (z 1), .int 1, .int 16]) S hK hP hD hZ hS hA hl mwX4_takeNumber lkX4_86 (ctX4_takeNumber l D k z o (u_2.1 0) (u_2.1 1) (u_2.1 2) (u_2.1 3) rnumber rsize (u_2.2.1 0) (u_2.2.1 1) f15 1 1 16 (by omega) (by omega) (by omega) (by omega)) [0, 1] [2] rfl rfl (by decide) (by decide) (by decide) rfl rfl rfl rfl rfl ⟨Nat.le_of_ble_eq_true rfl, Nat.le_of_ble_eq_true rfl, Nat.le_of_ble_eq_true rfl⟩ dX4_readGarden_15 ⟨Nat.le_of_ble_eq_true rfl, Nat.le_of_ble_eq_true rfl⟩ (fun r_6 u_7 H locs hr_6 hP hD hS => ?_)
    have hP : va_P D vwCl [((o 1), .inr (4, [.ref (o 15), .int (nI rsize), .int (u_7.1 0), .int (u_7.1 1), .int (u_7.1 2), .int (nI (u_7.2.1 0)), .int (nI (u_7.2.1 1)), .int (u_7.1 3), .int (u_7.1 4)])), ((o 15), .inl (k 1, 600, .inl f15)), ((o 2), .inr (2, [.int dlines, .int (nI dhours), .int dlaw, .int dodds, .int (nI drows), .int (nI dheads), .int (nI dsayings), .int (nI dslugs), .int (nI dacts), .ref (o 16), .ref (o 17), .ref (o 18), .ref (o 19), .ref (o 20), .ref (o 21), .ref (o 22), .ref (o 23), .ref (o 24), .ref (o 25)]))] H := hP.sub [1, 2, 0] rfl
    have hD : va_D A [((o 1), .inr (4, [.ref (o 15), .int (nI rsize), .int (u_7.1 0), .int (u_7.1 1), .int (u_7.1 2), .int (nI (u_7.2.1 0)), .int (nI (u_7.2.1 1)), .int (u_7.1 3), .int (u_7.1 4)])), ((o 15), .inl (k 1, 600, .inl f15)), ((o 2), .inr (2, [.int dlines, .int (nI dhours), .int dlaw, .int dodds, .int (nI drows), .int (nI dheads), .int (nI dsayings), .int (nI dslugs), .int (nI dacts), .ref (o 16), .ref (o 17), .ref (o 18), .ref (o 19), .ref (o 20), .ref (o 21), .ref (o 22), .ref (o 23), .ref (o 24), .ref (o 25)]))] := hD.sub [1, 2, 0] (by decide) rfl
    obtain ⟨hp_8, hg_9, hg_10⟩ := hr_6
    refine lv_if_ne (tgt := 23) hx hb dX4_readGarden_18 (by decide) (fun c_11 => ?_) (fun c_11 => ?_)
    · skip
      refine lv_aload_n hx hb dX4_readGarden_23 rfl (lv_at hl 1 rfl) ?_
      refine lv_aload_n hx hb dX4_readGarden_24 rfl (lv_at hl 0 rfl) ?_
      refine x_get S hK hP 0 rfl cfX4 8 lkX4_90 (by decide) rfl dX4_readGarden_25 ?_
      obtain ⟨hh, ehh, hhh⟩ := rng16 ((hp_8).resolve_left c_11)
      refine x_is (nI hh) ehh ?_
      refine x_put (ws' := [((o 1), .inr (4, [.ref (o 15), .int (nI rsize), .int (u_7.1 0), .int (u_7.1 1), .int (u_7.1 2), .int (nI (u_7.2.1 0)), .int (nI (u_7.2.1 1)), .int (u_7.1 3), .int (u_7.1 4)])), ((o 15), .inl (k 1, 600, .inl f15)), ((o 2), .inr (2, [.int dlines, .int (nI hh), .int dlaw, .int dodds, .int (nI drows), .int (nI dheads), .int (nI dsayings), .int (nI dslugs), .int (nI dacts), .ref (o 16), .ref (o 17), .ref (o 18), .ref (o 19), .ref (o 20), .ref (o 21), .ref (o 22), .ref (o 23), .ref (o 24), .ref (o 25)]))]) S hK hP hD hS 2 rfl cfX2 1 lkX4_93 (by decide) rfl rfl rfl (Nat.le_of_ble_eq_true rfl) rfl dX4_readGarden_28 (fun H locs hP hD hS => ?_)
      refine lv_aload_n hx hb dX4_readGarden_31 rfl (lv_at hl 0 rfl) ?_
      refine x_ldcS S hZ lsX4_95 dX4_readGarden_32 ?_
      refine lv_iconst (v := 0) hx hb dX4_readGarden_34 (by decide) ?_
      refine lv_iconst (v := 3) hx hb dX4_readGarden_35 (by decide) ?_
      refine x_muVi (wr := [((o 2), .inr (2, [.int dlines, .int (nI hh), .int dlaw, .int dodds, .int (nI drows), .int (nI dheads), .int (nI dsayings), .int (nI dslugs), .int (nI dacts), .ref (o 16), .ref (o 17), .ref (o 18), .ref (o 19), .ref (o 20), .ref (o 21), .ref (o 22), .ref (o 23), .ref (o 24), .ref (o 25)]))]) (As := [.ref (z 2), .int 0, .int 3]) S hK hP hD hZ hS hA hl mwX4_takeNumber lkX4_86 (ctX4_takeNumber l D k z o (u_7.1 0) (u_7.1 1) (u_7.1 2) (u_7.1 3) (u_7.1 4) rsize (u_7.2.1 0) (u_7.2.1 1) f15 2 0 3 (by omega) (by omega) (by omega) (by omega)) [0, 1] [2] rfl rfl (by decide) (by decide) (by decide) rfl rfl rfl rfl rfl ⟨Nat.le_of_ble_eq_true rfl, Nat.le_of_ble_eq_true rfl, Nat.le_of_ble_eq_true rfl⟩ dX4_readGarden_36 ⟨Nat.le_of_ble_eq_true rfl, Nat.le_of_ble_eq_true rfl⟩ (fun r_12 u_13 H locs hr_12 hP hD hS => ?_)
      have hP : va_P D vwCl [((o 1), .inr (4, [.ref (o 15), .int (nI rsize), .int (u_13.1 0), .int (u_13.1 1), .int (u_13.1 2), .int (nI (u_13.2.1 0)), .int (nI (u_13.2.1 1)), .int (u_13.1 3), .int (u_13.1 4)])), ((o 15), .inl (k 1, 600, .inl f15)), ((o 2), .inr (2, [.int dlines, .int (nI hh), .int dlaw, .int dodds, .int (nI drows), .int (nI dheads), .int (nI dsayings), .int (nI dslugs), .int (nI dacts), .ref (o 16), .ref (o 17), .ref (o 18), .ref (o 19), .ref (o 20), .ref (o 21), .ref (o 22), .ref (o 23), .ref (o 24), .ref (o 25)]))] H := hP.sub [1, 2, 0] rfl
      have hD : va_D A [((o 1), .inr (4, [.ref (o 15), .int (nI rsize), .int (u_13.1 0), .int (u_13.1 1), .int (u_13.1 2), .int (nI (u_13.2.1 0)), .int (nI (u_13.2.1 1)), .int (u_13.1 3), .int (u_13.1 4)])), ((o 15), .inl (k 1, 600, .inl f15)), ((o 2), .inr (2, [.int dlines, .int (nI hh), .int dlaw, .int dodds, .int (nI drows), .int (nI dheads), .int (nI dsayings), .int (nI dslugs), .int (nI dacts), .ref (o 16), .ref (o 17), .ref (o 18), .ref (o 19), .ref (o 20), .ref (o 21), .ref (o 22), .ref (o 23), .ref (o 24), .ref (o 25)]))] := hD.sub [1, 2, 0] (by decide) rfl
      obtain ⟨hp_14, hg_15, hg_16⟩ := hr_12
      refine lv_if_ne (tgt := 44) hx hb dX4_readGarden_39 (by decide) (fun c_17 => ?_) (fun c_17 => ?_)
      · skip
        refine lv_aload_n hx hb dX4_readGarden_44 rfl (lv_at hl 1 rfl) ?_
        refine lv_aload_n hx hb dX4_readGarden_45 rfl (lv_at hl 0 rfl) ?_
        refine x_get S hK hP 0 rfl cfX4 8 lkX4_90 (by decide) rfl dX4_readGarden_46 ?_
        refine x_put (ws' := [((o 1), .inr (4, [.ref (o 15), .int (nI rsize), .int (u_13.1 0), .int (u_13.1 1), .int (u_13.1 2), .int (nI (u_13.2.1 0)), .int (nI (u_13.2.1 1)), .int (u_13.1 3), .int (u_13.1 4)])), ((o 15), .inl (k 1, 600, .inl f15)), ((o 2), .inr (2, [.int dlines, .int (nI hh), .int (u_13.1 4), .int dodds, .int (nI drows), .int (nI dheads), .int (nI dsayings), .int (nI dslugs), .int (nI dacts), .ref (o 16), .ref (o 17), .ref (o 18), .ref (o 19), .ref (o 20), .ref (o 21), .ref (o 22), .ref (o 23), .ref (o 24), .ref (o 25)]))]) S hK hP hD hS 2 rfl cfX2 2 lkX4_97 (by decide) rfl rfl rfl (Nat.le_of_ble_eq_true rfl) rfl dX4_readGarden_49 (fun H locs hP hD hS => ?_)
        refine lv_aload_n hx hb dX4_readGarden_52 rfl (lv_at hl 0 rfl) ?_
        refine x_ldcS S hZ lsX4_99 dX4_readGarden_53 ?_
        refine lv_iconst (v := 0) hx hb dX4_readGarden_55 (by decide) ?_
        refine lv_bipush (v := 10) hx hb dX4_readGarden_56 (by decide) ?_
        refine x_muVi (wr := [((o 2), .inr (2, [.int dlines, .int (nI hh), .int (u_13.1 4), .int dodds, .int (nI drows), .int (nI dheads), .int (nI dsayings), .int (nI dslugs), .int (nI dacts), .ref (o 16), .ref (o 17), .ref (o 18), .ref (o 19), .ref (o 20), .ref (o 21), .ref (o 22), .ref (o 23), .ref (o 24), .ref (o 25)]))]) (As := [.ref (z 3), .int 0, .int 10]) S hK hP hD hZ hS hA hl mwX4_takeNumber lkX4_86 (ctX4_takeNumber l D k z o (u_13.1 0) (u_13.1 1) (u_13.1 2) (u_13.1 3) (u_13.1 4) rsize (u_13.2.1 0) (u_13.2.1 1) f15 3 0 10 (by omega) (by omega) (by omega) (by omega)) [0, 1] [2] rfl rfl (by decide) (by decide) (by decide) rfl rfl rfl rfl rfl ⟨Nat.le_of_ble_eq_true rfl, Nat.le_of_ble_eq_true rfl, Nat.le_of_ble_eq_true rfl⟩ dX4_readGarden_58 ⟨Nat.le_of_ble_eq_true rfl, Nat.le_of_ble_eq_true rfl⟩ (fun r_18 u_19 H locs hr_18 hP hD hS => ?_)
        have hP : va_P D vwCl [((o 1), .inr (4, [.ref (o 15), .int (nI rsize), .int (u_19.1 0), .int (u_19.1 1), .int (u_19.1 2), .int (nI (u_19.2.1 0)), .int (nI (u_19.2.1 1)), .int (u_19.1 3), .int (u_19.1 4)])), ((o 15), .inl (k 1, 600, .inl f15)), ((o 2), .inr (2, [.int dlines, .int (nI hh), .int (u_13.1 4), .int dodds, .int (nI drows), .int (nI dheads), .int (nI dsayings), .int (nI dslugs), .int (nI dacts), .ref (o 16), .ref (o 17), .ref (o 18), .ref (o 19), .ref (o 20), .ref (o 21), .ref (o 22), .ref (o 23), .ref (o 24), .ref (o 25)]))] H := hP.sub [1, 2, 0] rfl
        have hD : va_D A [((o 1), .inr (4, [.ref (o 15), .int (nI rsize), .int (u_19.1 0), .int (u_19.1 1), .int (u_19.1 2), .int (nI (u_19.2.1 0)), .int (nI (u_19.2.1 1)), .int (u_19.1 3), .int (u_19.1 4)])), ((o 15), .inl (k 1, 600, .inl f15)), ((o 2), .inr (2, [.int dlines, .int (nI hh), .int (u_13.1 4), .int dodds, .int (nI drows), .int (nI dheads), .int (nI dsayings), .int (nI dslugs), .int (nI dacts), .ref (o 16), .ref (o 17), .ref (o 18), .ref (o 19), .ref (o 20), .ref (o 21), .ref (o 22), .ref (o 23), .ref (o 24), .ref (o 25)]))] := hD.sub [1, 2, 0] (by decide) rfl
        obtain ⟨hp_20, hg_21, hg_22⟩ := hr_18
        refine lv_if_ne (tgt := 66) hx hb dX4_readGarden_61 (by decide) (fun c_23 => ?_) (fun c_23 => ?_)
        · skip
          refine lv_aload_n hx hb dX4_readGarden_66 rfl (lv_at hl 1 rfl) ?_
          refine lv_aload_n hx hb dX4_readGarden_67 rfl (lv_at hl 0 rfl) ?_
          refine x_get S hK hP 0 rfl cfX4 8 lkX4_90 (by decide) rfl dX4_readGarden_68 ?_
          refine x_put (ws' := [((o 1), .inr (4, [.ref (o 15), .int (nI rsize), .int (u_19.1 0), .int (u_19.1 1), .int (u_19.1 2), .int (nI (u_19.2.1 0)), .int (nI (u_19.2.1 1)), .int (u_19.1 3), .int (u_19.1 4)])), ((o 15), .inl (k 1, 600, .inl f15)), ((o 2), .inr (2, [.int dlines, .int (nI hh), .int (u_13.1 4), .int (u_19.1 4), .int (nI drows), .int (nI dheads), .int (nI dsayings), .int (nI dslugs), .int (nI dacts), .ref (o 16), .ref (o 17), .ref (o 18), .ref (o 19), .ref (o 20), .ref (o 21), .ref (o 22), .ref (o 23), .ref (o 24), .ref (o 25)]))]) S hK hP hD hS 2 rfl cfX2 3 lkX4_101 (by decide) rfl rfl rfl (Nat.le_of_ble_eq_true rfl) rfl dX4_readGarden_71 (fun H locs hP hD hS => ?_)
          refine lv_iconst (v := 1) hx hb dX4_readGarden_74 (by decide) ?_
          exact x_retz S hr hlk hQ hS rfl ((fun i => ([(u_19.1 0), (u_19.1 1), (u_19.1 2), (u_19.1 3), (u_19.1 4), (u_13.1 4), (u_19.1 4)] : List (Int32)).getD i 0), (fun i => ([u_19.2.1 0, u_19.2.1 1, hh] : List (Nat)).getD i 0), (fun i => ([] : List (Nat → Int32)).getD i (fun _ => 0)), (fun i => ([] : List (Nat → Int64)).getD i (fun _ => 0)), (fun i => ([] : List (Int64)).getD i 0)) ⟨(show u_19.2.1 0 ≤ 600 by omega), (show u_19.2.1 1 ≤ 600 by omega), (show hh ≤ 16 by omega)⟩ (x_B hP hD) dX4_readGarden_75
        · skip
          refine lv_iconst (v := 0) hx hb dX4_readGarden_64 (by decide) ?_
          exact x_retz S hr hlk hQ hS rfl ((fun i => ([(u_19.1 0), (u_19.1 1), (u_19.1 2), (u_19.1 3), (u_19.1 4), (u_13.1 4), dodds] : List (Int32)).getD i 0), (fun i => ([u_19.2.1 0, u_19.2.1 1, hh] : List (Nat)).getD i 0), (fun i => ([] : List (Nat → Int32)).getD i (fun _ => 0)), (fun i => ([] : List (Nat → Int64)).getD i (fun _ => 0)), (fun i => ([] : List (Int64)).getD i 0)) ⟨(show u_19.2.1 0 ≤ 600 by omega), (show u_19.2.1 1 ≤ 600 by omega), (show hh ≤ 16 by omega)⟩ (x_B hP hD) dX4_readGarden_65
      · skip
        refine lv_iconst (v := 0) hx hb dX4_readGarden_42 (by decide) ?_
        exact x_retz S hr hlk hQ hS rfl ((fun i => ([(u_13.1 0), (u_13.1 1), (u_13.1 2), (u_13.1 3), (u_13.1 4), dlaw, dodds] : List (Int32)).getD i 0), (fun i => ([u_13.2.1 0, u_13.2.1 1, hh] : List (Nat)).getD i 0), (fun i => ([] : List (Nat → Int32)).getD i (fun _ => 0)), (fun i => ([] : List (Nat → Int64)).getD i (fun _ => 0)), (fun i => ([] : List (Int64)).getD i 0)) ⟨(show u_13.2.1 0 ≤ 600 by omega), (show u_13.2.1 1 ≤ 600 by omega), (show hh ≤ 16 by omega)⟩ (x_B hP hD) dX4_readGarden_43
    · skip
      refine lv_iconst (v := 0) hx hb dX4_readGarden_21 (by decide) ?_
      exact x_retz S hr hlk hQ hS rfl ((fun i => ([(u_7.1 0), (u_7.1 1), (u_7.1 2), (u_7.1 3), (u_7.1 4), dlaw, dodds] : List (Int32)).getD i 0), (fun i => ([u_7.2.1 0, u_7.2.1 1, dhours] : List (Nat)).getD i 0), (fun i => ([] : List (Nat → Int32)).getD i (fun _ => 0)), (fun i => ([] : List (Nat → Int64)).getD i (fun _ => 0)), (fun i => ([] : List (Int64)).getD i 0)) ⟨(show u_7.2.1 0 ≤ 600 by omega), (show u_7.2.1 1 ≤ 600 by omega), (show dhours ≤ 16 by omega)⟩ (x_B hP hD) dX4_readGarden_22

set_option maxHeartbeats 4000000 in
set_option maxRecDepth 100000 in
theorem ctX2_tellEvent_0 (l : Launch) (D : va_G) (k : Nat → ClassId) (z : Nat → Nat) (o : Nat → Nat) (dlines : Int32) (dhours : Nat) (dlaw : Int32) (dodds : Int32) (drows : Nat) (dheads : Nat) (dsayings : Nat) (dslugs : Nat) (dacts : Nat) (f23 : Nat → Int32) (f24 : Nat → Int32) (f25 : Nat → Int32) (p1 : Int32) (p2 : Int32) (hdhours : dhours ≤ 16) (hdrows : drows ≤ 4) (hdheads : dheads ≤ 12) (hdsayings : dsayings ≤ 8) (hdslugs : dslugs ≤ 4) (hdacts : dacts ≤ 30) (hsl : dslugs < 4) : MU l yX2_tellEvent cX2_tellEvent 4 none 2 D k z [.ref (o 2), .int 0, .int p1, .int p2] [((o 2), .inr (2, [.int dlines, .int (nI dhours), .int dlaw, .int dodds, .int (nI drows), .int (nI dheads), .int (nI dsayings), .int (nI dslugs), .int (nI dacts), .ref (o 16), .ref (o 17), .ref (o 18), .ref (o 19), .ref (o 20), .ref (o 21), .ref (o 22), .ref (o 23), .ref (o 24), .ref (o 25)])), ((o 23), .inl (k 0, 42, .inl f23)), ((o 24), .inl (k 0, 42, .inl f24)), ((o 25), .inl (k 0, 42, .inl f25))] 0 0 (Uv D (fun u : (Nat → Int32) × (Nat → Nat) × (Nat → Nat → Int32) × (Nat → Nat → Int64) × (Nat → Int64) => (u.2.1 0 ≤ 4)) (fun u : (Nat → Int32) × (Nat → Nat) × (Nat → Nat → Int32) × (Nat → Nat → Int64) × (Nat → Int64) => [((o 2), .inr (2, [.int dlines, .int (nI dhours), .int dlaw, .int dodds, .int (nI drows), .int (nI dheads), .int (nI dsayings), .int (nI (u.2.1 0)), .int (nI dacts), .ref (o 16), .ref (o 17), .ref (o 18), .ref (o 19), .ref (o 20), .ref (o 21), .ref (o 22), .ref (o 23), .ref (o 24), .ref (o 25)])), ((o 23), .inl (k 0, 42, .inl (u.2.2.1 0))), ((o 24), .inl (k 0, 42, .inl (u.2.2.1 1))), ((o 25), .inl (k 0, 42, .inl (u.2.2.1 2)))])) := by
  refine MU.of (by decide) (Nat.le_of_ble_eq_true rfl) ?_
  intro p e s m below meth c ls A args Q S hr hlk hnm hQ hK hP hD hZ hA hS hl
  have hx := S.1
  have hb := S.2.1
  have hl : lv_has ls 4 [(0, .ref (o 2)), (1, .int 0), (2, .int p1), (3, .int p2)] := hl
  refine lv_aload_n hx hb dX2_tellEvent_0 rfl (lv_at hl 0 rfl) ?_
  refine x_roVi (As := []) S hK hP hD hZ (fun _ h => h) hA hS hA hl mwX2_events lkX2_82 (ctX2_events_g l D k z (fun i => ([0, 0, 0, (o 2), 0, 0, 0, 0, 0, 0, 0, 0, 0, 0, 0, 0, 0, 0, 0, 0, 0, 0, 0, 0, 0, 0, (o 16), (o 17), (o 18), (o 19), (o 20), (o 21), (o 22), (o 23), (o 24), (o 25)] : List Nat).getD i 0) dlines dhours dlaw dodds drows dheads dsayings dslugs dacts (by omega) (by omega) (by omega) (by omega) (by omega) (by omega)) [0] rfl (by decide) rfl rfl rfl rfl rfl ⟨Nat.le_of_ble_eq_true rfl, Nat.le_of_ble_eq_true rfl, Nat.le_of_ble_eq_true rfl⟩ dX2_tellEvent_1 ⟨Nat.le_of_ble_eq_true rfl, Nat.le_of_ble_eq_true rfl⟩ (fun r_1 H locs hr_1 hP hS => ?_)
  obtain rfl := hr_1
  refine lv_bipush (v := 42) hx hb dX2_tellEvent_4 (by decide) ?_
  refine lv_icmp_lt (tgt := 10) hx hb dX2_tellEvent_6 (by decide) (fun c_3 => ?_) (fun c_3 => ?_)
  · skip
    have c_3 : dsayings + dslugs + dacts < 42 := (ni_lt rfl (by decide) (by omega) (by omega)).mp c_3
    refine lv_aload_n hx hb dX2_tellEvent_10 rfl (lv_at hl 0 rfl) ?_
    refine lv_iload_n hx hb dX2_tellEvent_11 rfl (lv_at hl 1 rfl) ?_
    refine lv_iload_n hx hb dX2_tellEvent_12 rfl (lv_at hl 2 rfl) ?_
    refine lv_iload_n hx hb dX2_tellEvent_13 rfl (lv_at hl 3 rfl) ?_
    refine x_muVv (wr := []) (As := [.int 0, .int p1, .int p2]) S hK hP hD hZ hS hA hl mwX2_setEvent lkX2_86 (ctX2_setEvent_g l D k z (fun i => ([0, 0, 0, (o 2), 0, 0, 0, 0, 0, 0, 0, 0, 0, 0, 0, 0, 0, 0, 0, 0, 0, 0, 0, 0, 0, 0, (o 16), (o 17), (o 18), (o 19), (o 20), (o 21), (o 22), (o 23), (o 24), (o 25)] : List Nat).getD i 0) dlines dhours dlaw dodds drows dheads dsayings dslugs dacts f23 f24 f25 0 p1 p2 (by omega) (by omega) (by omega) (by omega) (by omega) (by omega) (by omega)) [0, 1, 2, 3] [] rfl rfl (by decide) (by decide) (by decide) rfl rfl rfl rfl rfl ⟨Nat.le_of_ble_eq_true rfl, Nat.le_of_ble_eq_true rfl, Nat.le_of_ble_eq_true rfl⟩ dX2_tellEvent_14 ⟨Nat.le_of_ble_eq_true rfl, Nat.le_of_ble_eq_true rfl⟩ (fun u_5 H locs hr_4 hP hD hS => ?_)
    have hP : va_P D vwCl [((o 2), .inr (2, [.int dlines, .int (nI dhours), .int dlaw, .int dodds, .int (nI drows), .int (nI dheads), .int (nI dsayings), .int (nI dslugs), .int (nI dacts), .ref (o 16), .ref (o 17), .ref (o 18), .ref (o 19), .ref (o 20), .ref (o 21), .ref (o 22), .ref (o 23), .ref (o 24), .ref (o 25)])), ((o 23), .inl (k 0, 42, .inl (u_5.2.2.1 0))), ((o 24), .inl (k 0, 42, .inl (u_5.2.2.1 1))), ((o 25), .inl (k 0, 42, .inl (u_5.2.2.1 2)))] H := hP.sub [0, 1, 2, 3] rfl
    have hD : va_D A [((o 2), .inr (2, [.int dlines, .int (nI dhours), .int dlaw, .int dodds, .int (nI drows), .int (nI dheads), .int (nI dsayings), .int (nI dslugs), .int (nI dacts), .ref (o 16), .ref (o 17), .ref (o 18), .ref (o 19), .ref (o 20), .ref (o 21), .ref (o 22), .ref (o 23), .ref (o 24), .ref (o 25)])), ((o 23), .inl (k 0, 42, .inl (u_5.2.2.1 0))), ((o 24), .inl (k 0, 42, .inl (u_5.2.2.1 1))), ((o 25), .inl (k 0, 42, .inl (u_5.2.2.1 2)))] := hD.sub [0, 1, 2, 3] (by decide) rfl
    refine lv_iload_n hx hb dX2_tellEvent_17 rfl (lv_at hl 1 rfl) ?_
    refine lv_if_ne (tgt := 34) hx hb dX2_tellEvent_18 (by decide) (fun c_6 => absurd (by decide) c_6) (fun c_6 => ?_)
    refine lv_aload_n hx hb dX2_tellEvent_21 rfl (lv_at hl 0 rfl) ?_
    refine lv_dup hx hb dX2_tellEvent_22 rfl ?_
    refine x_get S hK hP 0 rfl cfX2 7 lkX2_64 (by decide) rfl dX2_tellEvent_23 ?_
    refine lv_iconst (v := 1) hx hb dX2_tellEvent_26 (by decide) ?_
    refine lv_iadd hx hb dX2_tellEvent_27 ?_
    refine x_is (nI (dslugs + 1)) (ni_add rfl (by decide)) ?_
    refine x_put (ws' := [((o 2), .inr (2, [.int dlines, .int (nI dhours), .int dlaw, .int dodds, .int (nI drows), .int (nI dheads), .int (nI dsayings), .int (nI (dslugs + 1)), .int (nI dacts), .ref (o 16), .ref (o 17), .ref (o 18), .ref (o 19), .ref (o 20), .ref (o 21), .ref (o 22), .ref (o 23), .ref (o 24), .ref (o 25)])), ((o 23), .inl (k 0, 42, .inl (u_5.2.2.1 0))), ((o 24), .inl (k 0, 42, .inl (u_5.2.2.1 1))), ((o 25), .inl (k 0, 42, .inl (u_5.2.2.1 2)))]) S hK hP hD hS 0 rfl cfX2 7 lkX2_64 (by decide) rfl rfl rfl (Nat.le_of_ble_eq_true rfl) rfl dX2_tellEvent_28 (fun H locs hP hD hS => ?_)
    refine lv_goto (tgt := 44) hx hb dX2_tellEvent_31 (by decide) ?_
    exact x_retv S hr hlk hQ hS ((fun i => ([] : List (Int32)).getD i 0), (fun i => ([dslugs + 1] : List (Nat)).getD i 0), (fun i => ([(u_5.2.2.1 0), (u_5.2.2.1 1), (u_5.2.2.1 2)] : List (Nat → Int32)).getD i (fun _ => 0)), (fun i => ([] : List (Nat → Int64)).getD i (fun _ => 0)), (fun i => ([] : List (Int64)).getD i 0)) (show dslugs + 1 ≤ 4 by omega) (x_B hP hD) dX2_tellEvent_44
  · skip
    have c_3 : ¬ dsayings + dslugs + dacts < 42 := fun q => c_3 ((ni_lt rfl (by decide) (by omega) (by omega)).mpr q)
    exact x_retv S hr hlk hQ hS ((fun i => ([] : List (Int32)).getD i 0), (fun i => ([dslugs] : List (Nat)).getD i 0), (fun i => ([f23, f24, f25] : List (Nat → Int32)).getD i (fun _ => 0)), (fun i => ([] : List (Nat → Int64)).getD i (fun _ => 0)), (fun i => ([] : List (Int64)).getD i 0)) (show dslugs ≤ 4 by omega) (x_B hP hD) dX2_tellEvent_9

set_option maxHeartbeats 4000000 in
set_option maxRecDepth 100000 in
theorem ctX2_tellEvent_1 (l : Launch) (D : va_G) (k : Nat → ClassId) (z : Nat → Nat) (o : Nat → Nat) (dlines : Int32) (dhours : Nat) (dlaw : Int32) (dodds : Int32) (drows : Nat) (dheads : Nat) (dsayings : Nat) (dslugs : Nat) (dacts : Nat) (f23 : Nat → Int32) (f24 : Nat → Int32) (f25 : Nat → Int32) (p0 : Int32) (p1 : Int32) (p2 : Int32) (hdhours : dhours ≤ 16) (hdrows : drows ≤ 4) (hdheads : dheads ≤ 12) (hdsayings : dsayings ≤ 8) (hdslugs : dslugs ≤ 4) (hdacts : dacts ≤ 30) (hsa : dsayings < 8) (hne : ¬ p0 = 0) : MU l yX2_tellEvent cX2_tellEvent 4 none 2 D k z [.ref (o 2), .int p0, .int p1, .int p2] [((o 2), .inr (2, [.int dlines, .int (nI dhours), .int dlaw, .int dodds, .int (nI drows), .int (nI dheads), .int (nI dsayings), .int (nI dslugs), .int (nI dacts), .ref (o 16), .ref (o 17), .ref (o 18), .ref (o 19), .ref (o 20), .ref (o 21), .ref (o 22), .ref (o 23), .ref (o 24), .ref (o 25)])), ((o 23), .inl (k 0, 42, .inl f23)), ((o 24), .inl (k 0, 42, .inl f24)), ((o 25), .inl (k 0, 42, .inl f25))] 0 0 (Uv D (fun u : (Nat → Int32) × (Nat → Nat) × (Nat → Nat → Int32) × (Nat → Nat → Int64) × (Nat → Int64) => (u.2.1 0 ≤ 8)) (fun u : (Nat → Int32) × (Nat → Nat) × (Nat → Nat → Int32) × (Nat → Nat → Int64) × (Nat → Int64) => [((o 2), .inr (2, [.int dlines, .int (nI dhours), .int dlaw, .int dodds, .int (nI drows), .int (nI dheads), .int (nI (u.2.1 0)), .int (nI dslugs), .int (nI dacts), .ref (o 16), .ref (o 17), .ref (o 18), .ref (o 19), .ref (o 20), .ref (o 21), .ref (o 22), .ref (o 23), .ref (o 24), .ref (o 25)])), ((o 23), .inl (k 0, 42, .inl (u.2.2.1 0))), ((o 24), .inl (k 0, 42, .inl (u.2.2.1 1))), ((o 25), .inl (k 0, 42, .inl (u.2.2.1 2)))])) := by
  refine MU.of (by decide) (Nat.le_of_ble_eq_true rfl) ?_
  intro p e s m below meth c ls A args Q S hr hlk hnm hQ hK hP hD hZ hA hS hl
  have hx := S.1
  have hb := S.2.1
  have hl : lv_has ls 4 [(0, .ref (o 2)), (1, .int p0), (2, .int p1), (3, .int p2)] := hl
  refine lv_aload_n hx hb dX2_tellEvent_0 rfl (lv_at hl 0 rfl) ?_
  refine x_roVi (As := []) S hK hP hD hZ (fun _ h => h) hA hS hA hl mwX2_events lkX2_82 (ctX2_events_g l D k z (fun i => ([0, 0, 0, (o 2), 0, 0, 0, 0, 0, 0, 0, 0, 0, 0, 0, 0, 0, 0, 0, 0, 0, 0, 0, 0, 0, 0, (o 16), (o 17), (o 18), (o 19), (o 20), (o 21), (o 22), (o 23), (o 24), (o 25)] : List Nat).getD i 0) dlines dhours dlaw dodds drows dheads dsayings dslugs dacts (by omega) (by omega) (by omega) (by omega) (by omega) (by omega)) [0] rfl (by decide) rfl rfl rfl rfl rfl ⟨Nat.le_of_ble_eq_true rfl, Nat.le_of_ble_eq_true rfl, Nat.le_of_ble_eq_true rfl⟩ dX2_tellEvent_1 ⟨Nat.le_of_ble_eq_true rfl, Nat.le_of_ble_eq_true rfl⟩ (fun r_1 H locs hr_1 hP hS => ?_)
  obtain rfl := hr_1
  refine lv_bipush (v := 42) hx hb dX2_tellEvent_4 (by decide) ?_
  refine lv_icmp_lt (tgt := 10) hx hb dX2_tellEvent_6 (by decide) (fun c_3 => ?_) (fun c_3 => ?_)
  · skip
    have c_3 : dsayings + dslugs + dacts < 42 := (ni_lt rfl (by decide) (by omega) (by omega)).mp c_3
    refine lv_aload_n hx hb dX2_tellEvent_10 rfl (lv_at hl 0 rfl) ?_
    refine lv_iload_n hx hb dX2_tellEvent_11 rfl (lv_at hl 1 rfl) ?_
    refine lv_iload_n hx hb dX2_tellEvent_12 rfl (lv_at hl 2 rfl) ?_
    refine lv_iload_n hx hb dX2_tellEvent_13 rfl (lv_at hl 3 rfl) ?_
    refine x_muVv (wr := []) (As := [.int p0, .int p1, .int p2]) S hK hP hD hZ hS hA hl mwX2_setEvent lkX2_86 (ctX2_setEvent_g l D k z (fun i => ([0, 0, 0, (o 2), 0, 0, 0, 0, 0, 0, 0, 0, 0, 0, 0, 0, 0, 0, 0, 0, 0, 0, 0, 0, 0, 0, (o 16), (o 17), (o 18), (o 19), (o 20), (o 21), (o 22), (o 23), (o 24), (o 25)] : List Nat).getD i 0) dlines dhours dlaw dodds drows dheads dsayings dslugs dacts f23 f24 f25 p0 p1 p2 (by omega) (by omega) (by omega) (by omega) (by omega) (by omega) (by omega)) [0, 1, 2, 3] [] rfl rfl (by decide) (by decide) (by decide) rfl rfl rfl rfl rfl ⟨Nat.le_of_ble_eq_true rfl, Nat.le_of_ble_eq_true rfl, Nat.le_of_ble_eq_true rfl⟩ dX2_tellEvent_14 ⟨Nat.le_of_ble_eq_true rfl, Nat.le_of_ble_eq_true rfl⟩ (fun u_5 H locs hr_4 hP hD hS => ?_)
    have hP : va_P D vwCl [((o 2), .inr (2, [.int dlines, .int (nI dhours), .int dlaw, .int dodds, .int (nI drows), .int (nI dheads), .int (nI dsayings), .int (nI dslugs), .int (nI dacts), .ref (o 16), .ref (o 17), .ref (o 18), .ref (o 19), .ref (o 20), .ref (o 21), .ref (o 22), .ref (o 23), .ref (o 24), .ref (o 25)])), ((o 23), .inl (k 0, 42, .inl (u_5.2.2.1 0))), ((o 24), .inl (k 0, 42, .inl (u_5.2.2.1 1))), ((o 25), .inl (k 0, 42, .inl (u_5.2.2.1 2)))] H := hP.sub [0, 1, 2, 3] rfl
    have hD : va_D A [((o 2), .inr (2, [.int dlines, .int (nI dhours), .int dlaw, .int dodds, .int (nI drows), .int (nI dheads), .int (nI dsayings), .int (nI dslugs), .int (nI dacts), .ref (o 16), .ref (o 17), .ref (o 18), .ref (o 19), .ref (o 20), .ref (o 21), .ref (o 22), .ref (o 23), .ref (o 24), .ref (o 25)])), ((o 23), .inl (k 0, 42, .inl (u_5.2.2.1 0))), ((o 24), .inl (k 0, 42, .inl (u_5.2.2.1 1))), ((o 25), .inl (k 0, 42, .inl (u_5.2.2.1 2)))] := hD.sub [0, 1, 2, 3] (by decide) rfl
    refine lv_iload_n hx hb dX2_tellEvent_17 rfl (lv_at hl 1 rfl) ?_
    refine lv_if_ne (tgt := 34) hx hb dX2_tellEvent_18 (by decide) (fun c_6 => ?_) (fun c_6 => ?_)
    · skip
      refine lv_aload_n hx hb dX2_tellEvent_34 rfl (lv_at hl 0 rfl) ?_
      refine lv_dup hx hb dX2_tellEvent_35 rfl ?_
      refine x_get S hK hP 0 rfl cfX2 6 lkX2_61 (by decide) rfl dX2_tellEvent_36 ?_
      refine lv_iconst (v := 1) hx hb dX2_tellEvent_39 (by decide) ?_
      refine lv_iadd hx hb dX2_tellEvent_40 ?_
      refine x_is (nI (dsayings + 1)) (ni_add rfl (by decide)) ?_
      refine x_put (ws' := [((o 2), .inr (2, [.int dlines, .int (nI dhours), .int dlaw, .int dodds, .int (nI drows), .int (nI dheads), .int (nI (dsayings + 1)), .int (nI dslugs), .int (nI dacts), .ref (o 16), .ref (o 17), .ref (o 18), .ref (o 19), .ref (o 20), .ref (o 21), .ref (o 22), .ref (o 23), .ref (o 24), .ref (o 25)])), ((o 23), .inl (k 0, 42, .inl (u_5.2.2.1 0))), ((o 24), .inl (k 0, 42, .inl (u_5.2.2.1 1))), ((o 25), .inl (k 0, 42, .inl (u_5.2.2.1 2)))]) S hK hP hD hS 0 rfl cfX2 6 lkX2_61 (by decide) rfl rfl rfl (Nat.le_of_ble_eq_true rfl) rfl dX2_tellEvent_41 (fun H locs hP hD hS => ?_)
      exact x_retv S hr hlk hQ hS ((fun i => ([] : List (Int32)).getD i 0), (fun i => ([dsayings + 1] : List (Nat)).getD i 0), (fun i => ([(u_5.2.2.1 0), (u_5.2.2.1 1), (u_5.2.2.1 2)] : List (Nat → Int32)).getD i (fun _ => 0)), (fun i => ([] : List (Nat → Int64)).getD i (fun _ => 0)), (fun i => ([] : List (Int64)).getD i 0)) (show dsayings + 1 ≤ 8 by omega) (x_B hP hD) dX2_tellEvent_44
    · skip
      exact absurd c_6 hne
  · skip
    have c_3 : ¬ dsayings + dslugs + dacts < 42 := fun q => c_3 ((ni_lt rfl (by decide) (by omega) (by omega)).mpr q)
    exact x_retv S hr hlk hQ hS ((fun i => ([] : List (Int32)).getD i 0), (fun i => ([dsayings] : List (Nat)).getD i 0), (fun i => ([f23, f24, f25] : List (Nat → Int32)).getD i (fun _ => 0)), (fun i => ([] : List (Nat → Int64)).getD i (fun _ => 0)), (fun i => ([] : List (Int64)).getD i 0)) (show dsayings ≤ 8 by omega) (x_B hP hD) dX2_tellEvent_9

set_option maxHeartbeats 4000000 in
set_option maxRecDepth 100000 in
theorem ctX4_readTarget_0 (l : Launch) (D : va_G) (k : Nat → ClassId) (z : Nat → Nat) (o : Nat → Nat) (rfault : Int32) (rplace : Int32) (rkind : Int32) (rvalue : Int32) (rnumber : Int32) (rsize : Nat) (rstart : Nat) (rnext : Nat) (f15 : Nat → Int32) (dlines : Int32) (dhours : Nat) (dlaw : Int32) (dodds : Int32) (drows : Nat) (dheads : Nat) (dsayings : Nat) (dslugs : Nat) (dacts : Nat) (f23 : Nat → Int32) (f24 : Nat → Int32) (f25 : Nat → Int32) (hrsize : rsize ≤ 600) (hrstart : rstart ≤ 600) (hrnext : rnext ≤ 600) (hdhours : dhours ≤ 16) (hdrows : drows ≤ 4) (hdheads : dheads ≤ 12) (hdsayings : dsayings ≤ 8) (hdslugs : dslugs ≤ 4) (hdacts : dacts ≤ 30) (hsl : dslugs < 4) : MU l yX4_readTarget cX4_readTarget 4 (some .boolean) 6 D k z [.ref (o 1), .ref (o 2), .int 0] [((o 1), .inr (4, [.ref (o 15), .int (nI rsize), .int rfault, .int rplace, .int rkind, .int (nI rstart), .int (nI rnext), .int rvalue, .int rnumber])), ((o 15), .inl (k 1, 600, .inl f15)), ((o 2), .inr (2, [.int dlines, .int (nI dhours), .int dlaw, .int dodds, .int (nI drows), .int (nI dheads), .int (nI dsayings), .int (nI dslugs), .int (nI dacts), .ref (o 16), .ref (o 17), .ref (o 18), .ref (o 19), .ref (o 20), .ref (o 21), .ref (o 22), .ref (o 23), .ref (o 24), .ref (o 25)])), ((o 23), .inl (k 0, 42, .inl f23)), ((o 24), .inl (k 0, 42, .inl f24)), ((o 25), .inl (k 0, 42, .inl f25))] 0 0 (Ui D (fun (r : Int32) (u : (Nat → Int32) × (Nat → Nat) × (Nat → Nat → Int32) × (Nat → Nat → Int64) × (Nat → Int64)) => (u.2.1 0 ≤ 600) ∧ (u.2.1 1 ≤ 600) ∧ (u.2.1 2 ≤ 4)) (fun u : (Nat → Int32) × (Nat → Nat) × (Nat → Nat → Int32) × (Nat → Nat → Int64) × (Nat → Int64) => [((o 1), .inr (4, [.ref (o 15), .int (nI rsize), .int (u.1 0), .int (u.1 1), .int (u.1 2), .int (nI (u.2.1 0)), .int (nI (u.2.1 1)), .int (u.1 3), .int (u.1 4)])), ((o 15), .inl (k 1, 600, .inl f15)), ((o 2), .inr (2, [.int dlines, .int (nI dhours), .int dlaw, .int dodds, .int (nI drows), .int (nI dheads), .int (nI dsayings), .int (nI (u.2.1 2)), .int (nI dacts), .ref (o 16), .ref (o 17), .ref (o 18), .ref (o 19), .ref (o 20), .ref (o 21), .ref (o 22), .ref (o 23), .ref (o 24), .ref (o 25)])), ((o 23), .inl (k 0, 42, .inl (u.2.2.1 0))), ((o 24), .inl (k 0, 42, .inl (u.2.2.1 1))), ((o 25), .inl (k 0, 42, .inl (u.2.2.1 2)))])) := by
  refine MU.of (by decide) (Nat.le_of_ble_eq_true rfl) ?_
  intro p e s m below meth c ls A args Q S hr hlk hnm hQ hK hP hD hZ hA hS hl
  have hx := S.1
  have hb := S.2.1
  have hl : lv_has ls 4 [(0, .ref (o 1)), (1, .ref (o 2)), (2, .int 0)] := hl
  refine lv_aload_n hx hb dX4_readTarget_0 rfl (lv_at hl 0 rfl) ?_
  refine x_ldcS S hZ lsX4_137 dX4_readTarget_1 ?_
  refine lv_iconst (v := 0) hx hb dX4_readTarget_3 (by decide) ?_
  refine lv_aload_n hx hb dX4_readTarget_4 rfl (lv_at hl 1 rfl) ?_
  refine x_get S hK hP 2 rfl cfX2 5 lkX4_119 (by decide) rfl dX4_readTarget_5 ?_
  refine lv_iconst (v := 1) hx hb dX4_readTarget_8 (by decide) ?_
  refine lv_isub hx hb dX4_readTarget_9 ?_
  refine lv_topi (fun v_1 ev_1 => ?_)
  refine x_muVi (wr := [((o 2), .inr (2, [.int dlines, .int (nI dhours), .int dlaw, .int dodds, .int (nI drows), .int (nI dheads), .int (nI dsayings), .int (nI dslugs), .int (nI dacts), .ref (o 16), .ref (o 17), .ref (o 18), .ref (o 19), .ref (o 20), .ref (o 21), .ref (o 22), .ref (o 23), .ref (o 24), .ref (o 25)])), ((o 23), .inl (k 0, 42, .inl f23)), ((o 24), .inl (k 0, 42, .inl f24)), ((o 25), .inl (k 0, 42, .inl f25))]) (As := [.ref (z 9), .int 0, .int v_1]) S hK hP hD hZ hS hA hl mwX4_takeNumber lkX4_86 (ctX4_takeNumber l D k z o rfault rplace rkind rvalue rnumber rsize rstart rnext f15 9 0 v_1 (by omega) (by omega) (by omega) (by omega)) [0, 1] [2, 3, 4, 5] rfl rfl (by decide) (by decide) (by decide) rfl rfl rfl rfl rfl ⟨Nat.le_of_ble_eq_true rfl, Nat.le_of_ble_eq_true rfl, Nat.le_of_ble_eq_true rfl⟩ dX4_readTarget_10 ⟨Nat.le_of_ble_eq_true rfl, Nat.le_of_ble_eq_true rfl⟩ (fun r_2 u_3 H locs hr_2 hP hD hS => ?_)
  have hP : va_P D vwCl [((o 1), .inr (4, [.ref (o 15), .int (nI rsize), .int (u_3.1 0), .int (u_3.1 1), .int (u_3.1 2), .int (nI (u_3.2.1 0)), .int (nI (u_3.2.1 1)), .int (u_3.1 3), .int (u_3.1 4)])), ((o 15), .inl (k 1, 600, .inl f15)), ((o 2), .inr (2, [.int dlines, .int (nI dhours), .int dlaw, .int dodds, .int (nI drows), .int (nI dheads), .int (nI dsayings), .int (nI dslugs), .int (nI dacts), .ref (o 16), .ref (o 17), .ref (o 18), .ref (o 19), .ref (o 20), .ref (o 21), .ref (o 22), .ref (o 23), .ref (o 24), .ref (o 25)])), ((o 23), .inl (k 0, 42, .inl f23)), ((o 24), .inl (k 0, 42, .inl f24)), ((o 25), .inl (k 0, 42, .inl f25))] H := hP.sub [4, 5, 0, 1, 2, 3] rfl
  have hD : va_D A [((o 1), .inr (4, [.ref (o 15), .int (nI rsize), .int (u_3.1 0), .int (u_3.1 1), .int (u_3.1 2), .int (nI (u_3.2.1 0)), .int (nI (u_3.2.1 1)), .int (u_3.1 3), .int (u_3.1 4)])), ((o 15), .inl (k 1, 600, .inl f15)), ((o 2), .inr (2, [.int dlines, .int (nI dhours), .int dlaw, .int dodds, .int (nI drows), .int (nI dheads), .int (nI dsayings), .int (nI dslugs), .int (nI dacts), .ref (o 16), .ref (o 17), .ref (o 18), .ref (o 19), .ref (o 20), .ref (o 21), .ref (o 22), .ref (o 23), .ref (o 24), .ref (o 25)])), ((o 23), .inl (k 0, 42, .inl f23)), ((o 24), .inl (k 0, 42, .inl f24)), ((o 25), .inl (k 0, 42, .inl f25))] := hD.sub [4, 5, 0, 1, 2, 3] (by decide) rfl
  obtain ⟨hp_4, hg_5, hg_6⟩ := hr_2
  refine lv_if_ne (tgt := 18) hx hb dX4_readTarget_13 (by decide) (fun c_7 => ?_) (fun c_7 => ?_)
  · skip
    refine lv_aload_n hx hb dX4_readTarget_18 rfl (lv_at hl 0 rfl) ?_
    refine x_get S hK hP 0 rfl cfX4 8 lkX4_90 (by decide) rfl dX4_readTarget_19 ?_
    refine lv_istore_n (lv' := [(3, .int (u_3.1 4)), (0, .ref (o 1)), (1, .ref (o 2)), (2, .int 0)]) hx hb dX4_readTarget_22 rfl hl (by decide) rfl (fun ls hl => ?_)
    refine lv_aload_n hx hb dX4_readTarget_23 rfl (lv_at hl 1 rfl) ?_
    refine x_ldcS S hZ lsX4_139 dX4_readTarget_24 ?_
    refine lv_iconst (v := 0) hx hb dX4_readTarget_26 (by decide) ?_
    refine lv_bipush (v := 15) hx hb dX4_readTarget_27 (by decide) ?_
    refine x_muVi (wr := [((o 2), .inr (2, [.int dlines, .int (nI dhours), .int dlaw, .int dodds, .int (nI drows), .int (nI dheads), .int (nI dsayings), .int (nI dslugs), .int (nI dacts), .ref (o 16), .ref (o 17), .ref (o 18), .ref (o 19), .ref (o 20), .ref (o 21), .ref (o 22), .ref (o 23), .ref (o 24), .ref (o 25)])), ((o 23), .inl (k 0, 42, .inl f23)), ((o 24), .inl (k 0, 42, .inl f24)), ((o 25), .inl (k 0, 42, .inl f25))]) (As := [.ref (z 10), .int 0, .int 15]) S hK hP hD hZ hS hA hl mwX4_takeNumber lkX4_86 (ctX4_takeNumber l D k z o (u_3.1 0) (u_3.1 1) (u_3.1 2) (u_3.1 3) (u_3.1 4) rsize (u_3.2.1 0) (u_3.2.1 1) f15 10 0 15 (by omega) (by omega) (by omega) (by omega)) [0, 1] [2, 3, 4, 5] rfl rfl (by decide) (by decide) (by decide) rfl rfl rfl rfl rfl ⟨Nat.le_of_ble_eq_true rfl, Nat.le_of_ble_eq_true rfl, Nat.le_of_ble_eq_true rfl⟩ dX4_readTarget_29 ⟨Nat.le_of_ble_eq_true rfl, Nat.le_of_ble_eq_true rfl⟩ (fun r_8 u_9 H locs hr_8 hP hD hS => ?_)
    have hP : va_P D vwCl [((o 1), .inr (4, [.ref (o 15), .int (nI rsize), .int (u_9.1 0), .int (u_9.1 1), .int (u_9.1 2), .int (nI (u_9.2.1 0)), .int (nI (u_9.2.1 1)), .int (u_9.1 3), .int (u_9.1 4)])), ((o 15), .inl (k 1, 600, .inl f15)), ((o 2), .inr (2, [.int dlines, .int (nI dhours), .int dlaw, .int dodds, .int (nI drows), .int (nI dheads), .int (nI dsayings), .int (nI dslugs), .int (nI dacts), .ref (o 16), .ref (o 17), .ref (o 18), .ref (o 19), .ref (o 20), .ref (o 21), .ref (o 22), .ref (o 23), .ref (o 24), .ref (o 25)])), ((o 23), .inl (k 0, 42, .inl f23)), ((o 24), .inl (k 0, 42, .inl f24)), ((o 25), .inl (k 0, 42, .inl f25))] H := hP.sub [4, 5, 0, 1, 2, 3] rfl
    have hD : va_D A [((o 1), .inr (4, [.ref (o 15), .int (nI rsize), .int (u_9.1 0), .int (u_9.1 1), .int (u_9.1 2), .int (nI (u_9.2.1 0)), .int (nI (u_9.2.1 1)), .int (u_9.1 3), .int (u_9.1 4)])), ((o 15), .inl (k 1, 600, .inl f15)), ((o 2), .inr (2, [.int dlines, .int (nI dhours), .int dlaw, .int dodds, .int (nI drows), .int (nI dheads), .int (nI dsayings), .int (nI dslugs), .int (nI dacts), .ref (o 16), .ref (o 17), .ref (o 18), .ref (o 19), .ref (o 20), .ref (o 21), .ref (o 22), .ref (o 23), .ref (o 24), .ref (o 25)])), ((o 23), .inl (k 0, 42, .inl f23)), ((o 24), .inl (k 0, 42, .inl f24)), ((o 25), .inl (k 0, 42, .inl f25))] := hD.sub [4, 5, 0, 1, 2, 3] (by decide) rfl
    obtain ⟨hp_10, hg_11, hg_12⟩ := hr_8
    refine lv_if_ne (tgt := 37) hx hb dX4_readTarget_32 (by decide) (fun c_13 => ?_) (fun c_13 => ?_)
    · skip
      refine lv_aload_n hx hb dX4_readTarget_37 rfl (lv_at hl 2 rfl) ?_
      refine lv_iload_n hx hb dX4_readTarget_38 rfl (lv_at hl 3 rfl) ?_
      refine lv_iload_n hx hb dX4_readTarget_39 rfl (lv_at hl 0 rfl) ?_
      refine lv_aload_n hx hb dX4_readTarget_40 rfl (lv_at hl 1 rfl) ?_
      refine x_get S hK hP 0 rfl cfX4 8 lkX4_90 (by decide) rfl dX4_readTarget_41 ?_
      refine x_muVv (wr := [((o 1), .inr (4, [.ref (o 15), .int (nI rsize), .int (u_9.1 0), .int (u_9.1 1), .int (u_9.1 2), .int (nI (u_9.2.1 0)), .int (nI (u_9.2.1 1)), .int (u_9.1 3), .int (u_9.1 4)])), ((o 15), .inl (k 1, 600, .inl f15))]) (As := [.int 0, .int (u_3.1 4), .int (u_9.1 4)]) S hK hP hD hZ hS hA hl mwX2_tellEvent lkX4_141 (ctX2_tellEvent_0 l D k z o dlines dhours dlaw dodds drows dheads dsayings dslugs dacts f23 f24 f25 (u_3.1 4) (u_9.1 4) (by omega) (by omega) (by omega) (by omega) (by omega) (by omega) (by omega)) [2, 3, 4, 5] [0, 1] rfl rfl (by decide) (by decide) (by decide) rfl rfl rfl rfl rfl ⟨Nat.le_of_ble_eq_true rfl, Nat.le_of_ble_eq_true rfl, Nat.le_of_ble_eq_true rfl⟩ dX4_readTarget_44 ⟨Nat.le_of_ble_eq_true rfl, Nat.le_of_ble_eq_true rfl⟩ (fun u_15 H locs hr_14 hP hD hS => ?_)
      have hP : va_P D vwCl [((o 1), .inr (4, [.ref (o 15), .int (nI rsize), .int (u_9.1 0), .int (u_9.1 1), .int (u_9.1 2), .int (nI (u_9.2.1 0)), .int (nI (u_9.2.1 1)), .int (u_9.1 3), .int (u_9.1 4)])), ((o 15), .inl (k 1, 600, .inl f15)), ((o 2), .inr (2, [.int dlines, .int (nI dhours), .int dlaw, .int dodds, .int (nI drows), .int (nI dheads), .int (nI dsayings), .int (nI (u_15.2.1 0)), .int (nI dacts), .ref (o 16), .ref (o 17), .ref (o 18), .ref (o 19), .ref (o 20), .ref (o 21), .ref (o 22), .ref (o 23), .ref (o 24), .ref (o 25)])), ((o 23), .inl (k 0, 42, .inl (u_15.2.2.1 0))), ((o 24), .inl (k 0, 42, .inl (u_15.2.2.1 1))), ((o 25), .inl (k 0, 42, .inl (u_15.2.2.1 2)))] H := hP.sub [0, 1, 2, 3, 4, 5] rfl
      have hD : va_D A [((o 1), .inr (4, [.ref (o 15), .int (nI rsize), .int (u_9.1 0), .int (u_9.1 1), .int (u_9.1 2), .int (nI (u_9.2.1 0)), .int (nI (u_9.2.1 1)), .int (u_9.1 3), .int (u_9.1 4)])), ((o 15), .inl (k 1, 600, .inl f15)), ((o 2), .inr (2, [.int dlines, .int (nI dhours), .int dlaw, .int dodds, .int (nI drows), .int (nI dheads), .int (nI dsayings), .int (nI (u_15.2.1 0)), .int (nI dacts), .ref (o 16), .ref (o 17), .ref (o 18), .ref (o 19), .ref (o 20), .ref (o 21), .ref (o 22), .ref (o 23), .ref (o 24), .ref (o 25)])), ((o 23), .inl (k 0, 42, .inl (u_15.2.2.1 0))), ((o 24), .inl (k 0, 42, .inl (u_15.2.2.1 1))), ((o 25), .inl (k 0, 42, .inl (u_15.2.2.1 2)))] := hD.sub [0, 1, 2, 3, 4, 5] (by decide) rfl
      have hg_16 := hr_14
      refine lv_iconst (v := 1) hx hb dX4_readTarget_47 (by decide) ?_
      exact x_retz S hr hlk hQ hS rfl ((fun i => ([(u_9.1 0), (u_9.1 1), (u_9.1 2), (u_9.1 3), (u_9.1 4)] : List (Int32)).getD i 0), (fun i => ([u_9.2.1 0, u_9.2.1 1, u_15.2.1 0] : List (Nat)).getD i 0), (fun i => ([(u_15.2.2.1 0), (u_15.2.2.1 1), (u_15.2.2.1 2)] : List (Nat → Int32)).getD i (fun _ => 0)), (fun i => ([] : List (Nat → Int64)).getD i (fun _ => 0)), (fun i => ([] : List (Int64)).getD i 0)) ⟨(show u_9.2.1 0 ≤ 600 by omega), (show u_9.2.1 1 ≤ 600 by omega), (show u_15.2.1 0 ≤ 4 by omega)⟩ (x_B hP hD) dX4_readTarget_48
    · skip
      refine lv_iconst (v := 0) hx hb dX4_readTarget_35 (by decide) ?_
      exact x_retz S hr hlk hQ hS rfl ((fun i => ([(u_9.1 0), (u_9.1 1), (u_9.1 2), (u_9.1 3), (u_9.1 4)] : List (Int32)).getD i 0), (fun i => ([u_9.2.1 0, u_9.2.1 1, dslugs] : List (Nat)).getD i 0), (fun i => ([f23, f24, f25] : List (Nat → Int32)).getD i (fun _ => 0)), (fun i => ([] : List (Nat → Int64)).getD i (fun _ => 0)), (fun i => ([] : List (Int64)).getD i 0)) ⟨(show u_9.2.1 0 ≤ 600 by omega), (show u_9.2.1 1 ≤ 600 by omega), (show dslugs ≤ 4 by omega)⟩ (x_B hP hD) dX4_readTarget_36
  · skip
    refine lv_iconst (v := 0) hx hb dX4_readTarget_16 (by decide) ?_
    exact x_retz S hr hlk hQ hS rfl ((fun i => ([(u_3.1 0), (u_3.1 1), (u_3.1 2), (u_3.1 3), (u_3.1 4)] : List (Int32)).getD i 0), (fun i => ([u_3.2.1 0, u_3.2.1 1, dslugs] : List (Nat)).getD i 0), (fun i => ([f23, f24, f25] : List (Nat → Int32)).getD i (fun _ => 0)), (fun i => ([] : List (Nat → Int64)).getD i (fun _ => 0)), (fun i => ([] : List (Int64)).getD i 0)) ⟨(show u_3.2.1 0 ≤ 600 by omega), (show u_3.2.1 1 ≤ 600 by omega), (show dslugs ≤ 4 by omega)⟩ (x_B hP hD) dX4_readTarget_17

set_option maxHeartbeats 4000000 in
set_option maxRecDepth 100000 in
theorem ctX4_readTarget_1 (l : Launch) (D : va_G) (k : Nat → ClassId) (z : Nat → Nat) (o : Nat → Nat) (rfault : Int32) (rplace : Int32) (rkind : Int32) (rvalue : Int32) (rnumber : Int32) (rsize : Nat) (rstart : Nat) (rnext : Nat) (f15 : Nat → Int32) (dlines : Int32) (dhours : Nat) (dlaw : Int32) (dodds : Int32) (drows : Nat) (dheads : Nat) (dsayings : Nat) (dslugs : Nat) (dacts : Nat) (f23 : Nat → Int32) (f24 : Nat → Int32) (f25 : Nat → Int32) (p1 : Int32) (hrsize : rsize ≤ 600) (hrstart : rstart ≤ 600) (hrnext : rnext ≤ 600) (hdhours : dhours ≤ 16) (hdrows : drows ≤ 4) (hdheads : dheads ≤ 12) (hdsayings : dsayings ≤ 8) (hdslugs : dslugs ≤ 4) (hdacts : dacts ≤ 30) (hsa : dsayings < 8) (hne : ¬ p1 = 0) : MU l yX4_readTarget cX4_readTarget 4 (some .boolean) 6 D k z [.ref (o 1), .ref (o 2), .int p1] [((o 1), .inr (4, [.ref (o 15), .int (nI rsize), .int rfault, .int rplace, .int rkind, .int (nI rstart), .int (nI rnext), .int rvalue, .int rnumber])), ((o 15), .inl (k 1, 600, .inl f15)), ((o 2), .inr (2, [.int dlines, .int (nI dhours), .int dlaw, .int dodds, .int (nI drows), .int (nI dheads), .int (nI dsayings), .int (nI dslugs), .int (nI dacts), .ref (o 16), .ref (o 17), .ref (o 18), .ref (o 19), .ref (o 20), .ref (o 21), .ref (o 22), .ref (o 23), .ref (o 24), .ref (o 25)])), ((o 23), .inl (k 0, 42, .inl f23)), ((o 24), .inl (k 0, 42, .inl f24)), ((o 25), .inl (k 0, 42, .inl f25))] 0 0 (Ui D (fun (r : Int32) (u : (Nat → Int32) × (Nat → Nat) × (Nat → Nat → Int32) × (Nat → Nat → Int64) × (Nat → Int64)) => (u.2.1 0 ≤ 600) ∧ (u.2.1 1 ≤ 600) ∧ (u.2.1 2 ≤ 8)) (fun u : (Nat → Int32) × (Nat → Nat) × (Nat → Nat → Int32) × (Nat → Nat → Int64) × (Nat → Int64) => [((o 1), .inr (4, [.ref (o 15), .int (nI rsize), .int (u.1 0), .int (u.1 1), .int (u.1 2), .int (nI (u.2.1 0)), .int (nI (u.2.1 1)), .int (u.1 3), .int (u.1 4)])), ((o 15), .inl (k 1, 600, .inl f15)), ((o 2), .inr (2, [.int dlines, .int (nI dhours), .int dlaw, .int dodds, .int (nI drows), .int (nI dheads), .int (nI (u.2.1 2)), .int (nI dslugs), .int (nI dacts), .ref (o 16), .ref (o 17), .ref (o 18), .ref (o 19), .ref (o 20), .ref (o 21), .ref (o 22), .ref (o 23), .ref (o 24), .ref (o 25)])), ((o 23), .inl (k 0, 42, .inl (u.2.2.1 0))), ((o 24), .inl (k 0, 42, .inl (u.2.2.1 1))), ((o 25), .inl (k 0, 42, .inl (u.2.2.1 2)))])) := by
  refine MU.of (by decide) (Nat.le_of_ble_eq_true rfl) ?_
  intro p e s m below meth c ls A args Q S hr hlk hnm hQ hK hP hD hZ hA hS hl
  have hx := S.1
  have hb := S.2.1
  have hl : lv_has ls 4 [(0, .ref (o 1)), (1, .ref (o 2)), (2, .int p1)] := hl
  refine lv_aload_n hx hb dX4_readTarget_0 rfl (lv_at hl 0 rfl) ?_
  refine x_ldcS S hZ lsX4_137 dX4_readTarget_1 ?_
  refine lv_iconst (v := 0) hx hb dX4_readTarget_3 (by decide) ?_
  refine lv_aload_n hx hb dX4_readTarget_4 rfl (lv_at hl 1 rfl) ?_
  refine x_get S hK hP 2 rfl cfX2 5 lkX4_119 (by decide) rfl dX4_readTarget_5 ?_
  refine lv_iconst (v := 1) hx hb dX4_readTarget_8 (by decide) ?_
  refine lv_isub hx hb dX4_readTarget_9 ?_
  refine lv_topi (fun v_1 ev_1 => ?_)
  refine x_muVi (wr := [((o 2), .inr (2, [.int dlines, .int (nI dhours), .int dlaw, .int dodds, .int (nI drows), .int (nI dheads), .int (nI dsayings), .int (nI dslugs), .int (nI dacts), .ref (o 16), .ref (o 17), .ref (o 18), .ref (o 19), .ref (o 20), .ref (o 21), .ref (o 22), .ref (o 23), .ref (o 24), .ref (o 25)])), ((o 23), .inl (k 0, 42, .inl f23)), ((o 24), .inl (k 0, 42, .inl f24)), ((o 25), .inl (k 0, 42, .inl f25))]) (As := [.ref (z 9), .int 0, .int v_1]) S hK hP hD hZ hS hA hl mwX4_takeNumber lkX4_86 (ctX4_takeNumber l D k z o rfault rplace rkind rvalue rnumber rsize rstart rnext f15 9 0 v_1 (by omega) (by omega) (by omega) (by omega)) [0, 1] [2, 3, 4, 5] rfl rfl (by decide) (by decide) (by decide) rfl rfl rfl rfl rfl ⟨Nat.le_of_ble_eq_true rfl, Nat.le_of_ble_eq_true rfl, Nat.le_of_ble_eq_true rfl⟩ dX4_readTarget_10 ⟨Nat.le_of_ble_eq_true rfl, Nat.le_of_ble_eq_true rfl⟩ (fun r_2 u_3 H locs hr_2 hP hD hS => ?_)
  have hP : va_P D vwCl [((o 1), .inr (4, [.ref (o 15), .int (nI rsize), .int (u_3.1 0), .int (u_3.1 1), .int (u_3.1 2), .int (nI (u_3.2.1 0)), .int (nI (u_3.2.1 1)), .int (u_3.1 3), .int (u_3.1 4)])), ((o 15), .inl (k 1, 600, .inl f15)), ((o 2), .inr (2, [.int dlines, .int (nI dhours), .int dlaw, .int dodds, .int (nI drows), .int (nI dheads), .int (nI dsayings), .int (nI dslugs), .int (nI dacts), .ref (o 16), .ref (o 17), .ref (o 18), .ref (o 19), .ref (o 20), .ref (o 21), .ref (o 22), .ref (o 23), .ref (o 24), .ref (o 25)])), ((o 23), .inl (k 0, 42, .inl f23)), ((o 24), .inl (k 0, 42, .inl f24)), ((o 25), .inl (k 0, 42, .inl f25))] H := hP.sub [4, 5, 0, 1, 2, 3] rfl
  have hD : va_D A [((o 1), .inr (4, [.ref (o 15), .int (nI rsize), .int (u_3.1 0), .int (u_3.1 1), .int (u_3.1 2), .int (nI (u_3.2.1 0)), .int (nI (u_3.2.1 1)), .int (u_3.1 3), .int (u_3.1 4)])), ((o 15), .inl (k 1, 600, .inl f15)), ((o 2), .inr (2, [.int dlines, .int (nI dhours), .int dlaw, .int dodds, .int (nI drows), .int (nI dheads), .int (nI dsayings), .int (nI dslugs), .int (nI dacts), .ref (o 16), .ref (o 17), .ref (o 18), .ref (o 19), .ref (o 20), .ref (o 21), .ref (o 22), .ref (o 23), .ref (o 24), .ref (o 25)])), ((o 23), .inl (k 0, 42, .inl f23)), ((o 24), .inl (k 0, 42, .inl f24)), ((o 25), .inl (k 0, 42, .inl f25))] := hD.sub [4, 5, 0, 1, 2, 3] (by decide) rfl
  obtain ⟨hp_4, hg_5, hg_6⟩ := hr_2
  refine lv_if_ne (tgt := 18) hx hb dX4_readTarget_13 (by decide) (fun c_7 => ?_) (fun c_7 => ?_)
  · skip
    refine lv_aload_n hx hb dX4_readTarget_18 rfl (lv_at hl 0 rfl) ?_
    refine x_get S hK hP 0 rfl cfX4 8 lkX4_90 (by decide) rfl dX4_readTarget_19 ?_
    refine lv_istore_n (lv' := [(3, .int (u_3.1 4)), (0, .ref (o 1)), (1, .ref (o 2)), (2, .int p1)]) hx hb dX4_readTarget_22 rfl hl (by decide) rfl (fun ls hl => ?_)
    refine lv_aload_n hx hb dX4_readTarget_23 rfl (lv_at hl 1 rfl) ?_
    refine x_ldcS S hZ lsX4_139 dX4_readTarget_24 ?_
    refine lv_iconst (v := 0) hx hb dX4_readTarget_26 (by decide) ?_
    refine lv_bipush (v := 15) hx hb dX4_readTarget_27 (by decide) ?_
    refine x_muVi (wr := [((o 2), .inr (2, [.int dlines, .int (nI dhours), .int dlaw, .int dodds, .int (nI drows), .int (nI dheads), .int (nI dsayings), .int (nI dslugs), .int (nI dacts), .ref (o 16), .ref (o 17), .ref (o 18), .ref (o 19), .ref (o 20), .ref (o 21), .ref (o 22), .ref (o 23), .ref (o 24), .ref (o 25)])), ((o 23), .inl (k 0, 42, .inl f23)), ((o 24), .inl (k 0, 42, .inl f24)), ((o 25), .inl (k 0, 42, .inl f25))]) (As := [.ref (z 10), .int 0, .int 15]) S hK hP hD hZ hS hA hl mwX4_takeNumber lkX4_86 (ctX4_takeNumber l D k z o (u_3.1 0) (u_3.1 1) (u_3.1 2) (u_3.1 3) (u_3.1 4) rsize (u_3.2.1 0) (u_3.2.1 1) f15 10 0 15 (by omega) (by omega) (by omega) (by omega)) [0, 1] [2, 3, 4, 5] rfl rfl (by decide) (by decide) (by decide) rfl rfl rfl rfl rfl ⟨Nat.le_of_ble_eq_true rfl, Nat.le_of_ble_eq_true rfl, Nat.le_of_ble_eq_true rfl⟩ dX4_readTarget_29 ⟨Nat.le_of_ble_eq_true rfl, Nat.le_of_ble_eq_true rfl⟩ (fun r_8 u_9 H locs hr_8 hP hD hS => ?_)
    have hP : va_P D vwCl [((o 1), .inr (4, [.ref (o 15), .int (nI rsize), .int (u_9.1 0), .int (u_9.1 1), .int (u_9.1 2), .int (nI (u_9.2.1 0)), .int (nI (u_9.2.1 1)), .int (u_9.1 3), .int (u_9.1 4)])), ((o 15), .inl (k 1, 600, .inl f15)), ((o 2), .inr (2, [.int dlines, .int (nI dhours), .int dlaw, .int dodds, .int (nI drows), .int (nI dheads), .int (nI dsayings), .int (nI dslugs), .int (nI dacts), .ref (o 16), .ref (o 17), .ref (o 18), .ref (o 19), .ref (o 20), .ref (o 21), .ref (o 22), .ref (o 23), .ref (o 24), .ref (o 25)])), ((o 23), .inl (k 0, 42, .inl f23)), ((o 24), .inl (k 0, 42, .inl f24)), ((o 25), .inl (k 0, 42, .inl f25))] H := hP.sub [4, 5, 0, 1, 2, 3] rfl
    have hD : va_D A [((o 1), .inr (4, [.ref (o 15), .int (nI rsize), .int (u_9.1 0), .int (u_9.1 1), .int (u_9.1 2), .int (nI (u_9.2.1 0)), .int (nI (u_9.2.1 1)), .int (u_9.1 3), .int (u_9.1 4)])), ((o 15), .inl (k 1, 600, .inl f15)), ((o 2), .inr (2, [.int dlines, .int (nI dhours), .int dlaw, .int dodds, .int (nI drows), .int (nI dheads), .int (nI dsayings), .int (nI dslugs), .int (nI dacts), .ref (o 16), .ref (o 17), .ref (o 18), .ref (o 19), .ref (o 20), .ref (o 21), .ref (o 22), .ref (o 23), .ref (o 24), .ref (o 25)])), ((o 23), .inl (k 0, 42, .inl f23)), ((o 24), .inl (k 0, 42, .inl f24)), ((o 25), .inl (k 0, 42, .inl f25))] := hD.sub [4, 5, 0, 1, 2, 3] (by decide) rfl
    obtain ⟨hp_10, hg_11, hg_12⟩ := hr_8
    refine lv_if_ne (tgt := 37) hx hb dX4_readTarget_32 (by decide) (fun c_13 => ?_) (fun c_13 => ?_)
    · skip
      refine lv_aload_n hx hb dX4_readTarget_37 rfl (lv_at hl 2 rfl) ?_
      refine lv_iload_n hx hb dX4_readTarget_38 rfl (lv_at hl 3 rfl) ?_
      refine lv_iload_n hx hb dX4_readTarget_39 rfl (lv_at hl 0 rfl) ?_
      refine lv_aload_n hx hb dX4_readTarget_40 rfl (lv_at hl 1 rfl) ?_
      refine x_get S hK hP 0 rfl cfX4 8 lkX4_90 (by decide) rfl dX4_readTarget_41 ?_
      refine x_muVv (wr := [((o 1), .inr (4, [.ref (o 15), .int (nI rsize), .int (u_9.1 0), .int (u_9.1 1), .int (u_9.1 2), .int (nI (u_9.2.1 0)), .int (nI (u_9.2.1 1)), .int (u_9.1 3), .int (u_9.1 4)])), ((o 15), .inl (k 1, 600, .inl f15))]) (As := [.int p1, .int (u_3.1 4), .int (u_9.1 4)]) S hK hP hD hZ hS hA hl mwX2_tellEvent lkX4_141 (ctX2_tellEvent_1 l D k z o dlines dhours dlaw dodds drows dheads dsayings dslugs dacts f23 f24 f25 p1 (u_3.1 4) (u_9.1 4) (by omega) (by omega) (by omega) (by omega) (by omega) (by omega) (by omega) (hne)) [2, 3, 4, 5] [0, 1] rfl rfl (by decide) (by decide) (by decide) rfl rfl rfl rfl rfl ⟨Nat.le_of_ble_eq_true rfl, Nat.le_of_ble_eq_true rfl, Nat.le_of_ble_eq_true rfl⟩ dX4_readTarget_44 ⟨Nat.le_of_ble_eq_true rfl, Nat.le_of_ble_eq_true rfl⟩ (fun u_15 H locs hr_14 hP hD hS => ?_)
      have hP : va_P D vwCl [((o 1), .inr (4, [.ref (o 15), .int (nI rsize), .int (u_9.1 0), .int (u_9.1 1), .int (u_9.1 2), .int (nI (u_9.2.1 0)), .int (nI (u_9.2.1 1)), .int (u_9.1 3), .int (u_9.1 4)])), ((o 15), .inl (k 1, 600, .inl f15)), ((o 2), .inr (2, [.int dlines, .int (nI dhours), .int dlaw, .int dodds, .int (nI drows), .int (nI dheads), .int (nI (u_15.2.1 0)), .int (nI dslugs), .int (nI dacts), .ref (o 16), .ref (o 17), .ref (o 18), .ref (o 19), .ref (o 20), .ref (o 21), .ref (o 22), .ref (o 23), .ref (o 24), .ref (o 25)])), ((o 23), .inl (k 0, 42, .inl (u_15.2.2.1 0))), ((o 24), .inl (k 0, 42, .inl (u_15.2.2.1 1))), ((o 25), .inl (k 0, 42, .inl (u_15.2.2.1 2)))] H := hP.sub [0, 1, 2, 3, 4, 5] rfl
      have hD : va_D A [((o 1), .inr (4, [.ref (o 15), .int (nI rsize), .int (u_9.1 0), .int (u_9.1 1), .int (u_9.1 2), .int (nI (u_9.2.1 0)), .int (nI (u_9.2.1 1)), .int (u_9.1 3), .int (u_9.1 4)])), ((o 15), .inl (k 1, 600, .inl f15)), ((o 2), .inr (2, [.int dlines, .int (nI dhours), .int dlaw, .int dodds, .int (nI drows), .int (nI dheads), .int (nI (u_15.2.1 0)), .int (nI dslugs), .int (nI dacts), .ref (o 16), .ref (o 17), .ref (o 18), .ref (o 19), .ref (o 20), .ref (o 21), .ref (o 22), .ref (o 23), .ref (o 24), .ref (o 25)])), ((o 23), .inl (k 0, 42, .inl (u_15.2.2.1 0))), ((o 24), .inl (k 0, 42, .inl (u_15.2.2.1 1))), ((o 25), .inl (k 0, 42, .inl (u_15.2.2.1 2)))] := hD.sub [0, 1, 2, 3, 4, 5] (by decide) rfl
      have hg_16 := hr_14
      refine lv_iconst (v := 1) hx hb dX4_readTarget_47 (by decide) ?_
      exact x_retz S hr hlk hQ hS rfl ((fun i => ([(u_9.1 0), (u_9.1 1), (u_9.1 2), (u_9.1 3), (u_9.1 4)] : List (Int32)).getD i 0), (fun i => ([u_9.2.1 0, u_9.2.1 1, u_15.2.1 0] : List (Nat)).getD i 0), (fun i => ([(u_15.2.2.1 0), (u_15.2.2.1 1), (u_15.2.2.1 2)] : List (Nat → Int32)).getD i (fun _ => 0)), (fun i => ([] : List (Nat → Int64)).getD i (fun _ => 0)), (fun i => ([] : List (Int64)).getD i 0)) ⟨(show u_9.2.1 0 ≤ 600 by omega), (show u_9.2.1 1 ≤ 600 by omega), (show u_15.2.1 0 ≤ 8 by omega)⟩ (x_B hP hD) dX4_readTarget_48
    · skip
      refine lv_iconst (v := 0) hx hb dX4_readTarget_35 (by decide) ?_
      exact x_retz S hr hlk hQ hS rfl ((fun i => ([(u_9.1 0), (u_9.1 1), (u_9.1 2), (u_9.1 3), (u_9.1 4)] : List (Int32)).getD i 0), (fun i => ([u_9.2.1 0, u_9.2.1 1, dsayings] : List (Nat)).getD i 0), (fun i => ([f23, f24, f25] : List (Nat → Int32)).getD i (fun _ => 0)), (fun i => ([] : List (Nat → Int64)).getD i (fun _ => 0)), (fun i => ([] : List (Int64)).getD i 0)) ⟨(show u_9.2.1 0 ≤ 600 by omega), (show u_9.2.1 1 ≤ 600 by omega), (show dsayings ≤ 8 by omega)⟩ (x_B hP hD) dX4_readTarget_36
  · skip
    refine lv_iconst (v := 0) hx hb dX4_readTarget_16 (by decide) ?_
    exact x_retz S hr hlk hQ hS rfl ((fun i => ([(u_3.1 0), (u_3.1 1), (u_3.1 2), (u_3.1 3), (u_3.1 4)] : List (Int32)).getD i 0), (fun i => ([u_3.2.1 0, u_3.2.1 1, dsayings] : List (Nat)).getD i 0), (fun i => ([f23, f24, f25] : List (Nat → Int32)).getD i (fun _ => 0)), (fun i => ([] : List (Nat → Int64)).getD i (fun _ => 0)), (fun i => ([] : List (Int64)).getD i 0)) ⟨(show u_3.2.1 0 ≤ 600 by omega), (show u_3.2.1 1 ≤ 600 by omega), (show dsayings ≤ 8 by omega)⟩ (x_B hP hD) dX4_readTarget_17

set_option maxHeartbeats 4000000 in
set_option maxRecDepth 100000 in
theorem ctX4_readSay (l : Launch) (D : va_G) (k : Nat → ClassId) (z : Nat → Nat) (o : Nat → Nat) (rfault : Int32) (rplace : Int32) (rkind : Int32) (rvalue : Int32) (rnumber : Int32) (rsize : Nat) (rstart : Nat) (rnext : Nat) (f15 : Nat → Int32) (dlines : Int32) (dhours : Nat) (dlaw : Int32) (dodds : Int32) (drows : Nat) (dheads : Nat) (dsayings : Nat) (dslugs : Nat) (dacts : Nat) (f23 : Nat → Int32) (f24 : Nat → Int32) (f25 : Nat → Int32) (hrsize : rsize ≤ 600) (hrstart : rstart ≤ 600) (hrnext : rnext ≤ 600) (hdhours : dhours ≤ 16) (hdrows : drows ≤ 4) (hdheads : dheads ≤ 12) (hdsayings : dsayings ≤ 8) (hdslugs : dslugs ≤ 4) (hdacts : dacts ≤ 30) : MU l yX4_readSay cX4_readSay 2 (some .boolean) 7 D k z [.ref (o 1), .ref (o 2)] [((o 1), .inr (4, [.ref (o 15), .int (nI rsize), .int rfault, .int rplace, .int rkind, .int (nI rstart), .int (nI rnext), .int rvalue, .int rnumber])), ((o 15), .inl (k 1, 600, .inl f15)), ((o 2), .inr (2, [.int dlines, .int (nI dhours), .int dlaw, .int dodds, .int (nI drows), .int (nI dheads), .int (nI dsayings), .int (nI dslugs), .int (nI dacts), .ref (o 16), .ref (o 17), .ref (o 18), .ref (o 19), .ref (o 20), .ref (o 21), .ref (o 22), .ref (o 23), .ref (o 24), .ref (o 25)])), ((o 23), .inl (k 0, 42, .inl f23)), ((o 24), .inl (k 0, 42, .inl f24)), ((o 25), .inl (k 0, 42, .inl f25))] 0 0 (Ui D (fun (r : Int32) (u : (Nat → Int32) × (Nat → Nat) × (Nat → Nat → Int32) × (Nat → Nat → Int64) × (Nat → Int64)) => (u.2.1 0 ≤ 600) ∧ (u.2.1 1 ≤ 600) ∧ (u.2.1 2 ≤ 8)) (fun u : (Nat → Int32) × (Nat → Nat) × (Nat → Nat → Int32) × (Nat → Nat → Int64) × (Nat → Int64) => [((o 1), .inr (4, [.ref (o 15), .int (nI rsize), .int (u.1 0), .int (u.1 1), .int (u.1 2), .int (nI (u.2.1 0)), .int (nI (u.2.1 1)), .int (u.1 3), .int (u.1 4)])), ((o 15), .inl (k 1, 600, .inl f15)), ((o 2), .inr (2, [.int dlines, .int (nI dhours), .int dlaw, .int dodds, .int (nI drows), .int (nI dheads), .int (nI (u.2.1 2)), .int (nI dslugs), .int (nI dacts), .ref (o 16), .ref (o 17), .ref (o 18), .ref (o 19), .ref (o 20), .ref (o 21), .ref (o 22), .ref (o 23), .ref (o 24), .ref (o 25)])), ((o 23), .inl (k 0, 42, .inl (u.2.2.1 0))), ((o 24), .inl (k 0, 42, .inl (u.2.2.1 1))), ((o 25), .inl (k 0, 42, .inl (u.2.2.1 2)))])) := by
  refine MU.of (by decide) (Nat.le_of_ble_eq_true rfl) ?_
  intro p e s m below meth c ls A args Q S hr hlk hnm hQ hK hP hD hZ hA hS hl
  have hx := S.1
  have hb := S.2.1
  have hl : lv_has ls 2 [(0, .ref (o 1)), (1, .ref (o 2))] := hl
  refine lv_aload_n hx hb dX4_readSay_0 rfl (lv_at hl 1 rfl) ?_
  refine x_get S hK hP 2 rfl cfX2 6 lkX4_128 (by decide) rfl dX4_readSay_1 ?_
  refine lv_bipush (v := 8) hx hb dX4_readSay_4 (by decide) ?_
  refine lv_icmp_lt (tgt := 15) hx hb dX4_readSay_6 (by decide) (fun c_1 => ?_) (fun c_1 => ?_)
  · skip
    have c_1 : dsayings < 8 := (ni_lt rfl (by decide) (by omega) (by omega)).mp c_1
    refine lv_aload_n hx hb dX4_readSay_15 rfl (lv_at hl 0 rfl) ?_
    refine x_ldcS S hZ lsX4_61 dX4_readSay_16 ?_
    refine lv_iconst (v := 1) hx hb dX4_readSay_18 (by decide) ?_
    refine lv_iconst (v := 2) hx hb dX4_readSay_19 (by decide) ?_
    refine x_muVi (wr := [((o 2), .inr (2, [.int dlines, .int (nI dhours), .int dlaw, .int dodds, .int (nI drows), .int (nI dheads), .int (nI dsayings), .int (nI dslugs), .int (nI dacts), .ref (o 16), .ref (o 17), .ref (o 18), .ref (o 19), .ref (o 20), .ref (o 21), .ref (o 22), .ref (o 23), .ref (o 24), .ref (o 25)])), ((o 23), .inl (k 0, 42, .inl f23)), ((o 24), .inl (k 0, 42, .inl f24)), ((o 25), .inl (k 0, 42, .inl f25))]) (As := [.ref (z 7), .int 1, .int 2]) S hK hP hD hZ hS hA hl mwX4_takeNumber lkX4_86 (ctX4_takeNumber l D k z o rfault rplace rkind rvalue rnumber rsize rstart rnext f15 7 1 2 (by omega) (by omega) (by omega) (by omega)) [0, 1] [2, 3, 4, 5] rfl rfl (by decide) (by decide) (by decide) rfl rfl rfl rfl rfl ⟨Nat.le_of_ble_eq_true rfl, Nat.le_of_ble_eq_true rfl, Nat.le_of_ble_eq_true rfl⟩ dX4_readSay_20 ⟨Nat.le_of_ble_eq_true rfl, Nat.le_of_ble_eq_true rfl⟩ (fun r_2 u_3 H locs hr_2 hP hD hS => ?_)
    have hP : va_P D vwCl [((o 1), .inr (4, [.ref (o 15), .int (nI rsize), .int (u_3.1 0), .int (u_3.1 1), .int (u_3.1 2), .int (nI (u_3.2.1 0)), .int (nI (u_3.2.1 1)), .int (u_3.1 3), .int (u_3.1 4)])), ((o 15), .inl (k 1, 600, .inl f15)), ((o 2), .inr (2, [.int dlines, .int (nI dhours), .int dlaw, .int dodds, .int (nI drows), .int (nI dheads), .int (nI dsayings), .int (nI dslugs), .int (nI dacts), .ref (o 16), .ref (o 17), .ref (o 18), .ref (o 19), .ref (o 20), .ref (o 21), .ref (o 22), .ref (o 23), .ref (o 24), .ref (o 25)])), ((o 23), .inl (k 0, 42, .inl f23)), ((o 24), .inl (k 0, 42, .inl f24)), ((o 25), .inl (k 0, 42, .inl f25))] H := hP.sub [4, 5, 0, 1, 2, 3] rfl
    have hD : va_D A [((o 1), .inr (4, [.ref (o 15), .int (nI rsize), .int (u_3.1 0), .int (u_3.1 1), .int (u_3.1 2), .int (nI (u_3.2.1 0)), .int (nI (u_3.2.1 1)), .int (u_3.1 3), .int (u_3.1 4)])), ((o 15), .inl (k 1, 600, .inl f15)), ((o 2), .inr (2, [.int dlines, .int (nI dhours), .int dlaw, .int dodds, .int (nI drows), .int (nI dheads), .int (nI dsayings), .int (nI dslugs), .int (nI dacts), .ref (o 16), .ref (o 17), .ref (o 18), .ref (o 19), .ref (o 20), .ref (o 21), .ref (o 22), .ref (o 23), .ref (o 24), .ref (o 25)])), ((o 23), .inl (k 0, 42, .inl f23)), ((o 24), .inl (k 0, 42, .inl f24)), ((o 25), .inl (k 0, 42, .inl f25))] := hD.sub [4, 5, 0, 1, 2, 3] (by decide) rfl
    obtain ⟨hp_4, hg_5, hg_6⟩ := hr_2
    refine lv_if_eq (tgt := 42) hx hb dX4_readSay_23 (by decide) (fun c_7 => ?_) (fun c_7 => ?_)
    · skip
      refine lv_iconst (v := 0) hx hb dX4_readSay_42 (by decide) ?_
      exact x_retz S hr hlk hQ hS rfl ((fun i => ([(u_3.1 0), (u_3.1 1), (u_3.1 2), (u_3.1 3), (u_3.1 4)] : List (Int32)).getD i 0), (fun i => ([u_3.2.1 0, u_3.2.1 1, dsayings] : List (Nat)).getD i 0), (fun i => ([f23, f24, f25] : List (Nat → Int32)).getD i (fun _ => 0)), (fun i => ([] : List (Nat → Int64)).getD i (fun _ => 0)), (fun i => ([] : List (Int64)).getD i 0)) ⟨(show u_3.2.1 0 ≤ 600 by omega), (show u_3.2.1 1 ≤ 600 by omega), (show dsayings ≤ 8 by omega)⟩ (x_B hP hD) dX4_readSay_43
    · skip
      refine lv_aload_n hx hb dX4_readSay_26 rfl (lv_at hl 0 rfl) ?_
      refine lv_aload_n hx hb dX4_readSay_27 rfl (lv_at hl 1 rfl) ?_
      refine lv_aload_n hx hb dX4_readSay_28 rfl (lv_at hl 0 rfl) ?_
      refine x_get S hK hP 0 rfl cfX4 8 lkX4_90 (by decide) rfl dX4_readSay_29 ?_
      have hnn : ¬ (u_3.1 4) = 0 := ne0_1 ((hp_4).resolve_left c_7)
      refine x_muVi (wr := []) (As := [.ref (o 2), .int (u_3.1 4)]) S hK hP hD hZ hS hA hl mwX4_readTarget lkX4_131 (ctX4_readTarget_1 l D k z o (u_3.1 0) (u_3.1 1) (u_3.1 2) (u_3.1 3) (u_3.1 4) rsize (u_3.2.1 0) (u_3.2.1 1) f15 dlines dhours dlaw dodds drows dheads dsayings dslugs dacts f23 f24 f25 (u_3.1 4) (by omega) (by omega) (by omega) (by omega) (by omega) (by omega) (by omega) (by omega) (by omega) (by omega) (hnn)) [0, 1, 2, 3, 4, 5] [] rfl rfl (by decide) (by decide) (by decide) rfl rfl rfl rfl rfl ⟨Nat.le_of_ble_eq_true rfl, Nat.le_of_ble_eq_true rfl, Nat.le_of_ble_eq_true rfl⟩ dX4_readSay_32 ⟨Nat.le_of_ble_eq_true rfl, Nat.le_of_ble_eq_true rfl⟩ (fun r_8 u_9 H locs hr_8 hP hD hS => ?_)
      have hP : va_P D vwCl [((o 1), .inr (4, [.ref (o 15), .int (nI rsize), .int (u_9.1 0), .int (u_9.1 1), .int (u_9.1 2), .int (nI (u_9.2.1 0)), .int (nI (u_9.2.1 1)), .int (u_9.1 3), .int (u_9.1 4)])), ((o 15), .inl (k 1, 600, .inl f15)), ((o 2), .inr (2, [.int dlines, .int (nI dhours), .int dlaw, .int dodds, .int (nI drows), .int (nI dheads), .int (nI (u_9.2.1 2)), .int (nI dslugs), .int (nI dacts), .ref (o 16), .ref (o 17), .ref (o 18), .ref (o 19), .ref (o 20), .ref (o 21), .ref (o 22), .ref (o 23), .ref (o 24), .ref (o 25)])), ((o 23), .inl (k 0, 42, .inl (u_9.2.2.1 0))), ((o 24), .inl (k 0, 42, .inl (u_9.2.2.1 1))), ((o 25), .inl (k 0, 42, .inl (u_9.2.2.1 2)))] H := hP.sub [0, 1, 2, 3, 4, 5] rfl
      have hD : va_D A [((o 1), .inr (4, [.ref (o 15), .int (nI rsize), .int (u_9.1 0), .int (u_9.1 1), .int (u_9.1 2), .int (nI (u_9.2.1 0)), .int (nI (u_9.2.1 1)), .int (u_9.1 3), .int (u_9.1 4)])), ((o 15), .inl (k 1, 600, .inl f15)), ((o 2), .inr (2, [.int dlines, .int (nI dhours), .int dlaw, .int dodds, .int (nI drows), .int (nI dheads), .int (nI (u_9.2.1 2)), .int (nI dslugs), .int (nI dacts), .ref (o 16), .ref (o 17), .ref (o 18), .ref (o 19), .ref (o 20), .ref (o 21), .ref (o 22), .ref (o 23), .ref (o 24), .ref (o 25)])), ((o 23), .inl (k 0, 42, .inl (u_9.2.2.1 0))), ((o 24), .inl (k 0, 42, .inl (u_9.2.2.1 1))), ((o 25), .inl (k 0, 42, .inl (u_9.2.2.1 2)))] := hD.sub [0, 1, 2, 3, 4, 5] (by decide) rfl
      obtain ⟨hg_10, hg_11, hg_12⟩ := hr_8
      refine lv_if_eq (tgt := 42) hx hb dX4_readSay_35 (by decide) (fun c_13 => ?_) (fun c_13 => ?_)
      · skip
        refine lv_iconst (v := 0) hx hb dX4_readSay_42 (by decide) ?_
        exact x_retz S hr hlk hQ hS rfl ((fun i => ([(u_9.1 0), (u_9.1 1), (u_9.1 2), (u_9.1 3), (u_9.1 4)] : List (Int32)).getD i 0), (fun i => ([u_9.2.1 0, u_9.2.1 1, u_9.2.1 2] : List (Nat)).getD i 0), (fun i => ([(u_9.2.2.1 0), (u_9.2.2.1 1), (u_9.2.2.1 2)] : List (Nat → Int32)).getD i (fun _ => 0)), (fun i => ([] : List (Nat → Int64)).getD i (fun _ => 0)), (fun i => ([] : List (Int64)).getD i 0)) ⟨(show u_9.2.1 0 ≤ 600 by omega), (show u_9.2.1 1 ≤ 600 by omega), (show u_9.2.1 2 ≤ 8 by omega)⟩ (x_B hP hD) dX4_readSay_43
      · skip
        refine lv_iconst (v := 1) hx hb dX4_readSay_38 (by decide) ?_
        refine lv_goto (tgt := 43) hx hb dX4_readSay_39 (by decide) ?_
        exact x_retz S hr hlk hQ hS rfl ((fun i => ([(u_9.1 0), (u_9.1 1), (u_9.1 2), (u_9.1 3), (u_9.1 4)] : List (Int32)).getD i 0), (fun i => ([u_9.2.1 0, u_9.2.1 1, u_9.2.1 2] : List (Nat)).getD i 0), (fun i => ([(u_9.2.2.1 0), (u_9.2.2.1 1), (u_9.2.2.1 2)] : List (Nat → Int32)).getD i (fun _ => 0)), (fun i => ([] : List (Nat → Int64)).getD i (fun _ => 0)), (fun i => ([] : List (Int64)).getD i 0)) ⟨(show u_9.2.1 0 ≤ 600 by omega), (show u_9.2.1 1 ≤ 600 by omega), (show u_9.2.1 2 ≤ 8 by omega)⟩ (x_B hP hD) dX4_readSay_43
  · skip
    have c_1 : ¬ dsayings < 8 := fun q => c_1 ((ni_lt rfl (by decide) (by omega) (by omega)).mpr q)
    refine lv_aload_n hx hb dX4_readSay_9 rfl (lv_at hl 0 rfl) ?_
    refine lv_iconst (v := 3) hx hb dX4_readSay_10 (by decide) ?_
    refine x_muVi (wr := [((o 2), .inr (2, [.int dlines, .int (nI dhours), .int dlaw, .int dodds, .int (nI drows), .int (nI dheads), .int (nI dsayings), .int (nI dslugs), .int (nI dacts), .ref (o 16), .ref (o 17), .ref (o 18), .ref (o 19), .ref (o 20), .ref (o 21), .ref (o 22), .ref (o 23), .ref (o 24), .ref (o 25)])), ((o 23), .inl (k 0, 42, .inl f23)), ((o 24), .inl (k 0, 42, .inl f24)), ((o 25), .inl (k 0, 42, .inl f25))]) (As := [.int 3]) S hK hP hD hZ hS hA hl mwX4_refuse lkX4_71 (ctX4_refuse l D k z o rfault rplace rkind rvalue rnumber rsize rstart rnext f15 3 (by omega) (by omega) (by omega)) [0, 1] [2, 3, 4, 5] rfl rfl (by decide) (by decide) (by decide) rfl rfl rfl rfl rfl ⟨Nat.le_of_ble_eq_true rfl, Nat.le_of_ble_eq_true rfl, Nat.le_of_ble_eq_true rfl⟩ dX4_readSay_11 ⟨Nat.le_of_ble_eq_true rfl, Nat.le_of_ble_eq_true rfl⟩ (fun r_14 u_15 H locs hr_14 hP hD hS => ?_)
    have hP : va_P D vwCl [((o 1), .inr (4, [.ref (o 15), .int (nI rsize), .int (u_15.1 0), .int (u_15.1 1), .int rkind, .int (nI rstart), .int (nI rnext), .int rvalue, .int rnumber])), ((o 15), .inl (k 1, 600, .inl f15)), ((o 2), .inr (2, [.int dlines, .int (nI dhours), .int dlaw, .int dodds, .int (nI drows), .int (nI dheads), .int (nI dsayings), .int (nI dslugs), .int (nI dacts), .ref (o 16), .ref (o 17), .ref (o 18), .ref (o 19), .ref (o 20), .ref (o 21), .ref (o 22), .ref (o 23), .ref (o 24), .ref (o 25)])), ((o 23), .inl (k 0, 42, .inl f23)), ((o 24), .inl (k 0, 42, .inl f24)), ((o 25), .inl (k 0, 42, .inl f25))] H := hP.sub [4, 5, 0, 1, 2, 3] rfl
    have hD : va_D A [((o 1), .inr (4, [.ref (o 15), .int (nI rsize), .int (u_15.1 0), .int (u_15.1 1), .int rkind, .int (nI rstart), .int (nI rnext), .int rvalue, .int rnumber])), ((o 15), .inl (k 1, 600, .inl f15)), ((o 2), .inr (2, [.int dlines, .int (nI dhours), .int dlaw, .int dodds, .int (nI drows), .int (nI dheads), .int (nI dsayings), .int (nI dslugs), .int (nI dacts), .ref (o 16), .ref (o 17), .ref (o 18), .ref (o 19), .ref (o 20), .ref (o 21), .ref (o 22), .ref (o 23), .ref (o 24), .ref (o 25)])), ((o 23), .inl (k 0, 42, .inl f23)), ((o 24), .inl (k 0, 42, .inl f24)), ((o 25), .inl (k 0, 42, .inl f25))] := hD.sub [4, 5, 0, 1, 2, 3] (by decide) rfl
    obtain rfl := hr_14
    exact x_retz S hr hlk hQ hS rfl ((fun i => ([(u_15.1 0), (u_15.1 1), rkind, rvalue, rnumber] : List (Int32)).getD i 0), (fun i => ([rstart, rnext, dsayings] : List (Nat)).getD i 0), (fun i => ([f23, f24, f25] : List (Nat → Int32)).getD i (fun _ => 0)), (fun i => ([] : List (Nat → Int64)).getD i (fun _ => 0)), (fun i => ([] : List (Int64)).getD i 0)) ⟨(show rstart ≤ 600 by omega), (show rnext ≤ 600 by omega), (show dsayings ≤ 8 by omega)⟩ (x_B hP hD) dX4_readSay_14

set_option maxHeartbeats 4000000 in
set_option maxRecDepth 100000 in
theorem ctX4_readSlug (l : Launch) (D : va_G) (k : Nat → ClassId) (z : Nat → Nat) (o : Nat → Nat) (rfault : Int32) (rplace : Int32) (rkind : Int32) (rvalue : Int32) (rnumber : Int32) (rsize : Nat) (rstart : Nat) (rnext : Nat) (f15 : Nat → Int32) (dlines : Int32) (dhours : Nat) (dlaw : Int32) (dodds : Int32) (drows : Nat) (dheads : Nat) (dsayings : Nat) (dslugs : Nat) (dacts : Nat) (f23 : Nat → Int32) (f24 : Nat → Int32) (f25 : Nat → Int32) (hrsize : rsize ≤ 600) (hrstart : rstart ≤ 600) (hrnext : rnext ≤ 600) (hdhours : dhours ≤ 16) (hdrows : drows ≤ 4) (hdheads : dheads ≤ 12) (hdsayings : dsayings ≤ 8) (hdslugs : dslugs ≤ 4) (hdacts : dacts ≤ 30) : MU l yX4_readSlug cX4_readSlug 2 (some .boolean) 7 D k z [.ref (o 1), .ref (o 2)] [((o 1), .inr (4, [.ref (o 15), .int (nI rsize), .int rfault, .int rplace, .int rkind, .int (nI rstart), .int (nI rnext), .int rvalue, .int rnumber])), ((o 15), .inl (k 1, 600, .inl f15)), ((o 2), .inr (2, [.int dlines, .int (nI dhours), .int dlaw, .int dodds, .int (nI drows), .int (nI dheads), .int (nI dsayings), .int (nI dslugs), .int (nI dacts), .ref (o 16), .ref (o 17), .ref (o 18), .ref (o 19), .ref (o 20), .ref (o 21), .ref (o 22), .ref (o 23), .ref (o 24), .ref (o 25)])), ((o 23), .inl (k 0, 42, .inl f23)), ((o 24), .inl (k 0, 42, .inl f24)), ((o 25), .inl (k 0, 42, .inl f25))] 0 0 (Ui D (fun (r : Int32) (u : (Nat → Int32) × (Nat → Nat) × (Nat → Nat → Int32) × (Nat → Nat → Int64) × (Nat → Int64)) => (u.2.1 0 ≤ 600) ∧ (u.2.1 1 ≤ 600) ∧ (u.2.1 2 ≤ 4)) (fun u : (Nat → Int32) × (Nat → Nat) × (Nat → Nat → Int32) × (Nat → Nat → Int64) × (Nat → Int64) => [((o 1), .inr (4, [.ref (o 15), .int (nI rsize), .int (u.1 0), .int (u.1 1), .int (u.1 2), .int (nI (u.2.1 0)), .int (nI (u.2.1 1)), .int (u.1 3), .int (u.1 4)])), ((o 15), .inl (k 1, 600, .inl f15)), ((o 2), .inr (2, [.int dlines, .int (nI dhours), .int dlaw, .int dodds, .int (nI drows), .int (nI dheads), .int (nI dsayings), .int (nI (u.2.1 2)), .int (nI dacts), .ref (o 16), .ref (o 17), .ref (o 18), .ref (o 19), .ref (o 20), .ref (o 21), .ref (o 22), .ref (o 23), .ref (o 24), .ref (o 25)])), ((o 23), .inl (k 0, 42, .inl (u.2.2.1 0))), ((o 24), .inl (k 0, 42, .inl (u.2.2.1 1))), ((o 25), .inl (k 0, 42, .inl (u.2.2.1 2)))])) := by
  refine MU.of (by decide) (Nat.le_of_ble_eq_true rfl) ?_
  intro p e s m below meth c ls A args Q S hr hlk hnm hQ hK hP hD hZ hA hS hl
  have hx := S.1
  have hb := S.2.1
  have hl : lv_has ls 2 [(0, .ref (o 1)), (1, .ref (o 2))] := hl
  refine lv_aload_n hx hb dX4_readSlug_0 rfl (lv_at hl 1 rfl) ?_
  refine x_get S hK hP 2 rfl cfX2 7 lkX4_134 (by decide) rfl dX4_readSlug_1 ?_
  refine lv_iconst (v := 4) hx hb dX4_readSlug_4 (by decide) ?_
  refine lv_icmp_lt (tgt := 14) hx hb dX4_readSlug_5 (by decide) (fun c_1 => ?_) (fun c_1 => ?_)
  · skip
    have c_1 : dslugs < 4 := (ni_lt rfl (by decide) (by omega) (by omega)).mp c_1
    refine lv_aload_n hx hb dX4_readSlug_14 rfl (lv_at hl 0 rfl) ?_
    refine x_ldcS S hZ lsX4_66 dX4_readSlug_15 ?_
    refine x_muVi (wr := [((o 2), .inr (2, [.int dlines, .int (nI dhours), .int dlaw, .int dodds, .int (nI drows), .int (nI dheads), .int (nI dsayings), .int (nI dslugs), .int (nI dacts), .ref (o 16), .ref (o 17), .ref (o 18), .ref (o 19), .ref (o 20), .ref (o 21), .ref (o 22), .ref (o 23), .ref (o 24), .ref (o 25)])), ((o 23), .inl (k 0, 42, .inl f23)), ((o 24), .inl (k 0, 42, .inl f24)), ((o 25), .inl (k 0, 42, .inl f25))]) (As := [.ref (z 8)]) S hK hP hD hZ hS hA hl mwX4_takeWord lkX4_81 (ctX4_takeWord l D k z o rfault rplace rkind rvalue rnumber rsize rstart rnext f15 8 (by omega) (by omega) (by omega) (by omega)) [0, 1] [2, 3, 4, 5] rfl rfl (by decide) (by decide) (by decide) rfl rfl rfl rfl rfl ⟨Nat.le_of_ble_eq_true rfl, Nat.le_of_ble_eq_true rfl, Nat.le_of_ble_eq_true rfl⟩ dX4_readSlug_17 ⟨Nat.le_of_ble_eq_true rfl, Nat.le_of_ble_eq_true rfl⟩ (fun r_2 u_3 H locs hr_2 hP hD hS => ?_)
    have hP : va_P D vwCl [((o 1), .inr (4, [.ref (o 15), .int (nI rsize), .int (u_3.1 0), .int (u_3.1 1), .int (u_3.1 2), .int (nI (u_3.2.1 0)), .int (nI (u_3.2.1 1)), .int (u_3.1 3), .int rnumber])), ((o 15), .inl (k 1, 600, .inl f15)), ((o 2), .inr (2, [.int dlines, .int (nI dhours), .int dlaw, .int dodds, .int (nI drows), .int (nI dheads), .int (nI dsayings), .int (nI dslugs), .int (nI dacts), .ref (o 16), .ref (o 17), .ref (o 18), .ref (o 19), .ref (o 20), .ref (o 21), .ref (o 22), .ref (o 23), .ref (o 24), .ref (o 25)])), ((o 23), .inl (k 0, 42, .inl f23)), ((o 24), .inl (k 0, 42, .inl f24)), ((o 25), .inl (k 0, 42, .inl f25))] H := hP.sub [4, 5, 0, 1, 2, 3] rfl
    have hD : va_D A [((o 1), .inr (4, [.ref (o 15), .int (nI rsize), .int (u_3.1 0), .int (u_3.1 1), .int (u_3.1 2), .int (nI (u_3.2.1 0)), .int (nI (u_3.2.1 1)), .int (u_3.1 3), .int rnumber])), ((o 15), .inl (k 1, 600, .inl f15)), ((o 2), .inr (2, [.int dlines, .int (nI dhours), .int dlaw, .int dodds, .int (nI drows), .int (nI dheads), .int (nI dsayings), .int (nI dslugs), .int (nI dacts), .ref (o 16), .ref (o 17), .ref (o 18), .ref (o 19), .ref (o 20), .ref (o 21), .ref (o 22), .ref (o 23), .ref (o 24), .ref (o 25)])), ((o 23), .inl (k 0, 42, .inl f23)), ((o 24), .inl (k 0, 42, .inl f24)), ((o 25), .inl (k 0, 42, .inl f25))] := hD.sub [4, 5, 0, 1, 2, 3] (by decide) rfl
    obtain ⟨hg_4, hg_5⟩ := hr_2
    refine lv_if_eq (tgt := 36) hx hb dX4_readSlug_20 (by decide) (fun c_6 => ?_) (fun c_6 => ?_)
    · skip
      refine lv_iconst (v := 0) hx hb dX4_readSlug_36 (by decide) ?_
      exact x_retz S hr hlk hQ hS rfl ((fun i => ([(u_3.1 0), (u_3.1 1), (u_3.1 2), (u_3.1 3), rnumber] : List (Int32)).getD i 0), (fun i => ([u_3.2.1 0, u_3.2.1 1, dslugs] : List (Nat)).getD i 0), (fun i => ([f23, f24, f25] : List (Nat → Int32)).getD i (fun _ => 0)), (fun i => ([] : List (Nat → Int64)).getD i (fun _ => 0)), (fun i => ([] : List (Int64)).getD i 0)) ⟨(show u_3.2.1 0 ≤ 600 by omega), (show u_3.2.1 1 ≤ 600 by omega), (show dslugs ≤ 4 by omega)⟩ (x_B hP hD) dX4_readSlug_37
    · skip
      refine lv_aload_n hx hb dX4_readSlug_23 rfl (lv_at hl 0 rfl) ?_
      refine lv_aload_n hx hb dX4_readSlug_24 rfl (lv_at hl 1 rfl) ?_
      refine lv_iconst (v := 0) hx hb dX4_readSlug_25 (by decide) ?_
      refine x_muVi (wr := []) (As := [.ref (o 2), .int 0]) S hK hP hD hZ hS hA hl mwX4_readTarget lkX4_131 (ctX4_readTarget_0 l D k z o (u_3.1 0) (u_3.1 1) (u_3.1 2) (u_3.1 3) rnumber rsize (u_3.2.1 0) (u_3.2.1 1) f15 dlines dhours dlaw dodds drows dheads dsayings dslugs dacts f23 f24 f25 (by omega) (by omega) (by omega) (by omega) (by omega) (by omega) (by omega) (by omega) (by omega) (by omega)) [0, 1, 2, 3, 4, 5] [] rfl rfl (by decide) (by decide) (by decide) rfl rfl rfl rfl rfl ⟨Nat.le_of_ble_eq_true rfl, Nat.le_of_ble_eq_true rfl, Nat.le_of_ble_eq_true rfl⟩ dX4_readSlug_26 ⟨Nat.le_of_ble_eq_true rfl, Nat.le_of_ble_eq_true rfl⟩ (fun r_7 u_8 H locs hr_7 hP hD hS => ?_)
      have hP : va_P D vwCl [((o 1), .inr (4, [.ref (o 15), .int (nI rsize), .int (u_8.1 0), .int (u_8.1 1), .int (u_8.1 2), .int (nI (u_8.2.1 0)), .int (nI (u_8.2.1 1)), .int (u_8.1 3), .int (u_8.1 4)])), ((o 15), .inl (k 1, 600, .inl f15)), ((o 2), .inr (2, [.int dlines, .int (nI dhours), .int dlaw, .int dodds, .int (nI drows), .int (nI dheads), .int (nI dsayings), .int (nI (u_8.2.1 2)), .int (nI dacts), .ref (o 16), .ref (o 17), .ref (o 18), .ref (o 19), .ref (o 20), .ref (o 21), .ref (o 22), .ref (o 23), .ref (o 24), .ref (o 25)])), ((o 23), .inl (k 0, 42, .inl (u_8.2.2.1 0))), ((o 24), .inl (k 0, 42, .inl (u_8.2.2.1 1))), ((o 25), .inl (k 0, 42, .inl (u_8.2.2.1 2)))] H := hP.sub [0, 1, 2, 3, 4, 5] rfl
      have hD : va_D A [((o 1), .inr (4, [.ref (o 15), .int (nI rsize), .int (u_8.1 0), .int (u_8.1 1), .int (u_8.1 2), .int (nI (u_8.2.1 0)), .int (nI (u_8.2.1 1)), .int (u_8.1 3), .int (u_8.1 4)])), ((o 15), .inl (k 1, 600, .inl f15)), ((o 2), .inr (2, [.int dlines, .int (nI dhours), .int dlaw, .int dodds, .int (nI drows), .int (nI dheads), .int (nI dsayings), .int (nI (u_8.2.1 2)), .int (nI dacts), .ref (o 16), .ref (o 17), .ref (o 18), .ref (o 19), .ref (o 20), .ref (o 21), .ref (o 22), .ref (o 23), .ref (o 24), .ref (o 25)])), ((o 23), .inl (k 0, 42, .inl (u_8.2.2.1 0))), ((o 24), .inl (k 0, 42, .inl (u_8.2.2.1 1))), ((o 25), .inl (k 0, 42, .inl (u_8.2.2.1 2)))] := hD.sub [0, 1, 2, 3, 4, 5] (by decide) rfl
      obtain ⟨hg_9, hg_10, hg_11⟩ := hr_7
      refine lv_if_eq (tgt := 36) hx hb dX4_readSlug_29 (by decide) (fun c_12 => ?_) (fun c_12 => ?_)
      · skip
        refine lv_iconst (v := 0) hx hb dX4_readSlug_36 (by decide) ?_
        exact x_retz S hr hlk hQ hS rfl ((fun i => ([(u_8.1 0), (u_8.1 1), (u_8.1 2), (u_8.1 3), (u_8.1 4)] : List (Int32)).getD i 0), (fun i => ([u_8.2.1 0, u_8.2.1 1, u_8.2.1 2] : List (Nat)).getD i 0), (fun i => ([(u_8.2.2.1 0), (u_8.2.2.1 1), (u_8.2.2.1 2)] : List (Nat → Int32)).getD i (fun _ => 0)), (fun i => ([] : List (Nat → Int64)).getD i (fun _ => 0)), (fun i => ([] : List (Int64)).getD i 0)) ⟨(show u_8.2.1 0 ≤ 600 by omega), (show u_8.2.1 1 ≤ 600 by omega), (show u_8.2.1 2 ≤ 4 by omega)⟩ (x_B hP hD) dX4_readSlug_37
      · skip
        refine lv_iconst (v := 1) hx hb dX4_readSlug_32 (by decide) ?_
        refine lv_goto (tgt := 37) hx hb dX4_readSlug_33 (by decide) ?_
        exact x_retz S hr hlk hQ hS rfl ((fun i => ([(u_8.1 0), (u_8.1 1), (u_8.1 2), (u_8.1 3), (u_8.1 4)] : List (Int32)).getD i 0), (fun i => ([u_8.2.1 0, u_8.2.1 1, u_8.2.1 2] : List (Nat)).getD i 0), (fun i => ([(u_8.2.2.1 0), (u_8.2.2.1 1), (u_8.2.2.1 2)] : List (Nat → Int32)).getD i (fun _ => 0)), (fun i => ([] : List (Nat → Int64)).getD i (fun _ => 0)), (fun i => ([] : List (Int64)).getD i 0)) ⟨(show u_8.2.1 0 ≤ 600 by omega), (show u_8.2.1 1 ≤ 600 by omega), (show u_8.2.1 2 ≤ 4 by omega)⟩ (x_B hP hD) dX4_readSlug_37
  · skip
    have c_1 : ¬ dslugs < 4 := fun q => c_1 ((ni_lt rfl (by decide) (by omega) (by omega)).mpr q)
    refine lv_aload_n hx hb dX4_readSlug_8 rfl (lv_at hl 0 rfl) ?_
    refine lv_iconst (v := 3) hx hb dX4_readSlug_9 (by decide) ?_
    refine x_muVi (wr := [((o 2), .inr (2, [.int dlines, .int (nI dhours), .int dlaw, .int dodds, .int (nI drows), .int (nI dheads), .int (nI dsayings), .int (nI dslugs), .int (nI dacts), .ref (o 16), .ref (o 17), .ref (o 18), .ref (o 19), .ref (o 20), .ref (o 21), .ref (o 22), .ref (o 23), .ref (o 24), .ref (o 25)])), ((o 23), .inl (k 0, 42, .inl f23)), ((o 24), .inl (k 0, 42, .inl f24)), ((o 25), .inl (k 0, 42, .inl f25))]) (As := [.int 3]) S hK hP hD hZ hS hA hl mwX4_refuse lkX4_71 (ctX4_refuse l D k z o rfault rplace rkind rvalue rnumber rsize rstart rnext f15 3 (by omega) (by omega) (by omega)) [0, 1] [2, 3, 4, 5] rfl rfl (by decide) (by decide) (by decide) rfl rfl rfl rfl rfl ⟨Nat.le_of_ble_eq_true rfl, Nat.le_of_ble_eq_true rfl, Nat.le_of_ble_eq_true rfl⟩ dX4_readSlug_10 ⟨Nat.le_of_ble_eq_true rfl, Nat.le_of_ble_eq_true rfl⟩ (fun r_13 u_14 H locs hr_13 hP hD hS => ?_)
    have hP : va_P D vwCl [((o 1), .inr (4, [.ref (o 15), .int (nI rsize), .int (u_14.1 0), .int (u_14.1 1), .int rkind, .int (nI rstart), .int (nI rnext), .int rvalue, .int rnumber])), ((o 15), .inl (k 1, 600, .inl f15)), ((o 2), .inr (2, [.int dlines, .int (nI dhours), .int dlaw, .int dodds, .int (nI drows), .int (nI dheads), .int (nI dsayings), .int (nI dslugs), .int (nI dacts), .ref (o 16), .ref (o 17), .ref (o 18), .ref (o 19), .ref (o 20), .ref (o 21), .ref (o 22), .ref (o 23), .ref (o 24), .ref (o 25)])), ((o 23), .inl (k 0, 42, .inl f23)), ((o 24), .inl (k 0, 42, .inl f24)), ((o 25), .inl (k 0, 42, .inl f25))] H := hP.sub [4, 5, 0, 1, 2, 3] rfl
    have hD : va_D A [((o 1), .inr (4, [.ref (o 15), .int (nI rsize), .int (u_14.1 0), .int (u_14.1 1), .int rkind, .int (nI rstart), .int (nI rnext), .int rvalue, .int rnumber])), ((o 15), .inl (k 1, 600, .inl f15)), ((o 2), .inr (2, [.int dlines, .int (nI dhours), .int dlaw, .int dodds, .int (nI drows), .int (nI dheads), .int (nI dsayings), .int (nI dslugs), .int (nI dacts), .ref (o 16), .ref (o 17), .ref (o 18), .ref (o 19), .ref (o 20), .ref (o 21), .ref (o 22), .ref (o 23), .ref (o 24), .ref (o 25)])), ((o 23), .inl (k 0, 42, .inl f23)), ((o 24), .inl (k 0, 42, .inl f24)), ((o 25), .inl (k 0, 42, .inl f25))] := hD.sub [4, 5, 0, 1, 2, 3] (by decide) rfl
    obtain rfl := hr_13
    exact x_retz S hr hlk hQ hS rfl ((fun i => ([(u_14.1 0), (u_14.1 1), rkind, rvalue, rnumber] : List (Int32)).getD i 0), (fun i => ([rstart, rnext, dslugs] : List (Nat)).getD i 0), (fun i => ([f23, f24, f25] : List (Nat → Int32)).getD i (fun _ => 0)), (fun i => ([] : List (Nat → Int64)).getD i (fun _ => 0)), (fun i => ([] : List (Int64)).getD i 0)) ⟨(show rstart ≤ 600 by omega), (show rnext ≤ 600 by omega), (show dslugs ≤ 4 by omega)⟩ (x_B hP hD) dX4_readSlug_13

set_option maxHeartbeats 4000000 in
set_option maxRecDepth 100000 in
theorem ctX4_readHead (l : Launch) (D : va_G) (k : Nat → ClassId) (z : Nat → Nat) (o : Nat → Nat) (rfault : Int32) (rplace : Int32) (rkind : Int32) (rvalue : Int32) (rnumber : Int32) (rsize : Nat) (rstart : Nat) (rnext : Nat) (f15 : Nat → Int32) (dlines : Int32) (dhours : Nat) (dlaw : Int32) (dodds : Int32) (drows : Nat) (dheads : Nat) (dsayings : Nat) (dslugs : Nat) (dacts : Nat) (f16 : Nat → Int32) (f17 : Nat → Int32) (f18 : Nat → Int32) (f19 : Nat → Int32) (f22 : Nat → Int32) (p1 : Int32) (hrsize : rsize ≤ 600) (hrstart : rstart ≤ 600) (hrnext : rnext ≤ 600) (hdhours : dhours ≤ 16) (hdrows : drows ≤ 4) (hdheads : dheads ≤ 12) (hdsayings : dsayings ≤ 8) (hdslugs : dslugs ≤ 4) (hdacts : dacts ≤ 30) : MU l yX4_readHead cX4_readHead 5 (some .boolean) 6 D k z [.ref (o 1), .ref (o 2), .int p1] [((o 1), .inr (4, [.ref (o 15), .int (nI rsize), .int rfault, .int rplace, .int rkind, .int (nI rstart), .int (nI rnext), .int rvalue, .int rnumber])), ((o 15), .inl (k 1, 600, .inl f15)), ((o 2), .inr (2, [.int dlines, .int (nI dhours), .int dlaw, .int dodds, .int (nI drows), .int (nI dheads), .int (nI dsayings), .int (nI dslugs), .int (nI dacts), .ref (o 16), .ref (o 17), .ref (o 18), .ref (o 19), .ref (o 20), .ref (o 21), .ref (o 22), .ref (o 23), .ref (o 24), .ref (o 25)])), ((o 16), .inl (k 0, 12, .inl f16)), ((o 17), .inl (k 0, 12, .inl f17)), ((o 18), .inl (k 0, 12, .inl f18)), ((o 19), .inl (k 0, 12, .inl f19)), ((o 22), .inl (k 0, 4, .inl f22))] 0 0 (Ui D (fun (r : Int32) (u : (Nat → Int32) × (Nat → Nat) × (Nat → Nat → Int32) × (Nat → Nat → Int64) × (Nat → Int64)) => (u.2.1 0 ≤ 600) ∧ (u.2.1 1 ≤ 600) ∧ (u.2.1 2 ≤ 12)) (fun u : (Nat → Int32) × (Nat → Nat) × (Nat → Nat → Int32) × (Nat → Nat → Int64) × (Nat → Int64) => [((o 1), .inr (4, [.ref (o 15), .int (nI rsize), .int (u.1 0), .int (u.1 1), .int (u.1 2), .int (nI (u.2.1 0)), .int (nI (u.2.1 1)), .int (u.1 3), .int (u.1 4)])), ((o 15), .inl (k 1, 600, .inl f15)), ((o 2), .inr (2, [.int dlines, .int (nI dhours), .int dlaw, .int dodds, .int (nI drows), .int (nI (u.2.1 2)), .int (nI dsayings), .int (nI dslugs), .int (nI dacts), .ref (o 16), .ref (o 17), .ref (o 18), .ref (o 19), .ref (o 20), .ref (o 21), .ref (o 22), .ref (o 23), .ref (o 24), .ref (o 25)])), ((o 16), .inl (k 0, 12, .inl (u.2.2.1 0))), ((o 17), .inl (k 0, 12, .inl (u.2.2.1 1))), ((o 18), .inl (k 0, 12, .inl (u.2.2.1 2))), ((o 19), .inl (k 0, 12, .inl (u.2.2.1 3))), ((o 22), .inl (k 0, 4, .inl (u.2.2.1 4)))])) := by
  refine MU.of (by decide) (Nat.le_of_ble_eq_true rfl) ?_
  intro p e s m below meth c ls A args Q S hr hlk hnm hQ hK hP hD hZ hA hS hl
  have hx := S.1
  have hb := S.2.1
  have hl : lv_has ls 5 [(0, .ref (o 1)), (1, .ref (o 2)), (2, .int p1)] := hl
  refine lv_aload_n hx hb dX4_readHead_0 rfl (lv_at hl 0 rfl) ?_
  refine x_ldcS S hZ lsX4_113 dX4_readHead_1 ?_
  refine x_roVi (As := [.ref (z 5)]) S hK hP hD hZ (fun _ h => h) hA hS hA hl mwX4_isWord lkX4_54 (ctX4_isWord l D k z o rfault rplace rkind rvalue rnumber rsize rstart rnext f15 5 (by omega) (by omega) (by omega) (by omega)) [0, 1] rfl (by decide) rfl rfl rfl rfl rfl ⟨Nat.le_of_ble_eq_true rfl, Nat.le_of_ble_eq_true rfl, Nat.le_of_ble_eq_true rfl⟩ dX4_readHead_3 ⟨Nat.le_of_ble_eq_true rfl, Nat.le_of_ble_eq_true rfl⟩ (fun r_1 H locs hr_1 hP hS => ?_)
  refine lv_if_eq (tgt := 30) hx hb dX4_readHead_6 (by decide) (fun c_3 => ?_) (fun c_3 => ?_)
  · skip
    refine lv_aload_n hx hb dX4_readHead_30 rfl (lv_at hl 0 rfl) ?_
    refine x_ldcS S hZ lsX4_113 dX4_readHead_31 ?_
    refine lv_iconst (v := 1) hx hb dX4_readHead_33 (by decide) ?_
    refine lv_iconst (v := 4) hx hb dX4_readHead_34 (by decide) ?_
    refine x_muVi (wr := [((o 2), .inr (2, [.int dlines, .int (nI dhours), .int dlaw, .int dodds, .int (nI drows), .int (nI dheads), .int (nI dsayings), .int (nI dslugs), .int (nI dacts), .ref (o 16), .ref (o 17), .ref (o 18), .ref (o 19), .ref (o 20), .ref (o 21), .ref (o 22), .ref (o 23), .ref (o 24), .ref (o 25)])), ((o 16), .inl (k 0, 12, .inl f16)), ((o 17), .inl (k 0, 12, .inl f17)), ((o 18), .inl (k 0, 12, .inl f18)), ((o 19), .inl (k 0, 12, .inl f19)), ((o 22), .inl (k 0, 4, .inl f22))]) (As := [.ref (z 5), .int 1, .int 4]) S hK hP hD hZ hS hA hl mwX4_takeNumber lkX4_86 (ctX4_takeNumber l D k z o rfault rplace rkind rvalue rnumber rsize rstart rnext f15 5 1 4 (by omega) (by omega) (by omega) (by omega)) [0, 1] [2, 3, 4, 5, 6, 7] rfl rfl (by decide) (by decide) (by decide) rfl rfl rfl rfl rfl ⟨Nat.le_of_ble_eq_true rfl, Nat.le_of_ble_eq_true rfl, Nat.le_of_ble_eq_true rfl⟩ dX4_readHead_35 ⟨Nat.le_of_ble_eq_true rfl, Nat.le_of_ble_eq_true rfl⟩ (fun r_4 u_5 H locs hr_4 hP hD hS => ?_)
    have hP : va_P D vwCl [((o 1), .inr (4, [.ref (o 15), .int (nI rsize), .int (u_5.1 0), .int (u_5.1 1), .int (u_5.1 2), .int (nI (u_5.2.1 0)), .int (nI (u_5.2.1 1)), .int (u_5.1 3), .int (u_5.1 4)])), ((o 15), .inl (k 1, 600, .inl f15)), ((o 2), .inr (2, [.int dlines, .int (nI dhours), .int dlaw, .int dodds, .int (nI drows), .int (nI dheads), .int (nI dsayings), .int (nI dslugs), .int (nI dacts), .ref (o 16), .ref (o 17), .ref (o 18), .ref (o 19), .ref (o 20), .ref (o 21), .ref (o 22), .ref (o 23), .ref (o 24), .ref (o 25)])), ((o 16), .inl (k 0, 12, .inl f16)), ((o 17), .inl (k 0, 12, .inl f17)), ((o 18), .inl (k 0, 12, .inl f18)), ((o 19), .inl (k 0, 12, .inl f19)), ((o 22), .inl (k 0, 4, .inl f22))] H := hP.sub [6, 7, 0, 1, 2, 3, 4, 5] rfl
    have hD : va_D A [((o 1), .inr (4, [.ref (o 15), .int (nI rsize), .int (u_5.1 0), .int (u_5.1 1), .int (u_5.1 2), .int (nI (u_5.2.1 0)), .int (nI (u_5.2.1 1)), .int (u_5.1 3), .int (u_5.1 4)])), ((o 15), .inl (k 1, 600, .inl f15)), ((o 2), .inr (2, [.int dlines, .int (nI dhours), .int dlaw, .int dodds, .int (nI drows), .int (nI dheads), .int (nI dsayings), .int (nI dslugs), .int (nI dacts), .ref (o 16), .ref (o 17), .ref (o 18), .ref (o 19), .ref (o 20), .ref (o 21), .ref (o 22), .ref (o 23), .ref (o 24), .ref (o 25)])), ((o 16), .inl (k 0, 12, .inl f16)), ((o 17), .inl (k 0, 12, .inl f17)), ((o 18), .inl (k 0, 12, .inl f18)), ((o 19), .inl (k 0, 12, .inl f19)), ((o 22), .inl (k 0, 4, .inl f22))] := hD.sub [6, 7, 0, 1, 2, 3, 4, 5] (by decide) rfl
    obtain ⟨hp_6, hg_7, hg_8⟩ := hr_4
    refine lv_if_ne (tgt := 43) hx hb dX4_readHead_38 (by decide) (fun c_9 => ?_) (fun c_9 => ?_)
    · skip
      refine lv_aload_n hx hb dX4_readHead_43 rfl (lv_at hl 0 rfl) ?_
      refine x_get S hK hP 0 rfl cfX4 8 lkX4_90 (by decide) rfl dX4_readHead_44 ?_
      refine lv_istore_n (lv' := [(3, .int (u_5.1 4)), (0, .ref (o 1)), (1, .ref (o 2)), (2, .int p1)]) hx hb dX4_readHead_47 rfl hl (by decide) rfl (fun ls hl => ?_)
      refine lv_iconst (v := 0) hx hb dX4_readHead_48 (by decide) ?_
      refine lv_istore (lv' := [(4, .int 0), (3, .int (u_5.1 4)), (0, .ref (o 1)), (1, .ref (o 2)), (2, .int p1)]) hx hb dX4_readHead_49 hl (by decide) rfl (fun ls hl => ?_)
      refine lv_aload_n hx hb dX4_readHead_51 rfl (lv_at hl 2 rfl) ?_
      refine x_ldcS S hZ lsX4_122 dX4_readHead_52 ?_
      refine x_roVi (As := [.ref (z 6)]) S hK hP hD hZ (fun _ h => h) hA hS hA hl mwX4_isWord lkX4_54 (ctX4_isWord l D k z o (u_5.1 0) (u_5.1 1) (u_5.1 2) (u_5.1 3) (u_5.1 4) rsize (u_5.2.1 0) (u_5.2.1 1) f15 6 (by omega) (by omega) (by omega) (by omega)) [0, 1] rfl (by decide) rfl rfl rfl rfl rfl ⟨Nat.le_of_ble_eq_true rfl, Nat.le_of_ble_eq_true rfl, Nat.le_of_ble_eq_true rfl⟩ dX4_readHead_54 ⟨Nat.le_of_ble_eq_true rfl, Nat.le_of_ble_eq_true rfl⟩ (fun r_10 H locs hr_10 hP hS => ?_)
      refine lv_if_eq (tgt := 80) hx hb dX4_readHead_57 (by decide) (fun c_12 => ?_) (fun c_12 => ?_)
      · skip
        refine lv_aload_n hx hb dX4_readHead_80 rfl (lv_at hl 3 rfl) ?_
        refine lv_iload_n hx hb dX4_readHead_81 rfl (lv_at hl 1 rfl) ?_
        refine lv_iload hx hb dX4_readHead_82 (lv_at hl 0 rfl) ?_
        refine x_muVv (wr := [((o 1), .inr (4, [.ref (o 15), .int (nI rsize), .int (u_5.1 0), .int (u_5.1 1), .int (u_5.1 2), .int (nI (u_5.2.1 0)), .int (nI (u_5.2.1 1)), .int (u_5.1 3), .int (u_5.1 4)])), ((o 15), .inl (k 1, 600, .inl f15))]) (As := [.int (u_5.1 4), .int 0]) S hK hP hD hZ hS hA hl mwX2_plant lkX4_124 (ctX2_plant l D k z o dlines dhours dlaw dodds drows dheads dsayings dslugs dacts f16 f17 f18 f19 f22 (u_5.1 4) 0 (by omega) (by omega) (by omega) (by omega) (by omega) (by omega)) [2, 3, 4, 5, 6, 7] [0, 1] rfl rfl (by decide) (by decide) (by decide) rfl rfl rfl rfl rfl ⟨Nat.le_of_ble_eq_true rfl, Nat.le_of_ble_eq_true rfl, Nat.le_of_ble_eq_true rfl⟩ dX4_readHead_84 ⟨Nat.le_of_ble_eq_true rfl, Nat.le_of_ble_eq_true rfl⟩ (fun u_14 H locs hr_13 hP hD hS => ?_)
        have hP : va_P D vwCl [((o 1), .inr (4, [.ref (o 15), .int (nI rsize), .int (u_5.1 0), .int (u_5.1 1), .int (u_5.1 2), .int (nI (u_5.2.1 0)), .int (nI (u_5.2.1 1)), .int (u_5.1 3), .int (u_5.1 4)])), ((o 15), .inl (k 1, 600, .inl f15)), ((o 2), .inr (2, [.int dlines, .int (nI dhours), .int dlaw, .int dodds, .int (nI drows), .int (nI (u_14.2.1 0)), .int (nI dsayings), .int (nI dslugs), .int (nI dacts), .ref (o 16), .ref (o 17), .ref (o 18), .ref (o 19), .ref (o 20), .ref (o 21), .ref (o 22), .ref (o 23), .ref (o 24), .ref (o 25)])), ((o 16), .inl (k 0, 12, .inl (u_14.2.2.1 0))), ((o 17), .inl (k 0, 12, .inl (u_14.2.2.1 1))), ((o 18), .inl (k 0, 12, .inl (u_14.2.2.1 2))), ((o 19), .inl (k 0, 12, .inl (u_14.2.2.1 3))), ((o 22), .inl (k 0, 4, .inl (u_14.2.2.1 4)))] H := hP.sub [0, 1, 2, 3, 4, 5, 6, 7] rfl
        have hD : va_D A [((o 1), .inr (4, [.ref (o 15), .int (nI rsize), .int (u_5.1 0), .int (u_5.1 1), .int (u_5.1 2), .int (nI (u_5.2.1 0)), .int (nI (u_5.2.1 1)), .int (u_5.1 3), .int (u_5.1 4)])), ((o 15), .inl (k 1, 600, .inl f15)), ((o 2), .inr (2, [.int dlines, .int (nI dhours), .int dlaw, .int dodds, .int (nI drows), .int (nI (u_14.2.1 0)), .int (nI dsayings), .int (nI dslugs), .int (nI dacts), .ref (o 16), .ref (o 17), .ref (o 18), .ref (o 19), .ref (o 20), .ref (o 21), .ref (o 22), .ref (o 23), .ref (o 24), .ref (o 25)])), ((o 16), .inl (k 0, 12, .inl (u_14.2.2.1 0))), ((o 17), .inl (k 0, 12, .inl (u_14.2.2.1 1))), ((o 18), .inl (k 0, 12, .inl (u_14.2.2.1 2))), ((o 19), .inl (k 0, 12, .inl (u_14.2.2.1 3))), ((o 22), .inl (k 0, 4, .inl (u_14.2.2.1 4)))] := hD.sub [0, 1, 2, 3, 4, 5, 6, 7] (by decide) rfl
        have hg_15 := hr_13
        refine lv_iconst (v := 1) hx hb dX4_readHead_87 (by decide) ?_
        exact x_retz S hr hlk hQ hS rfl ((fun i => ([(u_5.1 0), (u_5.1 1), (u_5.1 2), (u_5.1 3), (u_5.1 4)] : List (Int32)).getD i 0), (fun i => ([u_5.2.1 0, u_5.2.1 1, u_14.2.1 0] : List (Nat)).getD i 0), (fun i => ([(u_14.2.2.1 0), (u_14.2.2.1 1), (u_14.2.2.1 2), (u_14.2.2.1 3), (u_14.2.2.1 4)] : List (Nat → Int32)).getD i (fun _ => 0)), (fun i => ([] : List (Nat → Int64)).getD i (fun _ => 0)), (fun i => ([] : List (Int64)).getD i 0)) ⟨(show u_5.2.1 0 ≤ 600 by omega), (show u_5.2.1 1 ≤ 600 by omega), (show u_14.2.1 0 ≤ 12 by omega)⟩ (x_B hP hD) dX4_readHead_88
      · skip
        refine lv_aload_n hx hb dX4_readHead_60 rfl (lv_at hl 2 rfl) ?_
        refine x_ldcS S hZ lsX4_122 dX4_readHead_61 ?_
        refine lv_iconst (v := 1) hx hb dX4_readHead_63 (by decide) ?_
        refine lv_bipush (v := 16) hx hb dX4_readHead_64 (by decide) ?_
        refine x_muVi (wr := [((o 2), .inr (2, [.int dlines, .int (nI dhours), .int dlaw, .int dodds, .int (nI drows), .int (nI dheads), .int (nI dsayings), .int (nI dslugs), .int (nI dacts), .ref (o 16), .ref (o 17), .ref (o 18), .ref (o 19), .ref (o 20), .ref (o 21), .ref (o 22), .ref (o 23), .ref (o 24), .ref (o 25)])), ((o 16), .inl (k 0, 12, .inl f16)), ((o 17), .inl (k 0, 12, .inl f17)), ((o 18), .inl (k 0, 12, .inl f18)), ((o 19), .inl (k 0, 12, .inl f19)), ((o 22), .inl (k 0, 4, .inl f22))]) (As := [.ref (z 6), .int 1, .int 16]) S hK hP hD hZ hS hA hl mwX4_takeNumber lkX4_86 (ctX4_takeNumber l D k z o (u_5.1 0) (u_5.1 1) (u_5.1 2) (u_5.1 3) (u_5.1 4) rsize (u_5.2.1 0) (u_5.2.1 1) f15 6 1 16 (by omega) (by omega) (by omega) (by omega)) [0, 1] [2, 3, 4, 5, 6, 7] rfl rfl (by decide) (by decide) (by decide) rfl rfl rfl rfl rfl ⟨Nat.le_of_ble_eq_true rfl, Nat.le_of_ble_eq_true rfl, Nat.le_of_ble_eq_true rfl⟩ dX4_readHead_66 ⟨Nat.le_of_ble_eq_true rfl, Nat.le_of_ble_eq_true rfl⟩ (fun r_16 u_17 H locs hr_16 hP hD hS => ?_)
        have hP : va_P D vwCl [((o 1), .inr (4, [.ref (o 15), .int (nI rsize), .int (u_17.1 0), .int (u_17.1 1), .int (u_17.1 2), .int (nI (u_17.2.1 0)), .int (nI (u_17.2.1 1)), .int (u_17.1 3), .int (u_17.1 4)])), ((o 15), .inl (k 1, 600, .inl f15)), ((o 2), .inr (2, [.int dlines, .int (nI dhours), .int dlaw, .int dodds, .int (nI drows), .int (nI dheads), .int (nI dsayings), .int (nI dslugs), .int (nI dacts), .ref (o 16), .ref (o 17), .ref (o 18), .ref (o 19), .ref (o 20), .ref (o 21), .ref (o 22), .ref (o 23), .ref (o 24), .ref (o 25)])), ((o 16), .inl (k 0, 12, .inl f16)), ((o 17), .inl (k 0, 12, .inl f17)), ((o 18), .inl (k 0, 12, .inl f18)), ((o 19), .inl (k 0, 12, .inl f19)), ((o 22), .inl (k 0, 4, .inl f22))] H := hP.sub [6, 7, 0, 1, 2, 3, 4, 5] rfl
        have hD : va_D A [((o 1), .inr (4, [.ref (o 15), .int (nI rsize), .int (u_17.1 0), .int (u_17.1 1), .int (u_17.1 2), .int (nI (u_17.2.1 0)), .int (nI (u_17.2.1 1)), .int (u_17.1 3), .int (u_17.1 4)])), ((o 15), .inl (k 1, 600, .inl f15)), ((o 2), .inr (2, [.int dlines, .int (nI dhours), .int dlaw, .int dodds, .int (nI drows), .int (nI dheads), .int (nI dsayings), .int (nI dslugs), .int (nI dacts), .ref (o 16), .ref (o 17), .ref (o 18), .ref (o 19), .ref (o 20), .ref (o 21), .ref (o 22), .ref (o 23), .ref (o 24), .ref (o 25)])), ((o 16), .inl (k 0, 12, .inl f16)), ((o 17), .inl (k 0, 12, .inl f17)), ((o 18), .inl (k 0, 12, .inl f18)), ((o 19), .inl (k 0, 12, .inl f19)), ((o 22), .inl (k 0, 4, .inl f22))] := hD.sub [6, 7, 0, 1, 2, 3, 4, 5] (by decide) rfl
        obtain ⟨hp_18, hg_19, hg_20⟩ := hr_16
        refine lv_if_ne (tgt := 74) hx hb dX4_readHead_69 (by decide) (fun c_21 => ?_) (fun c_21 => ?_)
        · skip
          refine lv_aload_n hx hb dX4_readHead_74 rfl (lv_at hl 2 rfl) ?_
          refine x_get S hK hP 0 rfl cfX4 8 lkX4_90 (by decide) rfl dX4_readHead_75 ?_
          refine lv_istore (lv' := [(4, .int (u_17.1 4)), (3, .int (u_5.1 4)), (0, .ref (o 1)), (1, .ref (o 2)), (2, .int p1)]) hx hb dX4_readHead_78 hl (by decide) rfl (fun ls hl => ?_)
          refine lv_aload_n hx hb dX4_readHead_80 rfl (lv_at hl 3 rfl) ?_
          refine lv_iload_n hx hb dX4_readHead_81 rfl (lv_at hl 1 rfl) ?_
          refine lv_iload hx hb dX4_readHead_82 (lv_at hl 0 rfl) ?_
          refine x_muVv (wr := [((o 1), .inr (4, [.ref (o 15), .int (nI rsize), .int (u_17.1 0), .int (u_17.1 1), .int (u_17.1 2), .int (nI (u_17.2.1 0)), .int (nI (u_17.2.1 1)), .int (u_17.1 3), .int (u_17.1 4)])), ((o 15), .inl (k 1, 600, .inl f15))]) (As := [.int (u_5.1 4), .int (u_17.1 4)]) S hK hP hD hZ hS hA hl mwX2_plant lkX4_124 (ctX2_plant l D k z o dlines dhours dlaw dodds drows dheads dsayings dslugs dacts f16 f17 f18 f19 f22 (u_5.1 4) (u_17.1 4) (by omega) (by omega) (by omega) (by omega) (by omega) (by omega)) [2, 3, 4, 5, 6, 7] [0, 1] rfl rfl (by decide) (by decide) (by decide) rfl rfl rfl rfl rfl ⟨Nat.le_of_ble_eq_true rfl, Nat.le_of_ble_eq_true rfl, Nat.le_of_ble_eq_true rfl⟩ dX4_readHead_84 ⟨Nat.le_of_ble_eq_true rfl, Nat.le_of_ble_eq_true rfl⟩ (fun u_23 H locs hr_22 hP hD hS => ?_)
          have hP : va_P D vwCl [((o 1), .inr (4, [.ref (o 15), .int (nI rsize), .int (u_17.1 0), .int (u_17.1 1), .int (u_17.1 2), .int (nI (u_17.2.1 0)), .int (nI (u_17.2.1 1)), .int (u_17.1 3), .int (u_17.1 4)])), ((o 15), .inl (k 1, 600, .inl f15)), ((o 2), .inr (2, [.int dlines, .int (nI dhours), .int dlaw, .int dodds, .int (nI drows), .int (nI (u_23.2.1 0)), .int (nI dsayings), .int (nI dslugs), .int (nI dacts), .ref (o 16), .ref (o 17), .ref (o 18), .ref (o 19), .ref (o 20), .ref (o 21), .ref (o 22), .ref (o 23), .ref (o 24), .ref (o 25)])), ((o 16), .inl (k 0, 12, .inl (u_23.2.2.1 0))), ((o 17), .inl (k 0, 12, .inl (u_23.2.2.1 1))), ((o 18), .inl (k 0, 12, .inl (u_23.2.2.1 2))), ((o 19), .inl (k 0, 12, .inl (u_23.2.2.1 3))), ((o 22), .inl (k 0, 4, .inl (u_23.2.2.1 4)))] H := hP.sub [0, 1, 2, 3, 4, 5, 6, 7] rfl
          have hD : va_D A [((o 1), .inr (4, [.ref (o 15), .int (nI rsize), .int (u_17.1 0), .int (u_17.1 1), .int (u_17.1 2), .int (nI (u_17.2.1 0)), .int (nI (u_17.2.1 1)), .int (u_17.1 3), .int (u_17.1 4)])), ((o 15), .inl (k 1, 600, .inl f15)), ((o 2), .inr (2, [.int dlines, .int (nI dhours), .int dlaw, .int dodds, .int (nI drows), .int (nI (u_23.2.1 0)), .int (nI dsayings), .int (nI dslugs), .int (nI dacts), .ref (o 16), .ref (o 17), .ref (o 18), .ref (o 19), .ref (o 20), .ref (o 21), .ref (o 22), .ref (o 23), .ref (o 24), .ref (o 25)])), ((o 16), .inl (k 0, 12, .inl (u_23.2.2.1 0))), ((o 17), .inl (k 0, 12, .inl (u_23.2.2.1 1))), ((o 18), .inl (k 0, 12, .inl (u_23.2.2.1 2))), ((o 19), .inl (k 0, 12, .inl (u_23.2.2.1 3))), ((o 22), .inl (k 0, 4, .inl (u_23.2.2.1 4)))] := hD.sub [0, 1, 2, 3, 4, 5, 6, 7] (by decide) rfl
          have hg_24 := hr_22
          refine lv_iconst (v := 1) hx hb dX4_readHead_87 (by decide) ?_
          exact x_retz S hr hlk hQ hS rfl ((fun i => ([(u_17.1 0), (u_17.1 1), (u_17.1 2), (u_17.1 3), (u_17.1 4)] : List (Int32)).getD i 0), (fun i => ([u_17.2.1 0, u_17.2.1 1, u_23.2.1 0] : List (Nat)).getD i 0), (fun i => ([(u_23.2.2.1 0), (u_23.2.2.1 1), (u_23.2.2.1 2), (u_23.2.2.1 3), (u_23.2.2.1 4)] : List (Nat → Int32)).getD i (fun _ => 0)), (fun i => ([] : List (Nat → Int64)).getD i (fun _ => 0)), (fun i => ([] : List (Int64)).getD i 0)) ⟨(show u_17.2.1 0 ≤ 600 by omega), (show u_17.2.1 1 ≤ 600 by omega), (show u_23.2.1 0 ≤ 12 by omega)⟩ (x_B hP hD) dX4_readHead_88
        · skip
          refine lv_iconst (v := 0) hx hb dX4_readHead_72 (by decide) ?_
          exact x_retz S hr hlk hQ hS rfl ((fun i => ([(u_17.1 0), (u_17.1 1), (u_17.1 2), (u_17.1 3), (u_17.1 4)] : List (Int32)).getD i 0), (fun i => ([u_17.2.1 0, u_17.2.1 1, dheads] : List (Nat)).getD i 0), (fun i => ([f16, f17, f18, f19, f22] : List (Nat → Int32)).getD i (fun _ => 0)), (fun i => ([] : List (Nat → Int64)).getD i (fun _ => 0)), (fun i => ([] : List (Int64)).getD i 0)) ⟨(show u_17.2.1 0 ≤ 600 by omega), (show u_17.2.1 1 ≤ 600 by omega), (show dheads ≤ 12 by omega)⟩ (x_B hP hD) dX4_readHead_73
    · skip
      refine lv_iconst (v := 0) hx hb dX4_readHead_41 (by decide) ?_
      exact x_retz S hr hlk hQ hS rfl ((fun i => ([(u_5.1 0), (u_5.1 1), (u_5.1 2), (u_5.1 3), (u_5.1 4)] : List (Int32)).getD i 0), (fun i => ([u_5.2.1 0, u_5.2.1 1, dheads] : List (Nat)).getD i 0), (fun i => ([f16, f17, f18, f19, f22] : List (Nat → Int32)).getD i (fun _ => 0)), (fun i => ([] : List (Nat → Int64)).getD i (fun _ => 0)), (fun i => ([] : List (Int64)).getD i 0)) ⟨(show u_5.2.1 0 ≤ 600 by omega), (show u_5.2.1 1 ≤ 600 by omega), (show dheads ≤ 12 by omega)⟩ (x_B hP hD) dX4_readHead_42
  · skip
    refine lv_iload_n hx hb dX4_readHead_9 rfl (lv_at hl 2 rfl) ?_
    refine lv_bipush (v := 8) hx hb dX4_readHead_10 (by decide) ?_
    refine lv_icmp_ge (tgt := 24) hx hb dX4_readHead_12 (by decide) (fun c_25 => ?_) (fun c_25 => ?_)
    · skip
      refine lv_aload_n hx hb dX4_readHead_24 rfl (lv_at hl 0 rfl) ?_
      refine lv_iconst (v := 3) hx hb dX4_readHead_25 (by decide) ?_
      refine x_muVi (wr := [((o 2), .inr (2, [.int dlines, .int (nI dhours), .int dlaw, .int dodds, .int (nI drows), .int (nI dheads), .int (nI dsayings), .int (nI dslugs), .int (nI dacts), .ref (o 16), .ref (o 17), .ref (o 18), .ref (o 19), .ref (o 20), .ref (o 21), .ref (o 22), .ref (o 23), .ref (o 24), .ref (o 25)])), ((o 16), .inl (k 0, 12, .inl f16)), ((o 17), .inl (k 0, 12, .inl f17)), ((o 18), .inl (k 0, 12, .inl f18)), ((o 19), .inl (k 0, 12, .inl f19)), ((o 22), .inl (k 0, 4, .inl f22))]) (As := [.int 3]) S hK hP hD hZ hS hA hl mwX4_refuse lkX4_71 (ctX4_refuse l D k z o rfault rplace rkind rvalue rnumber rsize rstart rnext f15 3 (by omega) (by omega) (by omega)) [0, 1] [2, 3, 4, 5, 6, 7] rfl rfl (by decide) (by decide) (by decide) rfl rfl rfl rfl rfl ⟨Nat.le_of_ble_eq_true rfl, Nat.le_of_ble_eq_true rfl, Nat.le_of_ble_eq_true rfl⟩ dX4_readHead_26 ⟨Nat.le_of_ble_eq_true rfl, Nat.le_of_ble_eq_true rfl⟩ (fun r_26 u_27 H locs hr_26 hP hD hS => ?_)
      have hP : va_P D vwCl [((o 1), .inr (4, [.ref (o 15), .int (nI rsize), .int (u_27.1 0), .int (u_27.1 1), .int rkind, .int (nI rstart), .int (nI rnext), .int rvalue, .int rnumber])), ((o 15), .inl (k 1, 600, .inl f15)), ((o 2), .inr (2, [.int dlines, .int (nI dhours), .int dlaw, .int dodds, .int (nI drows), .int (nI dheads), .int (nI dsayings), .int (nI dslugs), .int (nI dacts), .ref (o 16), .ref (o 17), .ref (o 18), .ref (o 19), .ref (o 20), .ref (o 21), .ref (o 22), .ref (o 23), .ref (o 24), .ref (o 25)])), ((o 16), .inl (k 0, 12, .inl f16)), ((o 17), .inl (k 0, 12, .inl f17)), ((o 18), .inl (k 0, 12, .inl f18)), ((o 19), .inl (k 0, 12, .inl f19)), ((o 22), .inl (k 0, 4, .inl f22))] H := hP.sub [6, 7, 0, 1, 2, 3, 4, 5] rfl
      have hD : va_D A [((o 1), .inr (4, [.ref (o 15), .int (nI rsize), .int (u_27.1 0), .int (u_27.1 1), .int rkind, .int (nI rstart), .int (nI rnext), .int rvalue, .int rnumber])), ((o 15), .inl (k 1, 600, .inl f15)), ((o 2), .inr (2, [.int dlines, .int (nI dhours), .int dlaw, .int dodds, .int (nI drows), .int (nI dheads), .int (nI dsayings), .int (nI dslugs), .int (nI dacts), .ref (o 16), .ref (o 17), .ref (o 18), .ref (o 19), .ref (o 20), .ref (o 21), .ref (o 22), .ref (o 23), .ref (o 24), .ref (o 25)])), ((o 16), .inl (k 0, 12, .inl f16)), ((o 17), .inl (k 0, 12, .inl f17)), ((o 18), .inl (k 0, 12, .inl f18)), ((o 19), .inl (k 0, 12, .inl f19)), ((o 22), .inl (k 0, 4, .inl f22))] := hD.sub [6, 7, 0, 1, 2, 3, 4, 5] (by decide) rfl
      obtain rfl := hr_26
      exact x_retz S hr hlk hQ hS rfl ((fun i => ([(u_27.1 0), (u_27.1 1), rkind, rvalue, rnumber] : List (Int32)).getD i 0), (fun i => ([rstart, rnext, dheads] : List (Nat)).getD i 0), (fun i => ([f16, f17, f18, f19, f22] : List (Nat → Int32)).getD i (fun _ => 0)), (fun i => ([] : List (Nat → Int64)).getD i (fun _ => 0)), (fun i => ([] : List (Int64)).getD i 0)) ⟨(show rstart ≤ 600 by omega), (show rnext ≤ 600 by omega), (show dheads ≤ 12 by omega)⟩ (x_B hP hD) dX4_readHead_29
    · skip
      refine lv_aload_n hx hb dX4_readHead_15 rfl (lv_at hl 1 rfl) ?_
      refine x_get S hK hP 2 rfl cfX2 5 lkX4_119 (by decide) rfl dX4_readHead_16 ?_
      refine lv_bipush (v := 12) hx hb dX4_readHead_19 (by decide) ?_
      refine lv_icmp_lt (tgt := 30) hx hb dX4_readHead_21 (by decide) (fun c_28 => ?_) (fun c_28 => ?_)
      · skip
        have c_28 : dheads < 12 := (ni_lt rfl (by decide) (by omega) (by omega)).mp c_28
        refine lv_aload_n hx hb dX4_readHead_30 rfl (lv_at hl 0 rfl) ?_
        refine x_ldcS S hZ lsX4_113 dX4_readHead_31 ?_
        refine lv_iconst (v := 1) hx hb dX4_readHead_33 (by decide) ?_
        refine lv_iconst (v := 4) hx hb dX4_readHead_34 (by decide) ?_
        refine x_muVi (wr := [((o 2), .inr (2, [.int dlines, .int (nI dhours), .int dlaw, .int dodds, .int (nI drows), .int (nI dheads), .int (nI dsayings), .int (nI dslugs), .int (nI dacts), .ref (o 16), .ref (o 17), .ref (o 18), .ref (o 19), .ref (o 20), .ref (o 21), .ref (o 22), .ref (o 23), .ref (o 24), .ref (o 25)])), ((o 16), .inl (k 0, 12, .inl f16)), ((o 17), .inl (k 0, 12, .inl f17)), ((o 18), .inl (k 0, 12, .inl f18)), ((o 19), .inl (k 0, 12, .inl f19)), ((o 22), .inl (k 0, 4, .inl f22))]) (As := [.ref (z 5), .int 1, .int 4]) S hK hP hD hZ hS hA hl mwX4_takeNumber lkX4_86 (ctX4_takeNumber l D k z o rfault rplace rkind rvalue rnumber rsize rstart rnext f15 5 1 4 (by omega) (by omega) (by omega) (by omega)) [0, 1] [2, 3, 4, 5, 6, 7] rfl rfl (by decide) (by decide) (by decide) rfl rfl rfl rfl rfl ⟨Nat.le_of_ble_eq_true rfl, Nat.le_of_ble_eq_true rfl, Nat.le_of_ble_eq_true rfl⟩ dX4_readHead_35 ⟨Nat.le_of_ble_eq_true rfl, Nat.le_of_ble_eq_true rfl⟩ (fun r_29 u_30 H locs hr_29 hP hD hS => ?_)
        have hP : va_P D vwCl [((o 1), .inr (4, [.ref (o 15), .int (nI rsize), .int (u_30.1 0), .int (u_30.1 1), .int (u_30.1 2), .int (nI (u_30.2.1 0)), .int (nI (u_30.2.1 1)), .int (u_30.1 3), .int (u_30.1 4)])), ((o 15), .inl (k 1, 600, .inl f15)), ((o 2), .inr (2, [.int dlines, .int (nI dhours), .int dlaw, .int dodds, .int (nI drows), .int (nI dheads), .int (nI dsayings), .int (nI dslugs), .int (nI dacts), .ref (o 16), .ref (o 17), .ref (o 18), .ref (o 19), .ref (o 20), .ref (o 21), .ref (o 22), .ref (o 23), .ref (o 24), .ref (o 25)])), ((o 16), .inl (k 0, 12, .inl f16)), ((o 17), .inl (k 0, 12, .inl f17)), ((o 18), .inl (k 0, 12, .inl f18)), ((o 19), .inl (k 0, 12, .inl f19)), ((o 22), .inl (k 0, 4, .inl f22))] H := hP.sub [6, 7, 0, 1, 2, 3, 4, 5] rfl
        have hD : va_D A [((o 1), .inr (4, [.ref (o 15), .int (nI rsize), .int (u_30.1 0), .int (u_30.1 1), .int (u_30.1 2), .int (nI (u_30.2.1 0)), .int (nI (u_30.2.1 1)), .int (u_30.1 3), .int (u_30.1 4)])), ((o 15), .inl (k 1, 600, .inl f15)), ((o 2), .inr (2, [.int dlines, .int (nI dhours), .int dlaw, .int dodds, .int (nI drows), .int (nI dheads), .int (nI dsayings), .int (nI dslugs), .int (nI dacts), .ref (o 16), .ref (o 17), .ref (o 18), .ref (o 19), .ref (o 20), .ref (o 21), .ref (o 22), .ref (o 23), .ref (o 24), .ref (o 25)])), ((o 16), .inl (k 0, 12, .inl f16)), ((o 17), .inl (k 0, 12, .inl f17)), ((o 18), .inl (k 0, 12, .inl f18)), ((o 19), .inl (k 0, 12, .inl f19)), ((o 22), .inl (k 0, 4, .inl f22))] := hD.sub [6, 7, 0, 1, 2, 3, 4, 5] (by decide) rfl
        obtain ⟨hp_31, hg_32, hg_33⟩ := hr_29
        refine lv_if_ne (tgt := 43) hx hb dX4_readHead_38 (by decide) (fun c_34 => ?_) (fun c_34 => ?_)
        · skip
          refine lv_aload_n hx hb dX4_readHead_43 rfl (lv_at hl 0 rfl) ?_
          refine x_get S hK hP 0 rfl cfX4 8 lkX4_90 (by decide) rfl dX4_readHead_44 ?_
          refine lv_istore_n (lv' := [(3, .int (u_30.1 4)), (0, .ref (o 1)), (1, .ref (o 2)), (2, .int p1)]) hx hb dX4_readHead_47 rfl hl (by decide) rfl (fun ls hl => ?_)
          refine lv_iconst (v := 0) hx hb dX4_readHead_48 (by decide) ?_
          refine lv_istore (lv' := [(4, .int 0), (3, .int (u_30.1 4)), (0, .ref (o 1)), (1, .ref (o 2)), (2, .int p1)]) hx hb dX4_readHead_49 hl (by decide) rfl (fun ls hl => ?_)
          refine lv_aload_n hx hb dX4_readHead_51 rfl (lv_at hl 2 rfl) ?_
          refine x_ldcS S hZ lsX4_122 dX4_readHead_52 ?_
          refine x_roVi (As := [.ref (z 6)]) S hK hP hD hZ (fun _ h => h) hA hS hA hl mwX4_isWord lkX4_54 (ctX4_isWord l D k z o (u_30.1 0) (u_30.1 1) (u_30.1 2) (u_30.1 3) (u_30.1 4) rsize (u_30.2.1 0) (u_30.2.1 1) f15 6 (by omega) (by omega) (by omega) (by omega)) [0, 1] rfl (by decide) rfl rfl rfl rfl rfl ⟨Nat.le_of_ble_eq_true rfl, Nat.le_of_ble_eq_true rfl, Nat.le_of_ble_eq_true rfl⟩ dX4_readHead_54 ⟨Nat.le_of_ble_eq_true rfl, Nat.le_of_ble_eq_true rfl⟩ (fun r_35 H locs hr_35 hP hS => ?_)
          refine lv_if_eq (tgt := 80) hx hb dX4_readHead_57 (by decide) (fun c_37 => ?_) (fun c_37 => ?_)
          · skip
            refine lv_aload_n hx hb dX4_readHead_80 rfl (lv_at hl 3 rfl) ?_
            refine lv_iload_n hx hb dX4_readHead_81 rfl (lv_at hl 1 rfl) ?_
            refine lv_iload hx hb dX4_readHead_82 (lv_at hl 0 rfl) ?_
            refine x_muVv (wr := [((o 1), .inr (4, [.ref (o 15), .int (nI rsize), .int (u_30.1 0), .int (u_30.1 1), .int (u_30.1 2), .int (nI (u_30.2.1 0)), .int (nI (u_30.2.1 1)), .int (u_30.1 3), .int (u_30.1 4)])), ((o 15), .inl (k 1, 600, .inl f15))]) (As := [.int (u_30.1 4), .int 0]) S hK hP hD hZ hS hA hl mwX2_plant lkX4_124 (ctX2_plant l D k z o dlines dhours dlaw dodds drows dheads dsayings dslugs dacts f16 f17 f18 f19 f22 (u_30.1 4) 0 (by omega) (by omega) (by omega) (by omega) (by omega) (by omega)) [2, 3, 4, 5, 6, 7] [0, 1] rfl rfl (by decide) (by decide) (by decide) rfl rfl rfl rfl rfl ⟨Nat.le_of_ble_eq_true rfl, Nat.le_of_ble_eq_true rfl, Nat.le_of_ble_eq_true rfl⟩ dX4_readHead_84 ⟨Nat.le_of_ble_eq_true rfl, Nat.le_of_ble_eq_true rfl⟩ (fun u_39 H locs hr_38 hP hD hS => ?_)
            have hP : va_P D vwCl [((o 1), .inr (4, [.ref (o 15), .int (nI rsize), .int (u_30.1 0), .int (u_30.1 1), .int (u_30.1 2), .int (nI (u_30.2.1 0)), .int (nI (u_30.2.1 1)), .int (u_30.1 3), .int (u_30.1 4)])), ((o 15), .inl (k 1, 600, .inl f15)), ((o 2), .inr (2, [.int dlines, .int (nI dhours), .int dlaw, .int dodds, .int (nI drows), .int (nI (u_39.2.1 0)), .int (nI dsayings), .int (nI dslugs), .int (nI dacts), .ref (o 16), .ref (o 17), .ref (o 18), .ref (o 19), .ref (o 20), .ref (o 21), .ref (o 22), .ref (o 23), .ref (o 24), .ref (o 25)])), ((o 16), .inl (k 0, 12, .inl (u_39.2.2.1 0))), ((o 17), .inl (k 0, 12, .inl (u_39.2.2.1 1))), ((o 18), .inl (k 0, 12, .inl (u_39.2.2.1 2))), ((o 19), .inl (k 0, 12, .inl (u_39.2.2.1 3))), ((o 22), .inl (k 0, 4, .inl (u_39.2.2.1 4)))] H := hP.sub [0, 1, 2, 3, 4, 5, 6, 7] rfl
            have hD : va_D A [((o 1), .inr (4, [.ref (o 15), .int (nI rsize), .int (u_30.1 0), .int (u_30.1 1), .int (u_30.1 2), .int (nI (u_30.2.1 0)), .int (nI (u_30.2.1 1)), .int (u_30.1 3), .int (u_30.1 4)])), ((o 15), .inl (k 1, 600, .inl f15)), ((o 2), .inr (2, [.int dlines, .int (nI dhours), .int dlaw, .int dodds, .int (nI drows), .int (nI (u_39.2.1 0)), .int (nI dsayings), .int (nI dslugs), .int (nI dacts), .ref (o 16), .ref (o 17), .ref (o 18), .ref (o 19), .ref (o 20), .ref (o 21), .ref (o 22), .ref (o 23), .ref (o 24), .ref (o 25)])), ((o 16), .inl (k 0, 12, .inl (u_39.2.2.1 0))), ((o 17), .inl (k 0, 12, .inl (u_39.2.2.1 1))), ((o 18), .inl (k 0, 12, .inl (u_39.2.2.1 2))), ((o 19), .inl (k 0, 12, .inl (u_39.2.2.1 3))), ((o 22), .inl (k 0, 4, .inl (u_39.2.2.1 4)))] := hD.sub [0, 1, 2, 3, 4, 5, 6, 7] (by decide) rfl
            have hg_40 := hr_38
            refine lv_iconst (v := 1) hx hb dX4_readHead_87 (by decide) ?_
            exact x_retz S hr hlk hQ hS rfl ((fun i => ([(u_30.1 0), (u_30.1 1), (u_30.1 2), (u_30.1 3), (u_30.1 4)] : List (Int32)).getD i 0), (fun i => ([u_30.2.1 0, u_30.2.1 1, u_39.2.1 0] : List (Nat)).getD i 0), (fun i => ([(u_39.2.2.1 0), (u_39.2.2.1 1), (u_39.2.2.1 2), (u_39.2.2.1 3), (u_39.2.2.1 4)] : List (Nat → Int32)).getD i (fun _ => 0)), (fun i => ([] : List (Nat → Int64)).getD i (fun _ => 0)), (fun i => ([] : List (Int64)).getD i 0)) ⟨(show u_30.2.1 0 ≤ 600 by omega), (show u_30.2.1 1 ≤ 600 by omega), (show u_39.2.1 0 ≤ 12 by omega)⟩ (x_B hP hD) dX4_readHead_88
          · skip
            refine lv_aload_n hx hb dX4_readHead_60 rfl (lv_at hl 2 rfl) ?_
            refine x_ldcS S hZ lsX4_122 dX4_readHead_61 ?_
            refine lv_iconst (v := 1) hx hb dX4_readHead_63 (by decide) ?_
            refine lv_bipush (v := 16) hx hb dX4_readHead_64 (by decide) ?_
            refine x_muVi (wr := [((o 2), .inr (2, [.int dlines, .int (nI dhours), .int dlaw, .int dodds, .int (nI drows), .int (nI dheads), .int (nI dsayings), .int (nI dslugs), .int (nI dacts), .ref (o 16), .ref (o 17), .ref (o 18), .ref (o 19), .ref (o 20), .ref (o 21), .ref (o 22), .ref (o 23), .ref (o 24), .ref (o 25)])), ((o 16), .inl (k 0, 12, .inl f16)), ((o 17), .inl (k 0, 12, .inl f17)), ((o 18), .inl (k 0, 12, .inl f18)), ((o 19), .inl (k 0, 12, .inl f19)), ((o 22), .inl (k 0, 4, .inl f22))]) (As := [.ref (z 6), .int 1, .int 16]) S hK hP hD hZ hS hA hl mwX4_takeNumber lkX4_86 (ctX4_takeNumber l D k z o (u_30.1 0) (u_30.1 1) (u_30.1 2) (u_30.1 3) (u_30.1 4) rsize (u_30.2.1 0) (u_30.2.1 1) f15 6 1 16 (by omega) (by omega) (by omega) (by omega)) [0, 1] [2, 3, 4, 5, 6, 7] rfl rfl (by decide) (by decide) (by decide) rfl rfl rfl rfl rfl ⟨Nat.le_of_ble_eq_true rfl, Nat.le_of_ble_eq_true rfl, Nat.le_of_ble_eq_true rfl⟩ dX4_readHead_66 ⟨Nat.le_of_ble_eq_true rfl, Nat.le_of_ble_eq_true rfl⟩ (fun r_41 u_42 H locs hr_41 hP hD hS => ?_)
            have hP : va_P D vwCl [((o 1), .inr (4, [.ref (o 15), .int (nI rsize), .int (u_42.1 0), .int (u_42.1 1), .int (u_42.1 2), .int (nI (u_42.2.1 0)), .int (nI (u_42.2.1 1)), .int (u_42.1 3), .int (u_42.1 4)])), ((o 15), .inl (k 1, 600, .inl f15)), ((o 2), .inr (2, [.int dlines, .int (nI dhours), .int dlaw, .int dodds, .int (nI drows), .int (nI dheads), .int (nI dsayings), .int (nI dslugs), .int (nI dacts), .ref (o 16), .ref (o 17), .ref (o 18), .ref (o 19), .ref (o 20), .ref (o 21), .ref (o 22), .ref (o 23), .ref (o 24), .ref (o 25)])), ((o 16), .inl (k 0, 12, .inl f16)), ((o 17), .inl (k 0, 12, .inl f17)), ((o 18), .inl (k 0, 12, .inl f18)), ((o 19), .inl (k 0, 12, .inl f19)), ((o 22), .inl (k 0, 4, .inl f22))] H := hP.sub [6, 7, 0, 1, 2, 3, 4, 5] rfl
            have hD : va_D A [((o 1), .inr (4, [.ref (o 15), .int (nI rsize), .int (u_42.1 0), .int (u_42.1 1), .int (u_42.1 2), .int (nI (u_42.2.1 0)), .int (nI (u_42.2.1 1)), .int (u_42.1 3), .int (u_42.1 4)])), ((o 15), .inl (k 1, 600, .inl f15)), ((o 2), .inr (2, [.int dlines, .int (nI dhours), .int dlaw, .int dodds, .int (nI drows), .int (nI dheads), .int (nI dsayings), .int (nI dslugs), .int (nI dacts), .ref (o 16), .ref (o 17), .ref (o 18), .ref (o 19), .ref (o 20), .ref (o 21), .ref (o 22), .ref (o 23), .ref (o 24), .ref (o 25)])), ((o 16), .inl (k 0, 12, .inl f16)), ((o 17), .inl (k 0, 12, .inl f17)), ((o 18), .inl (k 0, 12, .inl f18)), ((o 19), .inl (k 0, 12, .inl f19)), ((o 22), .inl (k 0, 4, .inl f22))] := hD.sub [6, 7, 0, 1, 2, 3, 4, 5] (by decide) rfl
            obtain ⟨hp_43, hg_44, hg_45⟩ := hr_41
            refine lv_if_ne (tgt := 74) hx hb dX4_readHead_69 (by decide) (fun c_46 => ?_) (fun c_46 => ?_)
            · skip
              refine lv_aload_n hx hb dX4_readHead_74 rfl (lv_at hl 2 rfl) ?_
              refine x_get S hK hP 0 rfl cfX4 8 lkX4_90 (by decide) rfl dX4_readHead_75 ?_
              refine lv_istore (lv' := [(4, .int (u_42.1 4)), (3, .int (u_30.1 4)), (0, .ref (o 1)), (1, .ref (o 2)), (2, .int p1)]) hx hb dX4_readHead_78 hl (by decide) rfl (fun ls hl => ?_)
              refine lv_aload_n hx hb dX4_readHead_80 rfl (lv_at hl 3 rfl) ?_
              refine lv_iload_n hx hb dX4_readHead_81 rfl (lv_at hl 1 rfl) ?_
              refine lv_iload hx hb dX4_readHead_82 (lv_at hl 0 rfl) ?_
              refine x_muVv (wr := [((o 1), .inr (4, [.ref (o 15), .int (nI rsize), .int (u_42.1 0), .int (u_42.1 1), .int (u_42.1 2), .int (nI (u_42.2.1 0)), .int (nI (u_42.2.1 1)), .int (u_42.1 3), .int (u_42.1 4)])), ((o 15), .inl (k 1, 600, .inl f15))]) (As := [.int (u_30.1 4), .int (u_42.1 4)]) S hK hP hD hZ hS hA hl mwX2_plant lkX4_124 (ctX2_plant l D k z o dlines dhours dlaw dodds drows dheads dsayings dslugs dacts f16 f17 f18 f19 f22 (u_30.1 4) (u_42.1 4) (by omega) (by omega) (by omega) (by omega) (by omega) (by omega)) [2, 3, 4, 5, 6, 7] [0, 1] rfl rfl (by decide) (by decide) (by decide) rfl rfl rfl rfl rfl ⟨Nat.le_of_ble_eq_true rfl, Nat.le_of_ble_eq_true rfl, Nat.le_of_ble_eq_true rfl⟩ dX4_readHead_84 ⟨Nat.le_of_ble_eq_true rfl, Nat.le_of_ble_eq_true rfl⟩ (fun u_48 H locs hr_47 hP hD hS => ?_)
              have hP : va_P D vwCl [((o 1), .inr (4, [.ref (o 15), .int (nI rsize), .int (u_42.1 0), .int (u_42.1 1), .int (u_42.1 2), .int (nI (u_42.2.1 0)), .int (nI (u_42.2.1 1)), .int (u_42.1 3), .int (u_42.1 4)])), ((o 15), .inl (k 1, 600, .inl f15)), ((o 2), .inr (2, [.int dlines, .int (nI dhours), .int dlaw, .int dodds, .int (nI drows), .int (nI (u_48.2.1 0)), .int (nI dsayings), .int (nI dslugs), .int (nI dacts), .ref (o 16), .ref (o 17), .ref (o 18), .ref (o 19), .ref (o 20), .ref (o 21), .ref (o 22), .ref (o 23), .ref (o 24), .ref (o 25)])), ((o 16), .inl (k 0, 12, .inl (u_48.2.2.1 0))), ((o 17), .inl (k 0, 12, .inl (u_48.2.2.1 1))), ((o 18), .inl (k 0, 12, .inl (u_48.2.2.1 2))), ((o 19), .inl (k 0, 12, .inl (u_48.2.2.1 3))), ((o 22), .inl (k 0, 4, .inl (u_48.2.2.1 4)))] H := hP.sub [0, 1, 2, 3, 4, 5, 6, 7] rfl
              have hD : va_D A [((o 1), .inr (4, [.ref (o 15), .int (nI rsize), .int (u_42.1 0), .int (u_42.1 1), .int (u_42.1 2), .int (nI (u_42.2.1 0)), .int (nI (u_42.2.1 1)), .int (u_42.1 3), .int (u_42.1 4)])), ((o 15), .inl (k 1, 600, .inl f15)), ((o 2), .inr (2, [.int dlines, .int (nI dhours), .int dlaw, .int dodds, .int (nI drows), .int (nI (u_48.2.1 0)), .int (nI dsayings), .int (nI dslugs), .int (nI dacts), .ref (o 16), .ref (o 17), .ref (o 18), .ref (o 19), .ref (o 20), .ref (o 21), .ref (o 22), .ref (o 23), .ref (o 24), .ref (o 25)])), ((o 16), .inl (k 0, 12, .inl (u_48.2.2.1 0))), ((o 17), .inl (k 0, 12, .inl (u_48.2.2.1 1))), ((o 18), .inl (k 0, 12, .inl (u_48.2.2.1 2))), ((o 19), .inl (k 0, 12, .inl (u_48.2.2.1 3))), ((o 22), .inl (k 0, 4, .inl (u_48.2.2.1 4)))] := hD.sub [0, 1, 2, 3, 4, 5, 6, 7] (by decide) rfl
              have hg_49 := hr_47
              refine lv_iconst (v := 1) hx hb dX4_readHead_87 (by decide) ?_
              exact x_retz S hr hlk hQ hS rfl ((fun i => ([(u_42.1 0), (u_42.1 1), (u_42.1 2), (u_42.1 3), (u_42.1 4)] : List (Int32)).getD i 0), (fun i => ([u_42.2.1 0, u_42.2.1 1, u_48.2.1 0] : List (Nat)).getD i 0), (fun i => ([(u_48.2.2.1 0), (u_48.2.2.1 1), (u_48.2.2.1 2), (u_48.2.2.1 3), (u_48.2.2.1 4)] : List (Nat → Int32)).getD i (fun _ => 0)), (fun i => ([] : List (Nat → Int64)).getD i (fun _ => 0)), (fun i => ([] : List (Int64)).getD i 0)) ⟨(show u_42.2.1 0 ≤ 600 by omega), (show u_42.2.1 1 ≤ 600 by omega), (show u_48.2.1 0 ≤ 12 by omega)⟩ (x_B hP hD) dX4_readHead_88
            · skip
              refine lv_iconst (v := 0) hx hb dX4_readHead_72 (by decide) ?_
              exact x_retz S hr hlk hQ hS rfl ((fun i => ([(u_42.1 0), (u_42.1 1), (u_42.1 2), (u_42.1 3), (u_42.1 4)] : List (Int32)).getD i 0), (fun i => ([u_42.2.1 0, u_42.2.1 1, dheads] : List (Nat)).getD i 0), (fun i => ([f16, f17, f18, f19, f22] : List (Nat → Int32)).getD i (fun _ => 0)), (fun i => ([] : List (Nat → Int64)).getD i (fun _ => 0)), (fun i => ([] : List (Int64)).getD i 0)) ⟨(show u_42.2.1 0 ≤ 600 by omega), (show u_42.2.1 1 ≤ 600 by omega), (show dheads ≤ 12 by omega)⟩ (x_B hP hD) dX4_readHead_73
        · skip
          refine lv_iconst (v := 0) hx hb dX4_readHead_41 (by decide) ?_
          exact x_retz S hr hlk hQ hS rfl ((fun i => ([(u_30.1 0), (u_30.1 1), (u_30.1 2), (u_30.1 3), (u_30.1 4)] : List (Int32)).getD i 0), (fun i => ([u_30.2.1 0, u_30.2.1 1, dheads] : List (Nat)).getD i 0), (fun i => ([f16, f17, f18, f19, f22] : List (Nat → Int32)).getD i (fun _ => 0)), (fun i => ([] : List (Nat → Int64)).getD i (fun _ => 0)), (fun i => ([] : List (Int64)).getD i 0)) ⟨(show u_30.2.1 0 ≤ 600 by omega), (show u_30.2.1 1 ≤ 600 by omega), (show dheads ≤ 12 by omega)⟩ (x_B hP hD) dX4_readHead_42
      · skip
        have c_28 : ¬ dheads < 12 := fun q => c_28 ((ni_lt rfl (by decide) (by omega) (by omega)).mpr q)
        refine lv_aload_n hx hb dX4_readHead_24 rfl (lv_at hl 0 rfl) ?_
        refine lv_iconst (v := 3) hx hb dX4_readHead_25 (by decide) ?_
        refine x_muVi (wr := [((o 2), .inr (2, [.int dlines, .int (nI dhours), .int dlaw, .int dodds, .int (nI drows), .int (nI dheads), .int (nI dsayings), .int (nI dslugs), .int (nI dacts), .ref (o 16), .ref (o 17), .ref (o 18), .ref (o 19), .ref (o 20), .ref (o 21), .ref (o 22), .ref (o 23), .ref (o 24), .ref (o 25)])), ((o 16), .inl (k 0, 12, .inl f16)), ((o 17), .inl (k 0, 12, .inl f17)), ((o 18), .inl (k 0, 12, .inl f18)), ((o 19), .inl (k 0, 12, .inl f19)), ((o 22), .inl (k 0, 4, .inl f22))]) (As := [.int 3]) S hK hP hD hZ hS hA hl mwX4_refuse lkX4_71 (ctX4_refuse l D k z o rfault rplace rkind rvalue rnumber rsize rstart rnext f15 3 (by omega) (by omega) (by omega)) [0, 1] [2, 3, 4, 5, 6, 7] rfl rfl (by decide) (by decide) (by decide) rfl rfl rfl rfl rfl ⟨Nat.le_of_ble_eq_true rfl, Nat.le_of_ble_eq_true rfl, Nat.le_of_ble_eq_true rfl⟩ dX4_readHead_26 ⟨Nat.le_of_ble_eq_true rfl, Nat.le_of_ble_eq_true rfl⟩ (fun r_50 u_51 H locs hr_50 hP hD hS => ?_)
        have hP : va_P D vwCl [((o 1), .inr (4, [.ref (o 15), .int (nI rsize), .int (u_51.1 0), .int (u_51.1 1), .int rkind, .int (nI rstart), .int (nI rnext), .int rvalue, .int rnumber])), ((o 15), .inl (k 1, 600, .inl f15)), ((o 2), .inr (2, [.int dlines, .int (nI dhours), .int dlaw, .int dodds, .int (nI drows), .int (nI dheads), .int (nI dsayings), .int (nI dslugs), .int (nI dacts), .ref (o 16), .ref (o 17), .ref (o 18), .ref (o 19), .ref (o 20), .ref (o 21), .ref (o 22), .ref (o 23), .ref (o 24), .ref (o 25)])), ((o 16), .inl (k 0, 12, .inl f16)), ((o 17), .inl (k 0, 12, .inl f17)), ((o 18), .inl (k 0, 12, .inl f18)), ((o 19), .inl (k 0, 12, .inl f19)), ((o 22), .inl (k 0, 4, .inl f22))] H := hP.sub [6, 7, 0, 1, 2, 3, 4, 5] rfl
        have hD : va_D A [((o 1), .inr (4, [.ref (o 15), .int (nI rsize), .int (u_51.1 0), .int (u_51.1 1), .int rkind, .int (nI rstart), .int (nI rnext), .int rvalue, .int rnumber])), ((o 15), .inl (k 1, 600, .inl f15)), ((o 2), .inr (2, [.int dlines, .int (nI dhours), .int dlaw, .int dodds, .int (nI drows), .int (nI dheads), .int (nI dsayings), .int (nI dslugs), .int (nI dacts), .ref (o 16), .ref (o 17), .ref (o 18), .ref (o 19), .ref (o 20), .ref (o 21), .ref (o 22), .ref (o 23), .ref (o 24), .ref (o 25)])), ((o 16), .inl (k 0, 12, .inl f16)), ((o 17), .inl (k 0, 12, .inl f17)), ((o 18), .inl (k 0, 12, .inl f18)), ((o 19), .inl (k 0, 12, .inl f19)), ((o 22), .inl (k 0, 4, .inl f22))] := hD.sub [6, 7, 0, 1, 2, 3, 4, 5] (by decide) rfl
        obtain rfl := hr_50
        exact x_retz S hr hlk hQ hS rfl ((fun i => ([(u_51.1 0), (u_51.1 1), rkind, rvalue, rnumber] : List (Int32)).getD i 0), (fun i => ([rstart, rnext, dheads] : List (Nat)).getD i 0), (fun i => ([f16, f17, f18, f19, f22] : List (Nat → Int32)).getD i (fun _ => 0)), (fun i => ([] : List (Nat → Int64)).getD i (fun _ => 0)), (fun i => ([] : List (Int64)).getD i 0)) ⟨(show rstart ≤ 600 by omega), (show rnext ≤ 600 by omega), (show dheads ≤ 12 by omega)⟩ (x_B hP hD) dX4_readHead_29

set_option maxHeartbeats 4000000 in
set_option maxRecDepth 100000 in
theorem ctX4_readRow (l : Launch) (D : va_G) (k : Nat → ClassId) (z : Nat → Nat) (o : Nat → Nat) (rfault : Int32) (rplace : Int32) (rkind : Int32) (rvalue : Int32) (rnumber : Int32) (rsize : Nat) (rstart : Nat) (rnext : Nat) (f15 : Nat → Int32) (dlines : Int32) (dhours : Nat) (dlaw : Int32) (dodds : Int32) (drows : Nat) (dheads : Nat) (dsayings : Nat) (dslugs : Nat) (dacts : Nat) (f16 : Nat → Int32) (f17 : Nat → Int32) (f18 : Nat → Int32) (f19 : Nat → Int32) (f22 : Nat → Int32) (hrsize : rsize ≤ 600) (hrstart : rstart ≤ 600) (hrnext : rnext ≤ 600) (hdhours : dhours ≤ 16) (hdrows : drows ≤ 4) (hdheads : dheads ≤ 12) (hdsayings : dsayings ≤ 8) (hdslugs : dslugs ≤ 4) (hdacts : dacts ≤ 30) : MU l yX4_readRow cX4_readRow 3 (some .boolean) 7 D k z [.ref (o 1), .ref (o 2)] [((o 1), .inr (4, [.ref (o 15), .int (nI rsize), .int rfault, .int rplace, .int rkind, .int (nI rstart), .int (nI rnext), .int rvalue, .int rnumber])), ((o 15), .inl (k 1, 600, .inl f15)), ((o 2), .inr (2, [.int dlines, .int (nI dhours), .int dlaw, .int dodds, .int (nI drows), .int (nI dheads), .int (nI dsayings), .int (nI dslugs), .int (nI dacts), .ref (o 16), .ref (o 17), .ref (o 18), .ref (o 19), .ref (o 20), .ref (o 21), .ref (o 22), .ref (o 23), .ref (o 24), .ref (o 25)])), ((o 16), .inl (k 0, 12, .inl f16)), ((o 17), .inl (k 0, 12, .inl f17)), ((o 18), .inl (k 0, 12, .inl f18)), ((o 19), .inl (k 0, 12, .inl f19)), ((o 22), .inl (k 0, 4, .inl f22))] 0 0 (Ui D (fun (r : Int32) (u : (Nat → Int32) × (Nat → Nat) × (Nat → Nat → Int32) × (Nat → Nat → Int64) × (Nat → Int64)) => (u.2.1 0 ≤ 600) ∧ (u.2.1 1 ≤ 600) ∧ (u.2.1 2 ≤ 4) ∧ (u.2.1 3 ≤ 12)) (fun u : (Nat → Int32) × (Nat → Nat) × (Nat → Nat → Int32) × (Nat → Nat → Int64) × (Nat → Int64) => [((o 1), .inr (4, [.ref (o 15), .int (nI rsize), .int (u.1 0), .int (u.1 1), .int (u.1 2), .int (nI (u.2.1 0)), .int (nI (u.2.1 1)), .int (u.1 3), .int (u.1 4)])), ((o 15), .inl (k 1, 600, .inl f15)), ((o 2), .inr (2, [.int dlines, .int (nI dhours), .int dlaw, .int dodds, .int (nI (u.2.1 2)), .int (nI (u.2.1 3)), .int (nI dsayings), .int (nI dslugs), .int (nI dacts), .ref (o 16), .ref (o 17), .ref (o 18), .ref (o 19), .ref (o 20), .ref (o 21), .ref (o 22), .ref (o 23), .ref (o 24), .ref (o 25)])), ((o 16), .inl (k 0, 12, .inl (u.2.2.1 0))), ((o 17), .inl (k 0, 12, .inl (u.2.2.1 1))), ((o 18), .inl (k 0, 12, .inl (u.2.2.1 2))), ((o 19), .inl (k 0, 12, .inl (u.2.2.1 3))), ((o 22), .inl (k 0, 4, .inl (u.2.2.1 4)))])) := by
  refine MU.of (by decide) (Nat.le_of_ble_eq_true rfl) ?_
  intro p e s m below meth c ls A args Q S hr hlk hnm hQ hK hP hD hZ hA hS hl
  have hx := S.1
  have hb := S.2.1
  have hl : lv_has ls 3 [(0, .ref (o 1)), (1, .ref (o 2))] := hl
  refine lv_aload_n hx hb dX4_readRow_0 rfl (lv_at hl 1 rfl) ?_
  refine x_roVi (As := []) S hK hP hD hZ (fun _ h => h) hA hS hA hl mwX2_events lkX4_103 (ctX2_events_g l D k z (fun i => ([0, 0, 0, (o 2), 0, 0, 0, 0, 0, 0, 0, 0, 0, 0, 0, 0, 0, 0, 0, 0, 0, 0, 0, 0, 0, 0, (o 16), (o 17), (o 18), (o 19), (o 20), (o 21), (o 22), (o 23), (o 24), (o 25)] : List Nat).getD i 0) dlines dhours dlaw dodds drows dheads dsayings dslugs dacts (by omega) (by omega) (by omega) (by omega) (by omega) (by omega)) [2] rfl (by decide) rfl rfl rfl rfl rfl ⟨Nat.le_of_ble_eq_true rfl, Nat.le_of_ble_eq_true rfl, Nat.le_of_ble_eq_true rfl⟩ dX4_readRow_1 ⟨Nat.le_of_ble_eq_true rfl, Nat.le_of_ble_eq_true rfl⟩ (fun r_1 H locs hr_1 hP hS => ?_)
  obtain rfl := hr_1
  refine lv_if_le (tgt := 13) hx hb dX4_readRow_4 (by decide) (fun c_3 => ?_) (fun c_3 => ?_)
  · skip
    have c_3 : dsayings + dslugs + dacts ≤ 0 := (ni_le rfl (by decide) (by omega) (by omega)).mp c_3
    refine lv_aload_n hx hb dX4_readRow_13 rfl (lv_at hl 1 rfl) ?_
    refine x_get S hK hP 2 rfl cfX2 4 lkX4_107 (by decide) rfl dX4_readRow_14 ?_
    refine lv_iconst (v := 4) hx hb dX4_readRow_17 (by decide) ?_
    refine lv_icmp_lt (tgt := 27) hx hb dX4_readRow_18 (by decide) (fun c_4 => ?_) (fun c_4 => ?_)
    · skip
      have c_4 : drows < 4 := (ni_lt rfl (by decide) (by omega) (by omega)).mp c_4
      refine lv_aload_n hx hb dX4_readRow_27 rfl (lv_at hl 0 rfl) ?_
      refine x_muVv (wr := [((o 2), .inr (2, [.int dlines, .int (nI dhours), .int dlaw, .int dodds, .int (nI drows), .int (nI dheads), .int (nI dsayings), .int (nI dslugs), .int (nI dacts), .ref (o 16), .ref (o 17), .ref (o 18), .ref (o 19), .ref (o 20), .ref (o 21), .ref (o 22), .ref (o 23), .ref (o 24), .ref (o 25)])), ((o 16), .inl (k 0, 12, .inl f16)), ((o 17), .inl (k 0, 12, .inl f17)), ((o 18), .inl (k 0, 12, .inl f18)), ((o 19), .inl (k 0, 12, .inl f19)), ((o 22), .inl (k 0, 4, .inl f22))]) (As := []) S hK hP hD hZ hS hA hl mwX4_advance lkX4_33 (ctX4_advance l D k z o rfault rplace rkind rvalue rnumber rsize rstart rnext f15 (by omega) (by omega) (by omega)) [0, 1] [2, 3, 4, 5, 6, 7] rfl rfl (by decide) (by decide) (by decide) rfl rfl rfl rfl rfl ⟨Nat.le_of_ble_eq_true rfl, Nat.le_of_ble_eq_true rfl, Nat.le_of_ble_eq_true rfl⟩ dX4_readRow_28 ⟨Nat.le_of_ble_eq_true rfl, Nat.le_of_ble_eq_true rfl⟩ (fun u_6 H locs hr_5 hP hD hS => ?_)
      have hP : va_P D vwCl [((o 1), .inr (4, [.ref (o 15), .int (nI rsize), .int rfault, .int rplace, .int (u_6.1 0), .int (nI (u_6.2.1 0)), .int (nI (u_6.2.1 1)), .int (u_6.1 1), .int rnumber])), ((o 15), .inl (k 1, 600, .inl f15)), ((o 2), .inr (2, [.int dlines, .int (nI dhours), .int dlaw, .int dodds, .int (nI drows), .int (nI dheads), .int (nI dsayings), .int (nI dslugs), .int (nI dacts), .ref (o 16), .ref (o 17), .ref (o 18), .ref (o 19), .ref (o 20), .ref (o 21), .ref (o 22), .ref (o 23), .ref (o 24), .ref (o 25)])), ((o 16), .inl (k 0, 12, .inl f16)), ((o 17), .inl (k 0, 12, .inl f17)), ((o 18), .inl (k 0, 12, .inl f18)), ((o 19), .inl (k 0, 12, .inl f19)), ((o 22), .inl (k 0, 4, .inl f22))] H := hP.sub [6, 7, 0, 1, 2, 3, 4, 5] rfl
      have hD : va_D A [((o 1), .inr (4, [.ref (o 15), .int (nI rsize), .int rfault, .int rplace, .int (u_6.1 0), .int (nI (u_6.2.1 0)), .int (nI (u_6.2.1 1)), .int (u_6.1 1), .int rnumber])), ((o 15), .inl (k 1, 600, .inl f15)), ((o 2), .inr (2, [.int dlines, .int (nI dhours), .int dlaw, .int dodds, .int (nI drows), .int (nI dheads), .int (nI dsayings), .int (nI dslugs), .int (nI dacts), .ref (o 16), .ref (o 17), .ref (o 18), .ref (o 19), .ref (o 20), .ref (o 21), .ref (o 22), .ref (o 23), .ref (o 24), .ref (o 25)])), ((o 16), .inl (k 0, 12, .inl f16)), ((o 17), .inl (k 0, 12, .inl f17)), ((o 18), .inl (k 0, 12, .inl f18)), ((o 19), .inl (k 0, 12, .inl f19)), ((o 22), .inl (k 0, 4, .inl f22))] := hD.sub [6, 7, 0, 1, 2, 3, 4, 5] (by decide) rfl
      obtain ⟨hg_7, hg_8⟩ := hr_5
      refine lv_aload_n hx hb dX4_readRow_31 rfl (lv_at hl 1 rfl) ?_
      refine x_muVv (wr := [((o 1), .inr (4, [.ref (o 15), .int (nI rsize), .int rfault, .int rplace, .int (u_6.1 0), .int (nI (u_6.2.1 0)), .int (nI (u_6.2.1 1)), .int (u_6.1 1), .int rnumber])), ((o 15), .inl (k 1, 600, .inl f15)), ((o 16), .inl (k 0, 12, .inl f16)), ((o 17), .inl (k 0, 12, .inl f17)), ((o 18), .inl (k 0, 12, .inl f18)), ((o 19), .inl (k 0, 12, .inl f19))]) (As := []) S hK hP hD hZ hS hA hl mwX2_openRow lkX4_110 (ctX2_openRow l D k z o dlines dhours dlaw dodds drows dheads dsayings dslugs dacts f22 (by omega) (by omega) (by omega) (by omega) (by omega) (by omega)) [2, 7] [0, 1, 3, 4, 5, 6] rfl rfl (by decide) (by decide) (by decide) rfl rfl rfl rfl rfl ⟨Nat.le_of_ble_eq_true rfl, Nat.le_of_ble_eq_true rfl, Nat.le_of_ble_eq_true rfl⟩ dX4_readRow_32 ⟨Nat.le_of_ble_eq_true rfl, Nat.le_of_ble_eq_true rfl⟩ (fun u_10 H locs hr_9 hP hD hS => ?_)
      have hP : va_P D vwCl [((o 1), .inr (4, [.ref (o 15), .int (nI rsize), .int rfault, .int rplace, .int (u_6.1 0), .int (nI (u_6.2.1 0)), .int (nI (u_6.2.1 1)), .int (u_6.1 1), .int rnumber])), ((o 15), .inl (k 1, 600, .inl f15)), ((o 2), .inr (2, [.int dlines, .int (nI dhours), .int dlaw, .int dodds, .int (nI (u_10.2.1 0)), .int (nI dheads), .int (nI dsayings), .int (nI dslugs), .int (nI dacts), .ref (o 16), .ref (o 17), .ref (o 18), .ref (o 19), .ref (o 20), .ref (o 21), .ref (o 22), .ref (o 23), .ref (o 24), .ref (o 25)])), ((o 16), .inl (k 0, 12, .inl f16)), ((o 17), .inl (k 0, 12, .inl f17)), ((o 18), .inl (k 0, 12, .inl f18)), ((o 19), .inl (k 0, 12, .inl f19)), ((o 22), .inl (k 0, 4, .inl (u_10.2.2.1 0)))] H := hP.sub [0, 1, 6, 2, 3, 4, 5, 7] rfl
      have hD : va_D A [((o 1), .inr (4, [.ref (o 15), .int (nI rsize), .int rfault, .int rplace, .int (u_6.1 0), .int (nI (u_6.2.1 0)), .int (nI (u_6.2.1 1)), .int (u_6.1 1), .int rnumber])), ((o 15), .inl (k 1, 600, .inl f15)), ((o 2), .inr (2, [.int dlines, .int (nI dhours), .int dlaw, .int dodds, .int (nI (u_10.2.1 0)), .int (nI dheads), .int (nI dsayings), .int (nI dslugs), .int (nI dacts), .ref (o 16), .ref (o 17), .ref (o 18), .ref (o 19), .ref (o 20), .ref (o 21), .ref (o 22), .ref (o 23), .ref (o 24), .ref (o 25)])), ((o 16), .inl (k 0, 12, .inl f16)), ((o 17), .inl (k 0, 12, .inl f17)), ((o 18), .inl (k 0, 12, .inl f18)), ((o 19), .inl (k 0, 12, .inl f19)), ((o 22), .inl (k 0, 4, .inl (u_10.2.2.1 0)))] := hD.sub [0, 1, 6, 2, 3, 4, 5, 7] (by decide) rfl
      have hg_11 := hr_9
      refine lv_iconst (v := 0) hx hb dX4_readRow_35 (by decide) ?_
      refine lv_istore_n (lv' := [(2, .int 0), (0, .ref (o 1)), (1, .ref (o 2))]) hx hb dX4_readRow_36 rfl hl (by decide) rfl (fun ls hl => ?_)
      have lp_76 : ∀ (nn j_62 : Nat) (x_63 : Int32) (x_64 : Int32) (x_65 : Int32) (m_66 : Nat) (m_67 : Nat) (x_68 : Int32) (x_69 : Int32) (m_70 : Nat) (g_71 : Nat → Int32) (g_72 : Nat → Int32) (g_73 : Nat → Int32) (g_74 : Nat → Int32) (g_75 : Nat → Int32) (H : Heap) (locs : List Loc) (ls : Array Slot), j_62 ≤ 8 + 1 → 8 + 1 - j_62 < nn → m_66 ≤ 600 → m_67 ≤ 600 → m_70 ≤ 12 → va_P D vwCl [((o 1), .inr (4, [.ref (o 15), .int (nI rsize), .int x_63, .int x_64, .int x_65, .int (nI m_66), .int (nI m_67), .int x_68, .int x_69])), ((o 15), .inl (k 1, 600, .inl f15)), ((o 2), .inr (2, [.int dlines, .int (nI dhours), .int dlaw, .int dodds, .int (nI (u_10.2.1 0)), .int (nI m_70), .int (nI dsayings), .int (nI dslugs), .int (nI dacts), .ref (o 16), .ref (o 17), .ref (o 18), .ref (o 19), .ref (o 20), .ref (o 21), .ref (o 22), .ref (o 23), .ref (o 24), .ref (o 25)])), ((o 16), .inl (k 0, 12, .inl g_71)), ((o 17), .inl (k 0, 12, .inl g_72)), ((o 18), .inl (k 0, 12, .inl g_73)), ((o 19), .inl (k 0, 12, .inl g_74)), ((o 22), .inl (k 0, 4, .inl g_75))] H → va_D A [((o 1), .inr (4, [.ref (o 15), .int (nI rsize), .int x_63, .int x_64, .int x_65, .int (nI m_66), .int (nI m_67), .int x_68, .int x_69])), ((o 15), .inl (k 1, 600, .inl f15)), ((o 2), .inr (2, [.int dlines, .int (nI dhours), .int dlaw, .int dodds, .int (nI (u_10.2.1 0)), .int (nI m_70), .int (nI dsayings), .int (nI dslugs), .int (nI dacts), .ref (o 16), .ref (o 17), .ref (o 18), .ref (o 19), .ref (o 20), .ref (o 21), .ref (o 22), .ref (o 23), .ref (o 24), .ref (o 25)])), ((o 16), .inl (k 0, 12, .inl g_71)), ((o 17), .inl (k 0, 12, .inl g_72)), ((o 18), .inl (k 0, 12, .inl g_73)), ((o 19), .inl (k 0, 12, .inl g_74)), ((o 22), .inl (k 0, 4, .inl g_75))] → va_S A s.heap H locs → lv_has ls 3 [(2, .int (nI j_62)), (0, .ref (o 1)), (1, .ref (o 2))] → W p l e (Rm 7 0 0) s m args below meth c H locs 0 0 Q (F0 m 37 ls []) := by
        intro nn
        induction nn with
        | zero => intro j_62 x_63 x_64 x_65 m_66 m_67 x_68 x_69 m_70 g_71 g_72 g_73 g_74 g_75 H locs ls hjj_62 hnj_62 hbm_66 hbm_67 hbm_70; exact absurd hnj_62 (by omega)
        | succ nn ihj_62 =>
          intro j_62 x_63 x_64 x_65 m_66 m_67 x_68 x_69 m_70 g_71 g_72 g_73 g_74 g_75 H locs ls hjj_62 hnj_62 hbm_66 hbm_67 hbm_70 hP hD hS hl
          refine lv_iload_n hx hb dX4_readRow_37 rfl (lv_at hl 0 rfl) ?_
          refine lv_bipush (v := 8) hx hb dX4_readRow_38 (by decide) ?_
          refine lv_icmp_gt (tgt := 75) hx hb dX4_readRow_40 (by decide) (fun c_77 => ?_) (fun c_77 => ?_)
          · skip
            have c_77 : 8 < j_62 := (ni_lt (by decide) rfl (by omega) (by omega)).mp c_77
            refine lv_iconst (v := 0) hx hb dX4_readRow_75 (by decide) ?_
            exact x_retz S hr hlk hQ hS rfl ((fun i => ([x_63, x_64, x_65, x_68, x_69] : List (Int32)).getD i 0), (fun i => ([m_66, m_67, u_10.2.1 0, m_70] : List (Nat)).getD i 0), (fun i => ([g_71, g_72, g_73, g_74, g_75] : List (Nat → Int32)).getD i (fun _ => 0)), (fun i => ([] : List (Nat → Int64)).getD i (fun _ => 0)), (fun i => ([] : List (Int64)).getD i 0)) ⟨(show m_66 ≤ 600 by omega), (show m_67 ≤ 600 by omega), (show u_10.2.1 0 ≤ 4 by omega), (show m_70 ≤ 12 by omega)⟩ (x_B hP hD) dX4_readRow_76
          · skip
            have c_77 : ¬ 8 < j_62 := fun q => c_77 ((ni_lt (by decide) rfl (by omega) (by omega)).mpr q)
            refine lv_iload_n hx hb dX4_readRow_43 rfl (lv_at hl 0 rfl) ?_
            refine lv_if_le (tgt := 58) hx hb dX4_readRow_44 (by decide) (fun c_78 => ?_) (fun c_78 => ?_)
            · skip
              have c_78 : j_62 ≤ 0 := (ni_le rfl (by decide) (by omega) (by omega)).mp c_78
              refine lv_aload_n hx hb dX4_readRow_58 rfl (lv_at hl 1 rfl) ?_
              refine lv_aload_n hx hb dX4_readRow_59 rfl (lv_at hl 2 rfl) ?_
              refine lv_iload_n hx hb dX4_readRow_60 rfl (lv_at hl 0 rfl) ?_
              refine x_muVi (wr := []) (As := [.ref (o 2), .int (nI j_62)]) S hK hP hD hZ hS hA hl mwX4_readHead lkX4_115 (ctX4_readHead l D k z o x_63 x_64 x_65 x_68 x_69 rsize m_66 m_67 f15 dlines dhours dlaw dodds (u_10.2.1 0) m_70 dsayings dslugs dacts g_71 g_72 g_73 g_74 g_75 (nI j_62) (by omega) (by omega) (by omega) (by omega) (by omega) (by omega) (by omega) (by omega) (by omega)) [0, 1, 2, 3, 4, 5, 6, 7] [] rfl rfl (by decide) (by decide) (by decide) rfl rfl rfl rfl rfl ⟨Nat.le_of_ble_eq_true rfl, Nat.le_of_ble_eq_true rfl, Nat.le_of_ble_eq_true rfl⟩ dX4_readRow_61 ⟨Nat.le_of_ble_eq_true rfl, Nat.le_of_ble_eq_true rfl⟩ (fun r_79 u_80 H locs hr_79 hP hD hS => ?_)
              have hP : va_P D vwCl [((o 1), .inr (4, [.ref (o 15), .int (nI rsize), .int (u_80.1 0), .int (u_80.1 1), .int (u_80.1 2), .int (nI (u_80.2.1 0)), .int (nI (u_80.2.1 1)), .int (u_80.1 3), .int (u_80.1 4)])), ((o 15), .inl (k 1, 600, .inl f15)), ((o 2), .inr (2, [.int dlines, .int (nI dhours), .int dlaw, .int dodds, .int (nI (u_10.2.1 0)), .int (nI (u_80.2.1 2)), .int (nI dsayings), .int (nI dslugs), .int (nI dacts), .ref (o 16), .ref (o 17), .ref (o 18), .ref (o 19), .ref (o 20), .ref (o 21), .ref (o 22), .ref (o 23), .ref (o 24), .ref (o 25)])), ((o 16), .inl (k 0, 12, .inl (u_80.2.2.1 0))), ((o 17), .inl (k 0, 12, .inl (u_80.2.2.1 1))), ((o 18), .inl (k 0, 12, .inl (u_80.2.2.1 2))), ((o 19), .inl (k 0, 12, .inl (u_80.2.2.1 3))), ((o 22), .inl (k 0, 4, .inl (u_80.2.2.1 4)))] H := hP.sub [0, 1, 2, 3, 4, 5, 6, 7] rfl
              have hD : va_D A [((o 1), .inr (4, [.ref (o 15), .int (nI rsize), .int (u_80.1 0), .int (u_80.1 1), .int (u_80.1 2), .int (nI (u_80.2.1 0)), .int (nI (u_80.2.1 1)), .int (u_80.1 3), .int (u_80.1 4)])), ((o 15), .inl (k 1, 600, .inl f15)), ((o 2), .inr (2, [.int dlines, .int (nI dhours), .int dlaw, .int dodds, .int (nI (u_10.2.1 0)), .int (nI (u_80.2.1 2)), .int (nI dsayings), .int (nI dslugs), .int (nI dacts), .ref (o 16), .ref (o 17), .ref (o 18), .ref (o 19), .ref (o 20), .ref (o 21), .ref (o 22), .ref (o 23), .ref (o 24), .ref (o 25)])), ((o 16), .inl (k 0, 12, .inl (u_80.2.2.1 0))), ((o 17), .inl (k 0, 12, .inl (u_80.2.2.1 1))), ((o 18), .inl (k 0, 12, .inl (u_80.2.2.1 2))), ((o 19), .inl (k 0, 12, .inl (u_80.2.2.1 3))), ((o 22), .inl (k 0, 4, .inl (u_80.2.2.1 4)))] := hD.sub [0, 1, 2, 3, 4, 5, 6, 7] (by decide) rfl
              obtain ⟨hg_81, hg_82, hg_83⟩ := hr_79
              refine lv_if_ne (tgt := 69) hx hb dX4_readRow_64 (by decide) (fun c_84 => ?_) (fun c_84 => ?_)
              · skip
                refine lv_iinc (v := (nI (j_62 + 1))) (lv' := [(2, .int (nI (j_62 + 1))), (0, .ref (o 1)), (1, .ref (o 2))]) hx hb dX4_readRow_69 hl (k := 0) rfl (ni_inc _) (by decide) rfl (fun ls hl => ?_)
                refine lv_goto (tgt := 37) hx hb dX4_readRow_72 (by decide) ?_
                exact ihj_62 (j_62 + 1) (u_80.1 0) (u_80.1 1) (u_80.1 2) (u_80.2.1 0) (u_80.2.1 1) (u_80.1 3) (u_80.1 4) (u_80.2.1 2) (u_80.2.2.1 0) (u_80.2.2.1 1) (u_80.2.2.1 2) (u_80.2.2.1 3) (u_80.2.2.1 4) _ _ _ (by omega) (by omega) (by omega) (by omega) (by omega) hP hD hS (lv_sub hl [0, 1, 2] rfl)
              · skip
                refine lv_iconst (v := 0) hx hb dX4_readRow_67 (by decide) ?_
                exact x_retz S hr hlk hQ hS rfl ((fun i => ([(u_80.1 0), (u_80.1 1), (u_80.1 2), (u_80.1 3), (u_80.1 4)] : List (Int32)).getD i 0), (fun i => ([u_80.2.1 0, u_80.2.1 1, u_10.2.1 0, u_80.2.1 2] : List (Nat)).getD i 0), (fun i => ([(u_80.2.2.1 0), (u_80.2.2.1 1), (u_80.2.2.1 2), (u_80.2.2.1 3), (u_80.2.2.1 4)] : List (Nat → Int32)).getD i (fun _ => 0)), (fun i => ([] : List (Nat → Int64)).getD i (fun _ => 0)), (fun i => ([] : List (Int64)).getD i 0)) ⟨(show u_80.2.1 0 ≤ 600 by omega), (show u_80.2.1 1 ≤ 600 by omega), (show u_10.2.1 0 ≤ 4 by omega), (show u_80.2.1 2 ≤ 12 by omega)⟩ (x_B hP hD) dX4_readRow_68
            · skip
              have c_78 : ¬ j_62 ≤ 0 := fun q => c_78 ((ni_le rfl (by decide) (by omega) (by omega)).mpr q)
              refine lv_aload_n hx hb dX4_readRow_47 rfl (lv_at hl 1 rfl) ?_
              refine x_ldcS S hZ lsX4_113 dX4_readRow_48 ?_
              refine x_roVi (As := [.ref (z 5)]) S hK hP hD hZ (fun _ h => h) hA hS hA hl mwX4_isWord lkX4_54 (ctX4_isWord l D k z o x_63 x_64 x_65 x_68 x_69 rsize m_66 m_67 f15 5 (by omega) (by omega) (by omega) (by omega)) [0, 1] rfl (by decide) rfl rfl rfl rfl rfl ⟨Nat.le_of_ble_eq_true rfl, Nat.le_of_ble_eq_true rfl, Nat.le_of_ble_eq_true rfl⟩ dX4_readRow_50 ⟨Nat.le_of_ble_eq_true rfl, Nat.le_of_ble_eq_true rfl⟩ (fun r_85 H locs hr_85 hP hS => ?_)
              refine lv_if_ne (tgt := 58) hx hb dX4_readRow_53 (by decide) (fun c_87 => ?_) (fun c_87 => ?_)
              · skip
                refine lv_aload_n hx hb dX4_readRow_58 rfl (lv_at hl 1 rfl) ?_
                refine lv_aload_n hx hb dX4_readRow_59 rfl (lv_at hl 2 rfl) ?_
                refine lv_iload_n hx hb dX4_readRow_60 rfl (lv_at hl 0 rfl) ?_
                refine x_muVi (wr := []) (As := [.ref (o 2), .int (nI j_62)]) S hK hP hD hZ hS hA hl mwX4_readHead lkX4_115 (ctX4_readHead l D k z o x_63 x_64 x_65 x_68 x_69 rsize m_66 m_67 f15 dlines dhours dlaw dodds (u_10.2.1 0) m_70 dsayings dslugs dacts g_71 g_72 g_73 g_74 g_75 (nI j_62) (by omega) (by omega) (by omega) (by omega) (by omega) (by omega) (by omega) (by omega) (by omega)) [0, 1, 2, 3, 4, 5, 6, 7] [] rfl rfl (by decide) (by decide) (by decide) rfl rfl rfl rfl rfl ⟨Nat.le_of_ble_eq_true rfl, Nat.le_of_ble_eq_true rfl, Nat.le_of_ble_eq_true rfl⟩ dX4_readRow_61 ⟨Nat.le_of_ble_eq_true rfl, Nat.le_of_ble_eq_true rfl⟩ (fun r_88 u_89 H locs hr_88 hP hD hS => ?_)
                have hP : va_P D vwCl [((o 1), .inr (4, [.ref (o 15), .int (nI rsize), .int (u_89.1 0), .int (u_89.1 1), .int (u_89.1 2), .int (nI (u_89.2.1 0)), .int (nI (u_89.2.1 1)), .int (u_89.1 3), .int (u_89.1 4)])), ((o 15), .inl (k 1, 600, .inl f15)), ((o 2), .inr (2, [.int dlines, .int (nI dhours), .int dlaw, .int dodds, .int (nI (u_10.2.1 0)), .int (nI (u_89.2.1 2)), .int (nI dsayings), .int (nI dslugs), .int (nI dacts), .ref (o 16), .ref (o 17), .ref (o 18), .ref (o 19), .ref (o 20), .ref (o 21), .ref (o 22), .ref (o 23), .ref (o 24), .ref (o 25)])), ((o 16), .inl (k 0, 12, .inl (u_89.2.2.1 0))), ((o 17), .inl (k 0, 12, .inl (u_89.2.2.1 1))), ((o 18), .inl (k 0, 12, .inl (u_89.2.2.1 2))), ((o 19), .inl (k 0, 12, .inl (u_89.2.2.1 3))), ((o 22), .inl (k 0, 4, .inl (u_89.2.2.1 4)))] H := hP.sub [0, 1, 2, 3, 4, 5, 6, 7] rfl
                have hD : va_D A [((o 1), .inr (4, [.ref (o 15), .int (nI rsize), .int (u_89.1 0), .int (u_89.1 1), .int (u_89.1 2), .int (nI (u_89.2.1 0)), .int (nI (u_89.2.1 1)), .int (u_89.1 3), .int (u_89.1 4)])), ((o 15), .inl (k 1, 600, .inl f15)), ((o 2), .inr (2, [.int dlines, .int (nI dhours), .int dlaw, .int dodds, .int (nI (u_10.2.1 0)), .int (nI (u_89.2.1 2)), .int (nI dsayings), .int (nI dslugs), .int (nI dacts), .ref (o 16), .ref (o 17), .ref (o 18), .ref (o 19), .ref (o 20), .ref (o 21), .ref (o 22), .ref (o 23), .ref (o 24), .ref (o 25)])), ((o 16), .inl (k 0, 12, .inl (u_89.2.2.1 0))), ((o 17), .inl (k 0, 12, .inl (u_89.2.2.1 1))), ((o 18), .inl (k 0, 12, .inl (u_89.2.2.1 2))), ((o 19), .inl (k 0, 12, .inl (u_89.2.2.1 3))), ((o 22), .inl (k 0, 4, .inl (u_89.2.2.1 4)))] := hD.sub [0, 1, 2, 3, 4, 5, 6, 7] (by decide) rfl
                obtain ⟨hg_90, hg_91, hg_92⟩ := hr_88
                refine lv_if_ne (tgt := 69) hx hb dX4_readRow_64 (by decide) (fun c_93 => ?_) (fun c_93 => ?_)
                · skip
                  refine lv_iinc (v := (nI (j_62 + 1))) (lv' := [(2, .int (nI (j_62 + 1))), (0, .ref (o 1)), (1, .ref (o 2))]) hx hb dX4_readRow_69 hl (k := 0) rfl (ni_inc _) (by decide) rfl (fun ls hl => ?_)
                  refine lv_goto (tgt := 37) hx hb dX4_readRow_72 (by decide) ?_
                  exact ihj_62 (j_62 + 1) (u_89.1 0) (u_89.1 1) (u_89.1 2) (u_89.2.1 0) (u_89.2.1 1) (u_89.1 3) (u_89.1 4) (u_89.2.1 2) (u_89.2.2.1 0) (u_89.2.2.1 1) (u_89.2.2.1 2) (u_89.2.2.1 3) (u_89.2.2.1 4) _ _ _ (by omega) (by omega) (by omega) (by omega) (by omega) hP hD hS (lv_sub hl [0, 1, 2] rfl)
                · skip
                  refine lv_iconst (v := 0) hx hb dX4_readRow_67 (by decide) ?_
                  exact x_retz S hr hlk hQ hS rfl ((fun i => ([(u_89.1 0), (u_89.1 1), (u_89.1 2), (u_89.1 3), (u_89.1 4)] : List (Int32)).getD i 0), (fun i => ([u_89.2.1 0, u_89.2.1 1, u_10.2.1 0, u_89.2.1 2] : List (Nat)).getD i 0), (fun i => ([(u_89.2.2.1 0), (u_89.2.2.1 1), (u_89.2.2.1 2), (u_89.2.2.1 3), (u_89.2.2.1 4)] : List (Nat → Int32)).getD i (fun _ => 0)), (fun i => ([] : List (Nat → Int64)).getD i (fun _ => 0)), (fun i => ([] : List (Int64)).getD i 0)) ⟨(show u_89.2.1 0 ≤ 600 by omega), (show u_89.2.1 1 ≤ 600 by omega), (show u_10.2.1 0 ≤ 4 by omega), (show u_89.2.1 2 ≤ 12 by omega)⟩ (x_B hP hD) dX4_readRow_68
              · skip
                refine lv_iconst (v := 1) hx hb dX4_readRow_56 (by decide) ?_
                exact x_retz S hr hlk hQ hS rfl ((fun i => ([x_63, x_64, x_65, x_68, x_69] : List (Int32)).getD i 0), (fun i => ([m_66, m_67, u_10.2.1 0, m_70] : List (Nat)).getD i 0), (fun i => ([g_71, g_72, g_73, g_74, g_75] : List (Nat → Int32)).getD i (fun _ => 0)), (fun i => ([] : List (Nat → Int64)).getD i (fun _ => 0)), (fun i => ([] : List (Int64)).getD i 0)) ⟨(show m_66 ≤ 600 by omega), (show m_67 ≤ 600 by omega), (show u_10.2.1 0 ≤ 4 by omega), (show m_70 ≤ 12 by omega)⟩ (x_B hP hD) dX4_readRow_57
      exact lp_76 (8 + 1 + 1) 0 rfault rplace (u_6.1 0) (u_6.2.1 0) (u_6.2.1 1) (u_6.1 1) rnumber dheads f16 f17 f18 f19 (u_10.2.2.1 0) _ _ _ (by omega) (by omega) (by omega) (by omega) (by omega) hP hD hS (lv_sub hl [0, 1, 2] rfl)
    · skip
      have c_4 : ¬ drows < 4 := fun q => c_4 ((ni_lt rfl (by decide) (by omega) (by omega)).mpr q)
      refine lv_aload_n hx hb dX4_readRow_21 rfl (lv_at hl 0 rfl) ?_
      refine lv_iconst (v := 3) hx hb dX4_readRow_22 (by decide) ?_
      refine x_muVi (wr := [((o 2), .inr (2, [.int dlines, .int (nI dhours), .int dlaw, .int dodds, .int (nI drows), .int (nI dheads), .int (nI dsayings), .int (nI dslugs), .int (nI dacts), .ref (o 16), .ref (o 17), .ref (o 18), .ref (o 19), .ref (o 20), .ref (o 21), .ref (o 22), .ref (o 23), .ref (o 24), .ref (o 25)])), ((o 16), .inl (k 0, 12, .inl f16)), ((o 17), .inl (k 0, 12, .inl f17)), ((o 18), .inl (k 0, 12, .inl f18)), ((o 19), .inl (k 0, 12, .inl f19)), ((o 22), .inl (k 0, 4, .inl f22))]) (As := [.int 3]) S hK hP hD hZ hS hA hl mwX4_refuse lkX4_71 (ctX4_refuse l D k z o rfault rplace rkind rvalue rnumber rsize rstart rnext f15 3 (by omega) (by omega) (by omega)) [0, 1] [2, 3, 4, 5, 6, 7] rfl rfl (by decide) (by decide) (by decide) rfl rfl rfl rfl rfl ⟨Nat.le_of_ble_eq_true rfl, Nat.le_of_ble_eq_true rfl, Nat.le_of_ble_eq_true rfl⟩ dX4_readRow_23 ⟨Nat.le_of_ble_eq_true rfl, Nat.le_of_ble_eq_true rfl⟩ (fun r_94 u_95 H locs hr_94 hP hD hS => ?_)
      have hP : va_P D vwCl [((o 1), .inr (4, [.ref (o 15), .int (nI rsize), .int (u_95.1 0), .int (u_95.1 1), .int rkind, .int (nI rstart), .int (nI rnext), .int rvalue, .int rnumber])), ((o 15), .inl (k 1, 600, .inl f15)), ((o 2), .inr (2, [.int dlines, .int (nI dhours), .int dlaw, .int dodds, .int (nI drows), .int (nI dheads), .int (nI dsayings), .int (nI dslugs), .int (nI dacts), .ref (o 16), .ref (o 17), .ref (o 18), .ref (o 19), .ref (o 20), .ref (o 21), .ref (o 22), .ref (o 23), .ref (o 24), .ref (o 25)])), ((o 16), .inl (k 0, 12, .inl f16)), ((o 17), .inl (k 0, 12, .inl f17)), ((o 18), .inl (k 0, 12, .inl f18)), ((o 19), .inl (k 0, 12, .inl f19)), ((o 22), .inl (k 0, 4, .inl f22))] H := hP.sub [6, 7, 0, 1, 2, 3, 4, 5] rfl
      have hD : va_D A [((o 1), .inr (4, [.ref (o 15), .int (nI rsize), .int (u_95.1 0), .int (u_95.1 1), .int rkind, .int (nI rstart), .int (nI rnext), .int rvalue, .int rnumber])), ((o 15), .inl (k 1, 600, .inl f15)), ((o 2), .inr (2, [.int dlines, .int (nI dhours), .int dlaw, .int dodds, .int (nI drows), .int (nI dheads), .int (nI dsayings), .int (nI dslugs), .int (nI dacts), .ref (o 16), .ref (o 17), .ref (o 18), .ref (o 19), .ref (o 20), .ref (o 21), .ref (o 22), .ref (o 23), .ref (o 24), .ref (o 25)])), ((o 16), .inl (k 0, 12, .inl f16)), ((o 17), .inl (k 0, 12, .inl f17)), ((o 18), .inl (k 0, 12, .inl f18)), ((o 19), .inl (k 0, 12, .inl f19)), ((o 22), .inl (k 0, 4, .inl f22))] := hD.sub [6, 7, 0, 1, 2, 3, 4, 5] (by decide) rfl
      obtain rfl := hr_94
      exact x_retz S hr hlk hQ hS rfl ((fun i => ([(u_95.1 0), (u_95.1 1), rkind, rvalue, rnumber] : List (Int32)).getD i 0), (fun i => ([rstart, rnext, drows, dheads] : List (Nat)).getD i 0), (fun i => ([f16, f17, f18, f19, f22] : List (Nat → Int32)).getD i (fun _ => 0)), (fun i => ([] : List (Nat → Int64)).getD i (fun _ => 0)), (fun i => ([] : List (Int64)).getD i 0)) ⟨(show rstart ≤ 600 by omega), (show rnext ≤ 600 by omega), (show drows ≤ 4 by omega), (show dheads ≤ 12 by omega)⟩ (x_B hP hD) dX4_readRow_26
  · skip
    have c_3 : ¬ dsayings + dslugs + dacts ≤ 0 := fun q => c_3 ((ni_le rfl (by decide) (by omega) (by omega)).mpr q)
    refine lv_aload_n hx hb dX4_readRow_7 rfl (lv_at hl 0 rfl) ?_
    refine lv_iconst (v := 1) hx hb dX4_readRow_8 (by decide) ?_
    refine x_muVi (wr := [((o 2), .inr (2, [.int dlines, .int (nI dhours), .int dlaw, .int dodds, .int (nI drows), .int (nI dheads), .int (nI dsayings), .int (nI dslugs), .int (nI dacts), .ref (o 16), .ref (o 17), .ref (o 18), .ref (o 19), .ref (o 20), .ref (o 21), .ref (o 22), .ref (o 23), .ref (o 24), .ref (o 25)])), ((o 16), .inl (k 0, 12, .inl f16)), ((o 17), .inl (k 0, 12, .inl f17)), ((o 18), .inl (k 0, 12, .inl f18)), ((o 19), .inl (k 0, 12, .inl f19)), ((o 22), .inl (k 0, 4, .inl f22))]) (As := [.int 1]) S hK hP hD hZ hS hA hl mwX4_refuse lkX4_71 (ctX4_refuse l D k z o rfault rplace rkind rvalue rnumber rsize rstart rnext f15 1 (by omega) (by omega) (by omega)) [0, 1] [2, 3, 4, 5, 6, 7] rfl rfl (by decide) (by decide) (by decide) rfl rfl rfl rfl rfl ⟨Nat.le_of_ble_eq_true rfl, Nat.le_of_ble_eq_true rfl, Nat.le_of_ble_eq_true rfl⟩ dX4_readRow_9 ⟨Nat.le_of_ble_eq_true rfl, Nat.le_of_ble_eq_true rfl⟩ (fun r_96 u_97 H locs hr_96 hP hD hS => ?_)
    have hP : va_P D vwCl [((o 1), .inr (4, [.ref (o 15), .int (nI rsize), .int (u_97.1 0), .int (u_97.1 1), .int rkind, .int (nI rstart), .int (nI rnext), .int rvalue, .int rnumber])), ((o 15), .inl (k 1, 600, .inl f15)), ((o 2), .inr (2, [.int dlines, .int (nI dhours), .int dlaw, .int dodds, .int (nI drows), .int (nI dheads), .int (nI dsayings), .int (nI dslugs), .int (nI dacts), .ref (o 16), .ref (o 17), .ref (o 18), .ref (o 19), .ref (o 20), .ref (o 21), .ref (o 22), .ref (o 23), .ref (o 24), .ref (o 25)])), ((o 16), .inl (k 0, 12, .inl f16)), ((o 17), .inl (k 0, 12, .inl f17)), ((o 18), .inl (k 0, 12, .inl f18)), ((o 19), .inl (k 0, 12, .inl f19)), ((o 22), .inl (k 0, 4, .inl f22))] H := hP.sub [6, 7, 0, 1, 2, 3, 4, 5] rfl
    have hD : va_D A [((o 1), .inr (4, [.ref (o 15), .int (nI rsize), .int (u_97.1 0), .int (u_97.1 1), .int rkind, .int (nI rstart), .int (nI rnext), .int rvalue, .int rnumber])), ((o 15), .inl (k 1, 600, .inl f15)), ((o 2), .inr (2, [.int dlines, .int (nI dhours), .int dlaw, .int dodds, .int (nI drows), .int (nI dheads), .int (nI dsayings), .int (nI dslugs), .int (nI dacts), .ref (o 16), .ref (o 17), .ref (o 18), .ref (o 19), .ref (o 20), .ref (o 21), .ref (o 22), .ref (o 23), .ref (o 24), .ref (o 25)])), ((o 16), .inl (k 0, 12, .inl f16)), ((o 17), .inl (k 0, 12, .inl f17)), ((o 18), .inl (k 0, 12, .inl f18)), ((o 19), .inl (k 0, 12, .inl f19)), ((o 22), .inl (k 0, 4, .inl f22))] := hD.sub [6, 7, 0, 1, 2, 3, 4, 5] (by decide) rfl
    obtain rfl := hr_96
    exact x_retz S hr hlk hQ hS rfl ((fun i => ([(u_97.1 0), (u_97.1 1), rkind, rvalue, rnumber] : List (Int32)).getD i 0), (fun i => ([rstart, rnext, drows, dheads] : List (Nat)).getD i 0), (fun i => ([f16, f17, f18, f19, f22] : List (Nat → Int32)).getD i (fun _ => 0)), (fun i => ([] : List (Nat → Int64)).getD i (fun _ => 0)), (fun i => ([] : List (Int64)).getD i 0)) ⟨(show rstart ≤ 600 by omega), (show rnext ≤ 600 by omega), (show drows ≤ 4 by omega), (show dheads ≤ 12 by omega)⟩ (x_B hP hD) dX4_readRow_12

set_option maxHeartbeats 4000000 in
set_option maxRecDepth 100000 in
theorem ctX4_readLine (l : Launch) (D : va_G) (k : Nat → ClassId) (z : Nat → Nat) (o : Nat → Nat) (rfault : Int32) (rplace : Int32) (rkind : Int32) (rvalue : Int32) (rnumber : Int32) (rsize : Nat) (rstart : Nat) (rnext : Nat) (f15 : Nat → Int32) (dlines : Int32) (dhours : Nat) (dlaw : Int32) (dodds : Int32) (drows : Nat) (dheads : Nat) (dsayings : Nat) (dslugs : Nat) (dacts : Nat) (f16 : Nat → Int32) (f17 : Nat → Int32) (f18 : Nat → Int32) (f19 : Nat → Int32) (f22 : Nat → Int32) (f23 : Nat → Int32) (f24 : Nat → Int32) (f25 : Nat → Int32) (hrsize : rsize ≤ 600) (hrstart : rstart ≤ 600) (hrnext : rnext ≤ 600) (hdhours : dhours ≤ 16) (hdrows : drows ≤ 4) (hdheads : dheads ≤ 12) (hdsayings : dsayings ≤ 8) (hdslugs : dslugs ≤ 4) (hdacts : dacts ≤ 30) : MU l yX4_readLine cX4_readLine 3 (some .boolean) 8 D k z [.ref (o 1), .ref (o 2)] [((o 1), .inr (4, [.ref (o 15), .int (nI rsize), .int rfault, .int rplace, .int rkind, .int (nI rstart), .int (nI rnext), .int rvalue, .int rnumber])), ((o 15), .inl (k 1, 600, .inl f15)), ((o 2), .inr (2, [.int dlines, .int (nI dhours), .int dlaw, .int dodds, .int (nI drows), .int (nI dheads), .int (nI dsayings), .int (nI dslugs), .int (nI dacts), .ref (o 16), .ref (o 17), .ref (o 18), .ref (o 19), .ref (o 20), .ref (o 21), .ref (o 22), .ref (o 23), .ref (o 24), .ref (o 25)])), ((o 16), .inl (k 0, 12, .inl f16)), ((o 17), .inl (k 0, 12, .inl f17)), ((o 18), .inl (k 0, 12, .inl f18)), ((o 19), .inl (k 0, 12, .inl f19)), ((o 22), .inl (k 0, 4, .inl f22)), ((o 23), .inl (k 0, 42, .inl f23)), ((o 24), .inl (k 0, 42, .inl f24)), ((o 25), .inl (k 0, 42, .inl f25))] 0 0 (Ui D (fun (r : Int32) (u : (Nat → Int32) × (Nat → Nat) × (Nat → Nat → Int32) × (Nat → Nat → Int64) × (Nat → Int64)) => (u.2.1 0 ≤ 600) ∧ (u.2.1 1 ≤ 600) ∧ (u.2.1 2 ≤ 16) ∧ (u.2.1 3 ≤ 4) ∧ (u.2.1 4 ≤ 12) ∧ (u.2.1 5 ≤ 8) ∧ (u.2.1 6 ≤ 4)) (fun u : (Nat → Int32) × (Nat → Nat) × (Nat → Nat → Int32) × (Nat → Nat → Int64) × (Nat → Int64) => [((o 1), .inr (4, [.ref (o 15), .int (nI rsize), .int (u.1 0), .int (u.1 1), .int (u.1 2), .int (nI (u.2.1 0)), .int (nI (u.2.1 1)), .int (u.1 3), .int (u.1 4)])), ((o 15), .inl (k 1, 600, .inl f15)), ((o 2), .inr (2, [.int dlines, .int (nI (u.2.1 2)), .int (u.1 5), .int (u.1 6), .int (nI (u.2.1 3)), .int (nI (u.2.1 4)), .int (nI (u.2.1 5)), .int (nI (u.2.1 6)), .int (nI dacts), .ref (o 16), .ref (o 17), .ref (o 18), .ref (o 19), .ref (o 20), .ref (o 21), .ref (o 22), .ref (o 23), .ref (o 24), .ref (o 25)])), ((o 16), .inl (k 0, 12, .inl (u.2.2.1 0))), ((o 17), .inl (k 0, 12, .inl (u.2.2.1 1))), ((o 18), .inl (k 0, 12, .inl (u.2.2.1 2))), ((o 19), .inl (k 0, 12, .inl (u.2.2.1 3))), ((o 22), .inl (k 0, 4, .inl (u.2.2.1 4))), ((o 23), .inl (k 0, 42, .inl (u.2.2.1 5))), ((o 24), .inl (k 0, 42, .inl (u.2.2.1 6))), ((o 25), .inl (k 0, 42, .inl (u.2.2.1 7)))])) := by
  refine MU.of (by decide) (Nat.le_of_ble_eq_true rfl) ?_
  intro p e s m below meth c ls A args Q S hr hlk hnm hQ hK hP hD hZ hA hS hl
  have hx := S.1
  have hb := S.2.1
  have hl : lv_has ls 3 [(0, .ref (o 1)), (1, .ref (o 2))] := hl
  refine lv_aload_n hx hb dX4_readLine_0 rfl (lv_at hl 1 rfl) ?_
  refine x_get S hK hP 2 rfl cfX2 0 lkX4_43 (by decide) rfl dX4_readLine_1 ?_
  refine lv_if_ne (tgt := 16) hx hb dX4_readLine_4 (by decide) (fun c_1 => ?_) (fun c_1 => ?_)
  · skip
    refine lv_aload_n hx hb dX4_readLine_16 rfl (lv_at hl 0 rfl) ?_
    refine x_ldcS S hZ lsX4_52 dX4_readLine_17 ?_
    refine x_roVi (As := [.ref (z 4)]) S hK hP hD hZ (fun _ h => h) hA hS hA hl mwX4_isWord lkX4_54 (ctX4_isWord l D k z o rfault rplace rkind rvalue rnumber rsize rstart rnext f15 4 (by omega) (by omega) (by omega) (by omega)) [0, 1] rfl (by decide) rfl rfl rfl rfl rfl ⟨Nat.le_of_ble_eq_true rfl, Nat.le_of_ble_eq_true rfl, Nat.le_of_ble_eq_true rfl⟩ dX4_readLine_19 ⟨Nat.le_of_ble_eq_true rfl, Nat.le_of_ble_eq_true rfl⟩ (fun r_2 H locs hr_2 hP hS => ?_)
    refine lv_if_eq (tgt := 34) hx hb dX4_readLine_22 (by decide) (fun c_4 => ?_) (fun c_4 => ?_)
    · skip
      refine lv_aload_n hx hb dX4_readLine_34 rfl (lv_at hl 0 rfl) ?_
      refine x_ldcS S hZ lsX4_61 dX4_readLine_35 ?_
      refine x_roVi (As := [.ref (z 7)]) S hK hP hD hZ (fun _ h => h) hA hS hA hl mwX4_isWord lkX4_54 (ctX4_isWord l D k z o rfault rplace rkind rvalue rnumber rsize rstart rnext f15 7 (by omega) (by omega) (by omega) (by omega)) [0, 1] rfl (by decide) rfl rfl rfl rfl rfl ⟨Nat.le_of_ble_eq_true rfl, Nat.le_of_ble_eq_true rfl, Nat.le_of_ble_eq_true rfl⟩ dX4_readLine_37 ⟨Nat.le_of_ble_eq_true rfl, Nat.le_of_ble_eq_true rfl⟩ (fun r_5 H locs hr_5 hP hS => ?_)
      refine lv_if_eq (tgt := 52) hx hb dX4_readLine_40 (by decide) (fun c_7 => ?_) (fun c_7 => ?_)
      · skip
        refine lv_aload_n hx hb dX4_readLine_52 rfl (lv_at hl 0 rfl) ?_
        refine x_ldcS S hZ lsX4_66 dX4_readLine_53 ?_
        refine x_roVi (As := [.ref (z 8)]) S hK hP hD hZ (fun _ h => h) hA hS hA hl mwX4_isWord lkX4_54 (ctX4_isWord l D k z o rfault rplace rkind rvalue rnumber rsize rstart rnext f15 8 (by omega) (by omega) (by omega) (by omega)) [0, 1] rfl (by decide) rfl rfl rfl rfl rfl ⟨Nat.le_of_ble_eq_true rfl, Nat.le_of_ble_eq_true rfl, Nat.le_of_ble_eq_true rfl⟩ dX4_readLine_55 ⟨Nat.le_of_ble_eq_true rfl, Nat.le_of_ble_eq_true rfl⟩ (fun r_8 H locs hr_8 hP hS => ?_)
        refine lv_if_eq (tgt := 70) hx hb dX4_readLine_58 (by decide) (fun c_10 => ?_) (fun c_10 => ?_)
        · skip
          refine lv_aload_n hx hb dX4_readLine_70 rfl (lv_at hl 0 rfl) ?_
          refine lv_iconst (v := 1) hx hb dX4_readLine_71 (by decide) ?_
          refine x_muVi (wr := [((o 2), .inr (2, [.int dlines, .int (nI dhours), .int dlaw, .int dodds, .int (nI drows), .int (nI dheads), .int (nI dsayings), .int (nI dslugs), .int (nI dacts), .ref (o 16), .ref (o 17), .ref (o 18), .ref (o 19), .ref (o 20), .ref (o 21), .ref (o 22), .ref (o 23), .ref (o 24), .ref (o 25)])), ((o 16), .inl (k 0, 12, .inl f16)), ((o 17), .inl (k 0, 12, .inl f17)), ((o 18), .inl (k 0, 12, .inl f18)), ((o 19), .inl (k 0, 12, .inl f19)), ((o 22), .inl (k 0, 4, .inl f22)), ((o 23), .inl (k 0, 42, .inl f23)), ((o 24), .inl (k 0, 42, .inl f24)), ((o 25), .inl (k 0, 42, .inl f25))]) (As := [.int 1]) S hK hP hD hZ hS hA hl mwX4_refuse lkX4_71 (ctX4_refuse l D k z o rfault rplace rkind rvalue rnumber rsize rstart rnext f15 1 (by omega) (by omega) (by omega)) [0, 1] [2, 3, 4, 5, 6, 7, 8, 9, 10] rfl rfl (by decide) (by decide) (by decide) rfl rfl rfl rfl rfl ⟨Nat.le_of_ble_eq_true rfl, Nat.le_of_ble_eq_true rfl, Nat.le_of_ble_eq_true rfl⟩ dX4_readLine_72 ⟨Nat.le_of_ble_eq_true rfl, Nat.le_of_ble_eq_true rfl⟩ (fun r_11 u_12 H locs hr_11 hP hD hS => ?_)
          have hP : va_P D vwCl [((o 1), .inr (4, [.ref (o 15), .int (nI rsize), .int (u_12.1 0), .int (u_12.1 1), .int rkind, .int (nI rstart), .int (nI rnext), .int rvalue, .int rnumber])), ((o 15), .inl (k 1, 600, .inl f15)), ((o 2), .inr (2, [.int dlines, .int (nI dhours), .int dlaw, .int dodds, .int (nI drows), .int (nI dheads), .int (nI dsayings), .int (nI dslugs), .int (nI dacts), .ref (o 16), .ref (o 17), .ref (o 18), .ref (o 19), .ref (o 20), .ref (o 21), .ref (o 22), .ref (o 23), .ref (o 24), .ref (o 25)])), ((o 16), .inl (k 0, 12, .inl f16)), ((o 17), .inl (k 0, 12, .inl f17)), ((o 18), .inl (k 0, 12, .inl f18)), ((o 19), .inl (k 0, 12, .inl f19)), ((o 22), .inl (k 0, 4, .inl f22)), ((o 23), .inl (k 0, 42, .inl f23)), ((o 24), .inl (k 0, 42, .inl f24)), ((o 25), .inl (k 0, 42, .inl f25))] H := hP.sub [9, 10, 0, 1, 2, 3, 4, 5, 6, 7, 8] rfl
          have hD : va_D A [((o 1), .inr (4, [.ref (o 15), .int (nI rsize), .int (u_12.1 0), .int (u_12.1 1), .int rkind, .int (nI rstart), .int (nI rnext), .int rvalue, .int rnumber])), ((o 15), .inl (k 1, 600, .inl f15)), ((o 2), .inr (2, [.int dlines, .int (nI dhours), .int dlaw, .int dodds, .int (nI drows), .int (nI dheads), .int (nI dsayings), .int (nI dslugs), .int (nI dacts), .ref (o 16), .ref (o 17), .ref (o 18), .ref (o 19), .ref (o 20), .ref (o 21), .ref (o 22), .ref (o 23), .ref (o 24), .ref (o 25)])), ((o 16), .inl (k 0, 12, .inl f16)), ((o 17), .inl (k 0, 12, .inl f17)), ((o 18), .inl (k 0, 12, .inl f18)), ((o 19), .inl (k 0, 12, .inl f19)), ((o 22), .inl (k 0, 4, .inl f22)), ((o 23), .inl (k 0, 42, .inl f23)), ((o 24), .inl (k 0, 42, .inl f24)), ((o 25), .inl (k 0, 42, .inl f25))] := hD.sub [9, 10, 0, 1, 2, 3, 4, 5, 6, 7, 8] (by decide) rfl
          obtain rfl := hr_11
          refine lv_istore_n (lv' := [(2, .int 0), (0, .ref (o 1)), (1, .ref (o 2))]) hx hb dX4_readLine_75 rfl hl (by decide) rfl (fun ls hl => ?_)
          refine lv_iload_n hx hb dX4_readLine_76 rfl (lv_at hl 0 rfl) ?_
          refine lv_if_eq (tgt := 91) hx hb dX4_readLine_77 (by decide) (fun c_13 => ?_) (fun c_13 => absurd (by decide) c_13)
          refine lv_iconst (v := 0) hx hb dX4_readLine_91 (by decide) ?_
          exact x_retz S hr hlk hQ hS rfl ((fun i => ([(u_12.1 0), (u_12.1 1), rkind, rvalue, rnumber, dlaw, dodds] : List (Int32)).getD i 0), (fun i => ([rstart, rnext, dhours, drows, dheads, dsayings, dslugs] : List (Nat)).getD i 0), (fun i => ([f16, f17, f18, f19, f22, f23, f24, f25] : List (Nat → Int32)).getD i (fun _ => 0)), (fun i => ([] : List (Nat → Int64)).getD i (fun _ => 0)), (fun i => ([] : List (Int64)).getD i 0)) ⟨(show rstart ≤ 600 by omega), (show rnext ≤ 600 by omega), (show dhours ≤ 16 by omega), (show drows ≤ 4 by omega), (show dheads ≤ 12 by omega), (show dsayings ≤ 8 by omega), (show dslugs ≤ 4 by omega)⟩ (x_B hP hD) dX4_readLine_92
        · skip
          refine lv_aload_n hx hb dX4_readLine_61 rfl (lv_at hl 0 rfl) ?_
          refine lv_aload_n hx hb dX4_readLine_62 rfl (lv_at hl 1 rfl) ?_
          refine x_muVi (wr := [((o 16), .inl (k 0, 12, .inl f16)), ((o 17), .inl (k 0, 12, .inl f17)), ((o 18), .inl (k 0, 12, .inl f18)), ((o 19), .inl (k 0, 12, .inl f19)), ((o 22), .inl (k 0, 4, .inl f22))]) (As := [.ref (o 2)]) S hK hP hD hZ hS hA hl mwX4_readSlug lkX4_68 (ctX4_readSlug l D k z o rfault rplace rkind rvalue rnumber rsize rstart rnext f15 dlines dhours dlaw dodds drows dheads dsayings dslugs dacts f23 f24 f25 (by omega) (by omega) (by omega) (by omega) (by omega) (by omega) (by omega) (by omega) (by omega)) [0, 1, 2, 8, 9, 10] [3, 4, 5, 6, 7] rfl rfl (by decide) (by decide) (by decide) rfl rfl rfl rfl rfl ⟨Nat.le_of_ble_eq_true rfl, Nat.le_of_ble_eq_true rfl, Nat.le_of_ble_eq_true rfl⟩ dX4_readLine_63 ⟨Nat.le_of_ble_eq_true rfl, Nat.le_of_ble_eq_true rfl⟩ (fun r_14 u_15 H locs hr_14 hP hD hS => ?_)
          have hP : va_P D vwCl [((o 1), .inr (4, [.ref (o 15), .int (nI rsize), .int (u_15.1 0), .int (u_15.1 1), .int (u_15.1 2), .int (nI (u_15.2.1 0)), .int (nI (u_15.2.1 1)), .int (u_15.1 3), .int (u_15.1 4)])), ((o 15), .inl (k 1, 600, .inl f15)), ((o 2), .inr (2, [.int dlines, .int (nI dhours), .int dlaw, .int dodds, .int (nI drows), .int (nI dheads), .int (nI dsayings), .int (nI (u_15.2.1 2)), .int (nI dacts), .ref (o 16), .ref (o 17), .ref (o 18), .ref (o 19), .ref (o 20), .ref (o 21), .ref (o 22), .ref (o 23), .ref (o 24), .ref (o 25)])), ((o 16), .inl (k 0, 12, .inl f16)), ((o 17), .inl (k 0, 12, .inl f17)), ((o 18), .inl (k 0, 12, .inl f18)), ((o 19), .inl (k 0, 12, .inl f19)), ((o 22), .inl (k 0, 4, .inl f22)), ((o 23), .inl (k 0, 42, .inl (u_15.2.2.1 0))), ((o 24), .inl (k 0, 42, .inl (u_15.2.2.1 1))), ((o 25), .inl (k 0, 42, .inl (u_15.2.2.1 2)))] H := hP.sub [5, 6, 7, 0, 1, 2, 3, 4, 8, 9, 10] rfl
          have hD : va_D A [((o 1), .inr (4, [.ref (o 15), .int (nI rsize), .int (u_15.1 0), .int (u_15.1 1), .int (u_15.1 2), .int (nI (u_15.2.1 0)), .int (nI (u_15.2.1 1)), .int (u_15.1 3), .int (u_15.1 4)])), ((o 15), .inl (k 1, 600, .inl f15)), ((o 2), .inr (2, [.int dlines, .int (nI dhours), .int dlaw, .int dodds, .int (nI drows), .int (nI dheads), .int (nI dsayings), .int (nI (u_15.2.1 2)), .int (nI dacts), .ref (o 16), .ref (o 17), .ref (o 18), .ref (o 19), .ref (o 20), .ref (o 21), .ref (o 22), .ref (o 23), .ref (o 24), .ref (o 25)])), ((o 16), .inl (k 0, 12, .inl f16)), ((o 17), .inl (k 0, 12, .inl f17)), ((o 18), .inl (k 0, 12, .inl f18)), ((o 19), .inl (k 0, 12, .inl f19)), ((o 22), .inl (k 0, 4, .inl f22)), ((o 23), .inl (k 0, 42, .inl (u_15.2.2.1 0))), ((o 24), .inl (k 0, 42, .inl (u_15.2.2.1 1))), ((o 25), .inl (k 0, 42, .inl (u_15.2.2.1 2)))] := hD.sub [5, 6, 7, 0, 1, 2, 3, 4, 8, 9, 10] (by decide) rfl
          obtain ⟨hg_16, hg_17, hg_18⟩ := hr_14
          refine lv_istore_n (lv' := [(2, .int r_14), (0, .ref (o 1)), (1, .ref (o 2))]) hx hb dX4_readLine_66 rfl hl (by decide) rfl (fun ls hl => ?_)
          refine lv_goto (tgt := 76) hx hb dX4_readLine_67 (by decide) ?_
          refine lv_iload_n hx hb dX4_readLine_76 rfl (lv_at hl 0 rfl) ?_
          refine lv_if_eq (tgt := 91) hx hb dX4_readLine_77 (by decide) (fun c_19 => ?_) (fun c_19 => ?_)
          · skip
            refine lv_iconst (v := 0) hx hb dX4_readLine_91 (by decide) ?_
            exact x_retz S hr hlk hQ hS rfl ((fun i => ([(u_15.1 0), (u_15.1 1), (u_15.1 2), (u_15.1 3), (u_15.1 4), dlaw, dodds] : List (Int32)).getD i 0), (fun i => ([u_15.2.1 0, u_15.2.1 1, dhours, drows, dheads, dsayings, u_15.2.1 2] : List (Nat)).getD i 0), (fun i => ([f16, f17, f18, f19, f22, (u_15.2.2.1 0), (u_15.2.2.1 1), (u_15.2.2.1 2)] : List (Nat → Int32)).getD i (fun _ => 0)), (fun i => ([] : List (Nat → Int64)).getD i (fun _ => 0)), (fun i => ([] : List (Int64)).getD i 0)) ⟨(show u_15.2.1 0 ≤ 600 by omega), (show u_15.2.1 1 ≤ 600 by omega), (show dhours ≤ 16 by omega), (show drows ≤ 4 by omega), (show dheads ≤ 12 by omega), (show dsayings ≤ 8 by omega), (show u_15.2.1 2 ≤ 4 by omega)⟩ (x_B hP hD) dX4_readLine_92
          · skip
            refine lv_aload_n hx hb dX4_readLine_80 rfl (lv_at hl 1 rfl) ?_
            refine x_muVi (wr := [((o 2), .inr (2, [.int dlines, .int (nI dhours), .int dlaw, .int dodds, .int (nI drows), .int (nI dheads), .int (nI dsayings), .int (nI (u_15.2.1 2)), .int (nI dacts), .ref (o 16), .ref (o 17), .ref (o 18), .ref (o 19), .ref (o 20), .ref (o 21), .ref (o 22), .ref (o 23), .ref (o 24), .ref (o 25)])), ((o 16), .inl (k 0, 12, .inl f16)), ((o 17), .inl (k 0, 12, .inl f17)), ((o 18), .inl (k 0, 12, .inl f18)), ((o 19), .inl (k 0, 12, .inl f19)), ((o 22), .inl (k 0, 4, .inl f22)), ((o 23), .inl (k 0, 42, .inl (u_15.2.2.1 0))), ((o 24), .inl (k 0, 42, .inl (u_15.2.2.1 1))), ((o 25), .inl (k 0, 42, .inl (u_15.2.2.1 2)))]) (As := []) S hK hP hD hZ hS hA hl mwX4_takeSign lkX4_75 (ctX4_takeSign l D k z o (u_15.1 0) (u_15.1 1) (u_15.1 2) (u_15.1 3) (u_15.1 4) rsize (u_15.2.1 0) (u_15.2.1 1) f15 (by omega) (by omega) (by omega)) [0, 1] [2, 3, 4, 5, 6, 7, 8, 9, 10] rfl rfl (by decide) (by decide) (by decide) rfl rfl rfl rfl rfl ⟨Nat.le_of_ble_eq_true rfl, Nat.le_of_ble_eq_true rfl, Nat.le_of_ble_eq_true rfl⟩ dX4_readLine_81 ⟨Nat.le_of_ble_eq_true rfl, Nat.le_of_ble_eq_true rfl⟩ (fun r_20 u_21 H locs hr_20 hP hD hS => ?_)
            have hP : va_P D vwCl [((o 1), .inr (4, [.ref (o 15), .int (nI rsize), .int (u_21.1 0), .int (u_21.1 1), .int (u_21.1 2), .int (nI (u_21.2.1 0)), .int (nI (u_21.2.1 1)), .int (u_21.1 3), .int (u_15.1 4)])), ((o 15), .inl (k 1, 600, .inl f15)), ((o 2), .inr (2, [.int dlines, .int (nI dhours), .int dlaw, .int dodds, .int (nI drows), .int (nI dheads), .int (nI dsayings), .int (nI (u_15.2.1 2)), .int (nI dacts), .ref (o 16), .ref (o 17), .ref (o 18), .ref (o 19), .ref (o 20), .ref (o 21), .ref (o 22), .ref (o 23), .ref (o 24), .ref (o 25)])), ((o 16), .inl (k 0, 12, .inl f16)), ((o 17), .inl (k 0, 12, .inl f17)), ((o 18), .inl (k 0, 12, .inl f18)), ((o 19), .inl (k 0, 12, .inl f19)), ((o 22), .inl (k 0, 4, .inl f22)), ((o 23), .inl (k 0, 42, .inl (u_15.2.2.1 0))), ((o 24), .inl (k 0, 42, .inl (u_15.2.2.1 1))), ((o 25), .inl (k 0, 42, .inl (u_15.2.2.1 2)))] H := hP.sub [9, 10, 0, 1, 2, 3, 4, 5, 6, 7, 8] rfl
            have hD : va_D A [((o 1), .inr (4, [.ref (o 15), .int (nI rsize), .int (u_21.1 0), .int (u_21.1 1), .int (u_21.1 2), .int (nI (u_21.2.1 0)), .int (nI (u_21.2.1 1)), .int (u_21.1 3), .int (u_15.1 4)])), ((o 15), .inl (k 1, 600, .inl f15)), ((o 2), .inr (2, [.int dlines, .int (nI dhours), .int dlaw, .int dodds, .int (nI drows), .int (nI dheads), .int (nI dsayings), .int (nI (u_15.2.1 2)), .int (nI dacts), .ref (o 16), .ref (o 17), .ref (o 18), .ref (o 19), .ref (o 20), .ref (o 21), .ref (o 22), .ref (o 23), .ref (o 24), .ref (o 25)])), ((o 16), .inl (k 0, 12, .inl f16)), ((o 17), .inl (k 0, 12, .inl f17)), ((o 18), .inl (k 0, 12, .inl f18)), ((o 19), .inl (k 0, 12, .inl f19)), ((o 22), .inl (k 0, 4, .inl f22)), ((o 23), .inl (k 0, 42, .inl (u_15.2.2.1 0))), ((o 24), .inl (k 0, 42, .inl (u_15.2.2.1 1))), ((o 25), .inl (k 0, 42, .inl (u_15.2.2.1 2)))] := hD.sub [9, 10, 0, 1, 2, 3, 4, 5, 6, 7, 8] (by decide) rfl
            obtain ⟨hg_22, hg_23⟩ := hr_20
            refine lv_if_eq (tgt := 91) hx hb dX4_readLine_84 (by decide) (fun c_24 => ?_) (fun c_24 => ?_)
            · skip
              refine lv_iconst (v := 0) hx hb dX4_readLine_91 (by decide) ?_
              exact x_retz S hr hlk hQ hS rfl ((fun i => ([(u_21.1 0), (u_21.1 1), (u_21.1 2), (u_21.1 3), (u_15.1 4), dlaw, dodds] : List (Int32)).getD i 0), (fun i => ([u_21.2.1 0, u_21.2.1 1, dhours, drows, dheads, dsayings, u_15.2.1 2] : List (Nat)).getD i 0), (fun i => ([f16, f17, f18, f19, f22, (u_15.2.2.1 0), (u_15.2.2.1 1), (u_15.2.2.1 2)] : List (Nat → Int32)).getD i (fun _ => 0)), (fun i => ([] : List (Nat → Int64)).getD i (fun _ => 0)), (fun i => ([] : List (Int64)).getD i 0)) ⟨(show u_21.2.1 0 ≤ 600 by omega), (show u_21.2.1 1 ≤ 600 by omega), (show dhours ≤ 16 by omega), (show drows ≤ 4 by omega), (show dheads ≤ 12 by omega), (show dsayings ≤ 8 by omega), (show u_15.2.1 2 ≤ 4 by omega)⟩ (x_B hP hD) dX4_readLine_92
            · skip
              refine lv_iconst (v := 1) hx hb dX4_readLine_87 (by decide) ?_
              refine lv_goto (tgt := 92) hx hb dX4_readLine_88 (by decide) ?_
              exact x_retz S hr hlk hQ hS rfl ((fun i => ([(u_21.1 0), (u_21.1 1), (u_21.1 2), (u_21.1 3), (u_15.1 4), dlaw, dodds] : List (Int32)).getD i 0), (fun i => ([u_21.2.1 0, u_21.2.1 1, dhours, drows, dheads, dsayings, u_15.2.1 2] : List (Nat)).getD i 0), (fun i => ([f16, f17, f18, f19, f22, (u_15.2.2.1 0), (u_15.2.2.1 1), (u_15.2.2.1 2)] : List (Nat → Int32)).getD i (fun _ => 0)), (fun i => ([] : List (Nat → Int64)).getD i (fun _ => 0)), (fun i => ([] : List (Int64)).getD i 0)) ⟨(show u_21.2.1 0 ≤ 600 by omega), (show u_21.2.1 1 ≤ 600 by omega), (show dhours ≤ 16 by omega), (show drows ≤ 4 by omega), (show dheads ≤ 12 by omega), (show dsayings ≤ 8 by omega), (show u_15.2.1 2 ≤ 4 by omega)⟩ (x_B hP hD) dX4_readLine_92
      · skip
        refine lv_aload_n hx hb dX4_readLine_43 rfl (lv_at hl 0 rfl) ?_
        refine lv_aload_n hx hb dX4_readLine_44 rfl (lv_at hl 1 rfl) ?_
        refine x_muVi (wr := [((o 16), .inl (k 0, 12, .inl f16)), ((o 17), .inl (k 0, 12, .inl f17)), ((o 18), .inl (k 0, 12, .inl f18)), ((o 19), .inl (k 0, 12, .inl f19)), ((o 22), .inl (k 0, 4, .inl f22))]) (As := [.ref (o 2)]) S hK hP hD hZ hS hA hl mwX4_readSay lkX4_63 (ctX4_readSay l D k z o rfault rplace rkind rvalue rnumber rsize rstart rnext f15 dlines dhours dlaw dodds drows dheads dsayings dslugs dacts f23 f24 f25 (by omega) (by omega) (by omega) (by omega) (by omega) (by omega) (by omega) (by omega) (by omega)) [0, 1, 2, 8, 9, 10] [3, 4, 5, 6, 7] rfl rfl (by decide) (by decide) (by decide) rfl rfl rfl rfl rfl ⟨Nat.le_of_ble_eq_true rfl, Nat.le_of_ble_eq_true rfl, Nat.le_of_ble_eq_true rfl⟩ dX4_readLine_45 ⟨Nat.le_of_ble_eq_true rfl, Nat.le_of_ble_eq_true rfl⟩ (fun r_25 u_26 H locs hr_25 hP hD hS => ?_)
        have hP : va_P D vwCl [((o 1), .inr (4, [.ref (o 15), .int (nI rsize), .int (u_26.1 0), .int (u_26.1 1), .int (u_26.1 2), .int (nI (u_26.2.1 0)), .int (nI (u_26.2.1 1)), .int (u_26.1 3), .int (u_26.1 4)])), ((o 15), .inl (k 1, 600, .inl f15)), ((o 2), .inr (2, [.int dlines, .int (nI dhours), .int dlaw, .int dodds, .int (nI drows), .int (nI dheads), .int (nI (u_26.2.1 2)), .int (nI dslugs), .int (nI dacts), .ref (o 16), .ref (o 17), .ref (o 18), .ref (o 19), .ref (o 20), .ref (o 21), .ref (o 22), .ref (o 23), .ref (o 24), .ref (o 25)])), ((o 16), .inl (k 0, 12, .inl f16)), ((o 17), .inl (k 0, 12, .inl f17)), ((o 18), .inl (k 0, 12, .inl f18)), ((o 19), .inl (k 0, 12, .inl f19)), ((o 22), .inl (k 0, 4, .inl f22)), ((o 23), .inl (k 0, 42, .inl (u_26.2.2.1 0))), ((o 24), .inl (k 0, 42, .inl (u_26.2.2.1 1))), ((o 25), .inl (k 0, 42, .inl (u_26.2.2.1 2)))] H := hP.sub [5, 6, 7, 0, 1, 2, 3, 4, 8, 9, 10] rfl
        have hD : va_D A [((o 1), .inr (4, [.ref (o 15), .int (nI rsize), .int (u_26.1 0), .int (u_26.1 1), .int (u_26.1 2), .int (nI (u_26.2.1 0)), .int (nI (u_26.2.1 1)), .int (u_26.1 3), .int (u_26.1 4)])), ((o 15), .inl (k 1, 600, .inl f15)), ((o 2), .inr (2, [.int dlines, .int (nI dhours), .int dlaw, .int dodds, .int (nI drows), .int (nI dheads), .int (nI (u_26.2.1 2)), .int (nI dslugs), .int (nI dacts), .ref (o 16), .ref (o 17), .ref (o 18), .ref (o 19), .ref (o 20), .ref (o 21), .ref (o 22), .ref (o 23), .ref (o 24), .ref (o 25)])), ((o 16), .inl (k 0, 12, .inl f16)), ((o 17), .inl (k 0, 12, .inl f17)), ((o 18), .inl (k 0, 12, .inl f18)), ((o 19), .inl (k 0, 12, .inl f19)), ((o 22), .inl (k 0, 4, .inl f22)), ((o 23), .inl (k 0, 42, .inl (u_26.2.2.1 0))), ((o 24), .inl (k 0, 42, .inl (u_26.2.2.1 1))), ((o 25), .inl (k 0, 42, .inl (u_26.2.2.1 2)))] := hD.sub [5, 6, 7, 0, 1, 2, 3, 4, 8, 9, 10] (by decide) rfl
        obtain ⟨hg_27, hg_28, hg_29⟩ := hr_25
        refine lv_istore_n (lv' := [(2, .int r_25), (0, .ref (o 1)), (1, .ref (o 2))]) hx hb dX4_readLine_48 rfl hl (by decide) rfl (fun ls hl => ?_)
        refine lv_goto (tgt := 76) hx hb dX4_readLine_49 (by decide) ?_
        refine lv_iload_n hx hb dX4_readLine_76 rfl (lv_at hl 0 rfl) ?_
        refine lv_if_eq (tgt := 91) hx hb dX4_readLine_77 (by decide) (fun c_30 => ?_) (fun c_30 => ?_)
        · skip
          refine lv_iconst (v := 0) hx hb dX4_readLine_91 (by decide) ?_
          exact x_retz S hr hlk hQ hS rfl ((fun i => ([(u_26.1 0), (u_26.1 1), (u_26.1 2), (u_26.1 3), (u_26.1 4), dlaw, dodds] : List (Int32)).getD i 0), (fun i => ([u_26.2.1 0, u_26.2.1 1, dhours, drows, dheads, u_26.2.1 2, dslugs] : List (Nat)).getD i 0), (fun i => ([f16, f17, f18, f19, f22, (u_26.2.2.1 0), (u_26.2.2.1 1), (u_26.2.2.1 2)] : List (Nat → Int32)).getD i (fun _ => 0)), (fun i => ([] : List (Nat → Int64)).getD i (fun _ => 0)), (fun i => ([] : List (Int64)).getD i 0)) ⟨(show u_26.2.1 0 ≤ 600 by omega), (show u_26.2.1 1 ≤ 600 by omega), (show dhours ≤ 16 by omega), (show drows ≤ 4 by omega), (show dheads ≤ 12 by omega), (show u_26.2.1 2 ≤ 8 by omega), (show dslugs ≤ 4 by omega)⟩ (x_B hP hD) dX4_readLine_92
        · skip
          refine lv_aload_n hx hb dX4_readLine_80 rfl (lv_at hl 1 rfl) ?_
          refine x_muVi (wr := [((o 2), .inr (2, [.int dlines, .int (nI dhours), .int dlaw, .int dodds, .int (nI drows), .int (nI dheads), .int (nI (u_26.2.1 2)), .int (nI dslugs), .int (nI dacts), .ref (o 16), .ref (o 17), .ref (o 18), .ref (o 19), .ref (o 20), .ref (o 21), .ref (o 22), .ref (o 23), .ref (o 24), .ref (o 25)])), ((o 16), .inl (k 0, 12, .inl f16)), ((o 17), .inl (k 0, 12, .inl f17)), ((o 18), .inl (k 0, 12, .inl f18)), ((o 19), .inl (k 0, 12, .inl f19)), ((o 22), .inl (k 0, 4, .inl f22)), ((o 23), .inl (k 0, 42, .inl (u_26.2.2.1 0))), ((o 24), .inl (k 0, 42, .inl (u_26.2.2.1 1))), ((o 25), .inl (k 0, 42, .inl (u_26.2.2.1 2)))]) (As := []) S hK hP hD hZ hS hA hl mwX4_takeSign lkX4_75 (ctX4_takeSign l D k z o (u_26.1 0) (u_26.1 1) (u_26.1 2) (u_26.1 3) (u_26.1 4) rsize (u_26.2.1 0) (u_26.2.1 1) f15 (by omega) (by omega) (by omega)) [0, 1] [2, 3, 4, 5, 6, 7, 8, 9, 10] rfl rfl (by decide) (by decide) (by decide) rfl rfl rfl rfl rfl ⟨Nat.le_of_ble_eq_true rfl, Nat.le_of_ble_eq_true rfl, Nat.le_of_ble_eq_true rfl⟩ dX4_readLine_81 ⟨Nat.le_of_ble_eq_true rfl, Nat.le_of_ble_eq_true rfl⟩ (fun r_31 u_32 H locs hr_31 hP hD hS => ?_)
          have hP : va_P D vwCl [((o 1), .inr (4, [.ref (o 15), .int (nI rsize), .int (u_32.1 0), .int (u_32.1 1), .int (u_32.1 2), .int (nI (u_32.2.1 0)), .int (nI (u_32.2.1 1)), .int (u_32.1 3), .int (u_26.1 4)])), ((o 15), .inl (k 1, 600, .inl f15)), ((o 2), .inr (2, [.int dlines, .int (nI dhours), .int dlaw, .int dodds, .int (nI drows), .int (nI dheads), .int (nI (u_26.2.1 2)), .int (nI dslugs), .int (nI dacts), .ref (o 16), .ref (o 17), .ref (o 18), .ref (o 19), .ref (o 20), .ref (o 21), .ref (o 22), .ref (o 23), .ref (o 24), .ref (o 25)])), ((o 16), .inl (k 0, 12, .inl f16)), ((o 17), .inl (k 0, 12, .inl f17)), ((o 18), .inl (k 0, 12, .inl f18)), ((o 19), .inl (k 0, 12, .inl f19)), ((o 22), .inl (k 0, 4, .inl f22)), ((o 23), .inl (k 0, 42, .inl (u_26.2.2.1 0))), ((o 24), .inl (k 0, 42, .inl (u_26.2.2.1 1))), ((o 25), .inl (k 0, 42, .inl (u_26.2.2.1 2)))] H := hP.sub [9, 10, 0, 1, 2, 3, 4, 5, 6, 7, 8] rfl
          have hD : va_D A [((o 1), .inr (4, [.ref (o 15), .int (nI rsize), .int (u_32.1 0), .int (u_32.1 1), .int (u_32.1 2), .int (nI (u_32.2.1 0)), .int (nI (u_32.2.1 1)), .int (u_32.1 3), .int (u_26.1 4)])), ((o 15), .inl (k 1, 600, .inl f15)), ((o 2), .inr (2, [.int dlines, .int (nI dhours), .int dlaw, .int dodds, .int (nI drows), .int (nI dheads), .int (nI (u_26.2.1 2)), .int (nI dslugs), .int (nI dacts), .ref (o 16), .ref (o 17), .ref (o 18), .ref (o 19), .ref (o 20), .ref (o 21), .ref (o 22), .ref (o 23), .ref (o 24), .ref (o 25)])), ((o 16), .inl (k 0, 12, .inl f16)), ((o 17), .inl (k 0, 12, .inl f17)), ((o 18), .inl (k 0, 12, .inl f18)), ((o 19), .inl (k 0, 12, .inl f19)), ((o 22), .inl (k 0, 4, .inl f22)), ((o 23), .inl (k 0, 42, .inl (u_26.2.2.1 0))), ((o 24), .inl (k 0, 42, .inl (u_26.2.2.1 1))), ((o 25), .inl (k 0, 42, .inl (u_26.2.2.1 2)))] := hD.sub [9, 10, 0, 1, 2, 3, 4, 5, 6, 7, 8] (by decide) rfl
          obtain ⟨hg_33, hg_34⟩ := hr_31
          refine lv_if_eq (tgt := 91) hx hb dX4_readLine_84 (by decide) (fun c_35 => ?_) (fun c_35 => ?_)
          · skip
            refine lv_iconst (v := 0) hx hb dX4_readLine_91 (by decide) ?_
            exact x_retz S hr hlk hQ hS rfl ((fun i => ([(u_32.1 0), (u_32.1 1), (u_32.1 2), (u_32.1 3), (u_26.1 4), dlaw, dodds] : List (Int32)).getD i 0), (fun i => ([u_32.2.1 0, u_32.2.1 1, dhours, drows, dheads, u_26.2.1 2, dslugs] : List (Nat)).getD i 0), (fun i => ([f16, f17, f18, f19, f22, (u_26.2.2.1 0), (u_26.2.2.1 1), (u_26.2.2.1 2)] : List (Nat → Int32)).getD i (fun _ => 0)), (fun i => ([] : List (Nat → Int64)).getD i (fun _ => 0)), (fun i => ([] : List (Int64)).getD i 0)) ⟨(show u_32.2.1 0 ≤ 600 by omega), (show u_32.2.1 1 ≤ 600 by omega), (show dhours ≤ 16 by omega), (show drows ≤ 4 by omega), (show dheads ≤ 12 by omega), (show u_26.2.1 2 ≤ 8 by omega), (show dslugs ≤ 4 by omega)⟩ (x_B hP hD) dX4_readLine_92
          · skip
            refine lv_iconst (v := 1) hx hb dX4_readLine_87 (by decide) ?_
            refine lv_goto (tgt := 92) hx hb dX4_readLine_88 (by decide) ?_
            exact x_retz S hr hlk hQ hS rfl ((fun i => ([(u_32.1 0), (u_32.1 1), (u_32.1 2), (u_32.1 3), (u_26.1 4), dlaw, dodds] : List (Int32)).getD i 0), (fun i => ([u_32.2.1 0, u_32.2.1 1, dhours, drows, dheads, u_26.2.1 2, dslugs] : List (Nat)).getD i 0), (fun i => ([f16, f17, f18, f19, f22, (u_26.2.2.1 0), (u_26.2.2.1 1), (u_26.2.2.1 2)] : List (Nat → Int32)).getD i (fun _ => 0)), (fun i => ([] : List (Nat → Int64)).getD i (fun _ => 0)), (fun i => ([] : List (Int64)).getD i 0)) ⟨(show u_32.2.1 0 ≤ 600 by omega), (show u_32.2.1 1 ≤ 600 by omega), (show dhours ≤ 16 by omega), (show drows ≤ 4 by omega), (show dheads ≤ 12 by omega), (show u_26.2.1 2 ≤ 8 by omega), (show dslugs ≤ 4 by omega)⟩ (x_B hP hD) dX4_readLine_92
    · skip
      refine lv_aload_n hx hb dX4_readLine_25 rfl (lv_at hl 0 rfl) ?_
      refine lv_aload_n hx hb dX4_readLine_26 rfl (lv_at hl 1 rfl) ?_
      refine x_muVi (wr := [((o 23), .inl (k 0, 42, .inl f23)), ((o 24), .inl (k 0, 42, .inl f24)), ((o 25), .inl (k 0, 42, .inl f25))]) (As := [.ref (o 2)]) S hK hP hD hZ hS hA hl mwX4_readRow lkX4_58 (ctX4_readRow l D k z o rfault rplace rkind rvalue rnumber rsize rstart rnext f15 dlines dhours dlaw dodds drows dheads dsayings dslugs dacts f16 f17 f18 f19 f22 (by omega) (by omega) (by omega) (by omega) (by omega) (by omega) (by omega) (by omega) (by omega)) [0, 1, 2, 3, 4, 5, 6, 7] [8, 9, 10] rfl rfl (by decide) (by decide) (by decide) rfl rfl rfl rfl rfl ⟨Nat.le_of_ble_eq_true rfl, Nat.le_of_ble_eq_true rfl, Nat.le_of_ble_eq_true rfl⟩ dX4_readLine_27 ⟨Nat.le_of_ble_eq_true rfl, Nat.le_of_ble_eq_true rfl⟩ (fun r_36 u_37 H locs hr_36 hP hD hS => ?_)
      have hP : va_P D vwCl [((o 1), .inr (4, [.ref (o 15), .int (nI rsize), .int (u_37.1 0), .int (u_37.1 1), .int (u_37.1 2), .int (nI (u_37.2.1 0)), .int (nI (u_37.2.1 1)), .int (u_37.1 3), .int (u_37.1 4)])), ((o 15), .inl (k 1, 600, .inl f15)), ((o 2), .inr (2, [.int dlines, .int (nI dhours), .int dlaw, .int dodds, .int (nI (u_37.2.1 2)), .int (nI (u_37.2.1 3)), .int (nI dsayings), .int (nI dslugs), .int (nI dacts), .ref (o 16), .ref (o 17), .ref (o 18), .ref (o 19), .ref (o 20), .ref (o 21), .ref (o 22), .ref (o 23), .ref (o 24), .ref (o 25)])), ((o 16), .inl (k 0, 12, .inl (u_37.2.2.1 0))), ((o 17), .inl (k 0, 12, .inl (u_37.2.2.1 1))), ((o 18), .inl (k 0, 12, .inl (u_37.2.2.1 2))), ((o 19), .inl (k 0, 12, .inl (u_37.2.2.1 3))), ((o 22), .inl (k 0, 4, .inl (u_37.2.2.1 4))), ((o 23), .inl (k 0, 42, .inl f23)), ((o 24), .inl (k 0, 42, .inl f24)), ((o 25), .inl (k 0, 42, .inl f25))] H := hP.sub [3, 4, 5, 6, 7, 8, 9, 10, 0, 1, 2] rfl
      have hD : va_D A [((o 1), .inr (4, [.ref (o 15), .int (nI rsize), .int (u_37.1 0), .int (u_37.1 1), .int (u_37.1 2), .int (nI (u_37.2.1 0)), .int (nI (u_37.2.1 1)), .int (u_37.1 3), .int (u_37.1 4)])), ((o 15), .inl (k 1, 600, .inl f15)), ((o 2), .inr (2, [.int dlines, .int (nI dhours), .int dlaw, .int dodds, .int (nI (u_37.2.1 2)), .int (nI (u_37.2.1 3)), .int (nI dsayings), .int (nI dslugs), .int (nI dacts), .ref (o 16), .ref (o 17), .ref (o 18), .ref (o 19), .ref (o 20), .ref (o 21), .ref (o 22), .ref (o 23), .ref (o 24), .ref (o 25)])), ((o 16), .inl (k 0, 12, .inl (u_37.2.2.1 0))), ((o 17), .inl (k 0, 12, .inl (u_37.2.2.1 1))), ((o 18), .inl (k 0, 12, .inl (u_37.2.2.1 2))), ((o 19), .inl (k 0, 12, .inl (u_37.2.2.1 3))), ((o 22), .inl (k 0, 4, .inl (u_37.2.2.1 4))), ((o 23), .inl (k 0, 42, .inl f23)), ((o 24), .inl (k 0, 42, .inl f24)), ((o 25), .inl (k 0, 42, .inl f25))] := hD.sub [3, 4, 5, 6, 7, 8, 9, 10, 0, 1, 2] (by decide) rfl
      obtain ⟨hg_38, hg_39, hg_40, hg_41⟩ := hr_36
      refine lv_istore_n (lv' := [(2, .int r_36), (0, .ref (o 1)), (1, .ref (o 2))]) hx hb dX4_readLine_30 rfl hl (by decide) rfl (fun ls hl => ?_)
      refine lv_goto (tgt := 76) hx hb dX4_readLine_31 (by decide) ?_
      refine lv_iload_n hx hb dX4_readLine_76 rfl (lv_at hl 0 rfl) ?_
      refine lv_if_eq (tgt := 91) hx hb dX4_readLine_77 (by decide) (fun c_42 => ?_) (fun c_42 => ?_)
      · skip
        refine lv_iconst (v := 0) hx hb dX4_readLine_91 (by decide) ?_
        exact x_retz S hr hlk hQ hS rfl ((fun i => ([(u_37.1 0), (u_37.1 1), (u_37.1 2), (u_37.1 3), (u_37.1 4), dlaw, dodds] : List (Int32)).getD i 0), (fun i => ([u_37.2.1 0, u_37.2.1 1, dhours, u_37.2.1 2, u_37.2.1 3, dsayings, dslugs] : List (Nat)).getD i 0), (fun i => ([(u_37.2.2.1 0), (u_37.2.2.1 1), (u_37.2.2.1 2), (u_37.2.2.1 3), (u_37.2.2.1 4), f23, f24, f25] : List (Nat → Int32)).getD i (fun _ => 0)), (fun i => ([] : List (Nat → Int64)).getD i (fun _ => 0)), (fun i => ([] : List (Int64)).getD i 0)) ⟨(show u_37.2.1 0 ≤ 600 by omega), (show u_37.2.1 1 ≤ 600 by omega), (show dhours ≤ 16 by omega), (show u_37.2.1 2 ≤ 4 by omega), (show u_37.2.1 3 ≤ 12 by omega), (show dsayings ≤ 8 by omega), (show dslugs ≤ 4 by omega)⟩ (x_B hP hD) dX4_readLine_92
      · skip
        refine lv_aload_n hx hb dX4_readLine_80 rfl (lv_at hl 1 rfl) ?_
        refine x_muVi (wr := [((o 2), .inr (2, [.int dlines, .int (nI dhours), .int dlaw, .int dodds, .int (nI (u_37.2.1 2)), .int (nI (u_37.2.1 3)), .int (nI dsayings), .int (nI dslugs), .int (nI dacts), .ref (o 16), .ref (o 17), .ref (o 18), .ref (o 19), .ref (o 20), .ref (o 21), .ref (o 22), .ref (o 23), .ref (o 24), .ref (o 25)])), ((o 16), .inl (k 0, 12, .inl (u_37.2.2.1 0))), ((o 17), .inl (k 0, 12, .inl (u_37.2.2.1 1))), ((o 18), .inl (k 0, 12, .inl (u_37.2.2.1 2))), ((o 19), .inl (k 0, 12, .inl (u_37.2.2.1 3))), ((o 22), .inl (k 0, 4, .inl (u_37.2.2.1 4))), ((o 23), .inl (k 0, 42, .inl f23)), ((o 24), .inl (k 0, 42, .inl f24)), ((o 25), .inl (k 0, 42, .inl f25))]) (As := []) S hK hP hD hZ hS hA hl mwX4_takeSign lkX4_75 (ctX4_takeSign l D k z o (u_37.1 0) (u_37.1 1) (u_37.1 2) (u_37.1 3) (u_37.1 4) rsize (u_37.2.1 0) (u_37.2.1 1) f15 (by omega) (by omega) (by omega)) [0, 1] [2, 3, 4, 5, 6, 7, 8, 9, 10] rfl rfl (by decide) (by decide) (by decide) rfl rfl rfl rfl rfl ⟨Nat.le_of_ble_eq_true rfl, Nat.le_of_ble_eq_true rfl, Nat.le_of_ble_eq_true rfl⟩ dX4_readLine_81 ⟨Nat.le_of_ble_eq_true rfl, Nat.le_of_ble_eq_true rfl⟩ (fun r_43 u_44 H locs hr_43 hP hD hS => ?_)
        have hP : va_P D vwCl [((o 1), .inr (4, [.ref (o 15), .int (nI rsize), .int (u_44.1 0), .int (u_44.1 1), .int (u_44.1 2), .int (nI (u_44.2.1 0)), .int (nI (u_44.2.1 1)), .int (u_44.1 3), .int (u_37.1 4)])), ((o 15), .inl (k 1, 600, .inl f15)), ((o 2), .inr (2, [.int dlines, .int (nI dhours), .int dlaw, .int dodds, .int (nI (u_37.2.1 2)), .int (nI (u_37.2.1 3)), .int (nI dsayings), .int (nI dslugs), .int (nI dacts), .ref (o 16), .ref (o 17), .ref (o 18), .ref (o 19), .ref (o 20), .ref (o 21), .ref (o 22), .ref (o 23), .ref (o 24), .ref (o 25)])), ((o 16), .inl (k 0, 12, .inl (u_37.2.2.1 0))), ((o 17), .inl (k 0, 12, .inl (u_37.2.2.1 1))), ((o 18), .inl (k 0, 12, .inl (u_37.2.2.1 2))), ((o 19), .inl (k 0, 12, .inl (u_37.2.2.1 3))), ((o 22), .inl (k 0, 4, .inl (u_37.2.2.1 4))), ((o 23), .inl (k 0, 42, .inl f23)), ((o 24), .inl (k 0, 42, .inl f24)), ((o 25), .inl (k 0, 42, .inl f25))] H := hP.sub [9, 10, 0, 1, 2, 3, 4, 5, 6, 7, 8] rfl
        have hD : va_D A [((o 1), .inr (4, [.ref (o 15), .int (nI rsize), .int (u_44.1 0), .int (u_44.1 1), .int (u_44.1 2), .int (nI (u_44.2.1 0)), .int (nI (u_44.2.1 1)), .int (u_44.1 3), .int (u_37.1 4)])), ((o 15), .inl (k 1, 600, .inl f15)), ((o 2), .inr (2, [.int dlines, .int (nI dhours), .int dlaw, .int dodds, .int (nI (u_37.2.1 2)), .int (nI (u_37.2.1 3)), .int (nI dsayings), .int (nI dslugs), .int (nI dacts), .ref (o 16), .ref (o 17), .ref (o 18), .ref (o 19), .ref (o 20), .ref (o 21), .ref (o 22), .ref (o 23), .ref (o 24), .ref (o 25)])), ((o 16), .inl (k 0, 12, .inl (u_37.2.2.1 0))), ((o 17), .inl (k 0, 12, .inl (u_37.2.2.1 1))), ((o 18), .inl (k 0, 12, .inl (u_37.2.2.1 2))), ((o 19), .inl (k 0, 12, .inl (u_37.2.2.1 3))), ((o 22), .inl (k 0, 4, .inl (u_37.2.2.1 4))), ((o 23), .inl (k 0, 42, .inl f23)), ((o 24), .inl (k 0, 42, .inl f24)), ((o 25), .inl (k 0, 42, .inl f25))] := hD.sub [9, 10, 0, 1, 2, 3, 4, 5, 6, 7, 8] (by decide) rfl
        obtain ⟨hg_45, hg_46⟩ := hr_43
        refine lv_if_eq (tgt := 91) hx hb dX4_readLine_84 (by decide) (fun c_47 => ?_) (fun c_47 => ?_)
        · skip
          refine lv_iconst (v := 0) hx hb dX4_readLine_91 (by decide) ?_
          exact x_retz S hr hlk hQ hS rfl ((fun i => ([(u_44.1 0), (u_44.1 1), (u_44.1 2), (u_44.1 3), (u_37.1 4), dlaw, dodds] : List (Int32)).getD i 0), (fun i => ([u_44.2.1 0, u_44.2.1 1, dhours, u_37.2.1 2, u_37.2.1 3, dsayings, dslugs] : List (Nat)).getD i 0), (fun i => ([(u_37.2.2.1 0), (u_37.2.2.1 1), (u_37.2.2.1 2), (u_37.2.2.1 3), (u_37.2.2.1 4), f23, f24, f25] : List (Nat → Int32)).getD i (fun _ => 0)), (fun i => ([] : List (Nat → Int64)).getD i (fun _ => 0)), (fun i => ([] : List (Int64)).getD i 0)) ⟨(show u_44.2.1 0 ≤ 600 by omega), (show u_44.2.1 1 ≤ 600 by omega), (show dhours ≤ 16 by omega), (show u_37.2.1 2 ≤ 4 by omega), (show u_37.2.1 3 ≤ 12 by omega), (show dsayings ≤ 8 by omega), (show dslugs ≤ 4 by omega)⟩ (x_B hP hD) dX4_readLine_92
        · skip
          refine lv_iconst (v := 1) hx hb dX4_readLine_87 (by decide) ?_
          refine lv_goto (tgt := 92) hx hb dX4_readLine_88 (by decide) ?_
          exact x_retz S hr hlk hQ hS rfl ((fun i => ([(u_44.1 0), (u_44.1 1), (u_44.1 2), (u_44.1 3), (u_37.1 4), dlaw, dodds] : List (Int32)).getD i 0), (fun i => ([u_44.2.1 0, u_44.2.1 1, dhours, u_37.2.1 2, u_37.2.1 3, dsayings, dslugs] : List (Nat)).getD i 0), (fun i => ([(u_37.2.2.1 0), (u_37.2.2.1 1), (u_37.2.2.1 2), (u_37.2.2.1 3), (u_37.2.2.1 4), f23, f24, f25] : List (Nat → Int32)).getD i (fun _ => 0)), (fun i => ([] : List (Nat → Int64)).getD i (fun _ => 0)), (fun i => ([] : List (Int64)).getD i 0)) ⟨(show u_44.2.1 0 ≤ 600 by omega), (show u_44.2.1 1 ≤ 600 by omega), (show dhours ≤ 16 by omega), (show u_37.2.1 2 ≤ 4 by omega), (show u_37.2.1 3 ≤ 12 by omega), (show dsayings ≤ 8 by omega), (show dslugs ≤ 4 by omega)⟩ (x_B hP hD) dX4_readLine_92
  · skip
    refine lv_aload_n hx hb dX4_readLine_7 rfl (lv_at hl 0 rfl) ?_
    refine lv_aload_n hx hb dX4_readLine_8 rfl (lv_at hl 1 rfl) ?_
    refine x_muVi (wr := [((o 16), .inl (k 0, 12, .inl f16)), ((o 17), .inl (k 0, 12, .inl f17)), ((o 18), .inl (k 0, 12, .inl f18)), ((o 19), .inl (k 0, 12, .inl f19)), ((o 22), .inl (k 0, 4, .inl f22)), ((o 23), .inl (k 0, 42, .inl f23)), ((o 24), .inl (k 0, 42, .inl f24)), ((o 25), .inl (k 0, 42, .inl f25))]) (As := [.ref (o 2)]) S hK hP hD hZ hS hA hl mwX4_readGarden lkX4_49 (ctX4_readGarden l D k z o rfault rplace rkind rvalue rnumber rsize rstart rnext f15 dlines dhours dlaw dodds drows dheads dsayings dslugs dacts (by omega) (by omega) (by omega) (by omega) (by omega) (by omega) (by omega) (by omega) (by omega)) [0, 1, 2] [3, 4, 5, 6, 7, 8, 9, 10] rfl rfl (by decide) (by decide) (by decide) rfl rfl rfl rfl rfl ⟨Nat.le_of_ble_eq_true rfl, Nat.le_of_ble_eq_true rfl, Nat.le_of_ble_eq_true rfl⟩ dX4_readLine_9 ⟨Nat.le_of_ble_eq_true rfl, Nat.le_of_ble_eq_true rfl⟩ (fun r_48 u_49 H locs hr_48 hP hD hS => ?_)
    have hP : va_P D vwCl [((o 1), .inr (4, [.ref (o 15), .int (nI rsize), .int (u_49.1 0), .int (u_49.1 1), .int (u_49.1 2), .int (nI (u_49.2.1 0)), .int (nI (u_49.2.1 1)), .int (u_49.1 3), .int (u_49.1 4)])), ((o 15), .inl (k 1, 600, .inl f15)), ((o 2), .inr (2, [.int dlines, .int (nI (u_49.2.1 2)), .int (u_49.1 5), .int (u_49.1 6), .int (nI drows), .int (nI dheads), .int (nI dsayings), .int (nI dslugs), .int (nI dacts), .ref (o 16), .ref (o 17), .ref (o 18), .ref (o 19), .ref (o 20), .ref (o 21), .ref (o 22), .ref (o 23), .ref (o 24), .ref (o 25)])), ((o 16), .inl (k 0, 12, .inl f16)), ((o 17), .inl (k 0, 12, .inl f17)), ((o 18), .inl (k 0, 12, .inl f18)), ((o 19), .inl (k 0, 12, .inl f19)), ((o 22), .inl (k 0, 4, .inl f22)), ((o 23), .inl (k 0, 42, .inl f23)), ((o 24), .inl (k 0, 42, .inl f24)), ((o 25), .inl (k 0, 42, .inl f25))] H := hP.sub [8, 9, 10, 0, 1, 2, 3, 4, 5, 6, 7] rfl
    have hD : va_D A [((o 1), .inr (4, [.ref (o 15), .int (nI rsize), .int (u_49.1 0), .int (u_49.1 1), .int (u_49.1 2), .int (nI (u_49.2.1 0)), .int (nI (u_49.2.1 1)), .int (u_49.1 3), .int (u_49.1 4)])), ((o 15), .inl (k 1, 600, .inl f15)), ((o 2), .inr (2, [.int dlines, .int (nI (u_49.2.1 2)), .int (u_49.1 5), .int (u_49.1 6), .int (nI drows), .int (nI dheads), .int (nI dsayings), .int (nI dslugs), .int (nI dacts), .ref (o 16), .ref (o 17), .ref (o 18), .ref (o 19), .ref (o 20), .ref (o 21), .ref (o 22), .ref (o 23), .ref (o 24), .ref (o 25)])), ((o 16), .inl (k 0, 12, .inl f16)), ((o 17), .inl (k 0, 12, .inl f17)), ((o 18), .inl (k 0, 12, .inl f18)), ((o 19), .inl (k 0, 12, .inl f19)), ((o 22), .inl (k 0, 4, .inl f22)), ((o 23), .inl (k 0, 42, .inl f23)), ((o 24), .inl (k 0, 42, .inl f24)), ((o 25), .inl (k 0, 42, .inl f25))] := hD.sub [8, 9, 10, 0, 1, 2, 3, 4, 5, 6, 7] (by decide) rfl
    obtain ⟨hg_50, hg_51, hg_52⟩ := hr_48
    refine lv_istore_n (lv' := [(2, .int r_48), (0, .ref (o 1)), (1, .ref (o 2))]) hx hb dX4_readLine_12 rfl hl (by decide) rfl (fun ls hl => ?_)
    refine lv_goto (tgt := 76) hx hb dX4_readLine_13 (by decide) ?_
    refine lv_iload_n hx hb dX4_readLine_76 rfl (lv_at hl 0 rfl) ?_
    refine lv_if_eq (tgt := 91) hx hb dX4_readLine_77 (by decide) (fun c_53 => ?_) (fun c_53 => ?_)
    · skip
      refine lv_iconst (v := 0) hx hb dX4_readLine_91 (by decide) ?_
      exact x_retz S hr hlk hQ hS rfl ((fun i => ([(u_49.1 0), (u_49.1 1), (u_49.1 2), (u_49.1 3), (u_49.1 4), (u_49.1 5), (u_49.1 6)] : List (Int32)).getD i 0), (fun i => ([u_49.2.1 0, u_49.2.1 1, u_49.2.1 2, drows, dheads, dsayings, dslugs] : List (Nat)).getD i 0), (fun i => ([f16, f17, f18, f19, f22, f23, f24, f25] : List (Nat → Int32)).getD i (fun _ => 0)), (fun i => ([] : List (Nat → Int64)).getD i (fun _ => 0)), (fun i => ([] : List (Int64)).getD i 0)) ⟨(show u_49.2.1 0 ≤ 600 by omega), (show u_49.2.1 1 ≤ 600 by omega), (show u_49.2.1 2 ≤ 16 by omega), (show drows ≤ 4 by omega), (show dheads ≤ 12 by omega), (show dsayings ≤ 8 by omega), (show dslugs ≤ 4 by omega)⟩ (x_B hP hD) dX4_readLine_92
    · skip
      refine lv_aload_n hx hb dX4_readLine_80 rfl (lv_at hl 1 rfl) ?_
      refine x_muVi (wr := [((o 2), .inr (2, [.int dlines, .int (nI (u_49.2.1 2)), .int (u_49.1 5), .int (u_49.1 6), .int (nI drows), .int (nI dheads), .int (nI dsayings), .int (nI dslugs), .int (nI dacts), .ref (o 16), .ref (o 17), .ref (o 18), .ref (o 19), .ref (o 20), .ref (o 21), .ref (o 22), .ref (o 23), .ref (o 24), .ref (o 25)])), ((o 16), .inl (k 0, 12, .inl f16)), ((o 17), .inl (k 0, 12, .inl f17)), ((o 18), .inl (k 0, 12, .inl f18)), ((o 19), .inl (k 0, 12, .inl f19)), ((o 22), .inl (k 0, 4, .inl f22)), ((o 23), .inl (k 0, 42, .inl f23)), ((o 24), .inl (k 0, 42, .inl f24)), ((o 25), .inl (k 0, 42, .inl f25))]) (As := []) S hK hP hD hZ hS hA hl mwX4_takeSign lkX4_75 (ctX4_takeSign l D k z o (u_49.1 0) (u_49.1 1) (u_49.1 2) (u_49.1 3) (u_49.1 4) rsize (u_49.2.1 0) (u_49.2.1 1) f15 (by omega) (by omega) (by omega)) [0, 1] [2, 3, 4, 5, 6, 7, 8, 9, 10] rfl rfl (by decide) (by decide) (by decide) rfl rfl rfl rfl rfl ⟨Nat.le_of_ble_eq_true rfl, Nat.le_of_ble_eq_true rfl, Nat.le_of_ble_eq_true rfl⟩ dX4_readLine_81 ⟨Nat.le_of_ble_eq_true rfl, Nat.le_of_ble_eq_true rfl⟩ (fun r_54 u_55 H locs hr_54 hP hD hS => ?_)
      have hP : va_P D vwCl [((o 1), .inr (4, [.ref (o 15), .int (nI rsize), .int (u_55.1 0), .int (u_55.1 1), .int (u_55.1 2), .int (nI (u_55.2.1 0)), .int (nI (u_55.2.1 1)), .int (u_55.1 3), .int (u_49.1 4)])), ((o 15), .inl (k 1, 600, .inl f15)), ((o 2), .inr (2, [.int dlines, .int (nI (u_49.2.1 2)), .int (u_49.1 5), .int (u_49.1 6), .int (nI drows), .int (nI dheads), .int (nI dsayings), .int (nI dslugs), .int (nI dacts), .ref (o 16), .ref (o 17), .ref (o 18), .ref (o 19), .ref (o 20), .ref (o 21), .ref (o 22), .ref (o 23), .ref (o 24), .ref (o 25)])), ((o 16), .inl (k 0, 12, .inl f16)), ((o 17), .inl (k 0, 12, .inl f17)), ((o 18), .inl (k 0, 12, .inl f18)), ((o 19), .inl (k 0, 12, .inl f19)), ((o 22), .inl (k 0, 4, .inl f22)), ((o 23), .inl (k 0, 42, .inl f23)), ((o 24), .inl (k 0, 42, .inl f24)), ((o 25), .inl (k 0, 42, .inl f25))] H := hP.sub [9, 10, 0, 1, 2, 3, 4, 5, 6, 7, 8] rfl
      have hD : va_D A [((o 1), .inr (4, [.ref (o 15), .int (nI rsize), .int (u_55.1 0), .int (u_55.1 1), .int (u_55.1 2), .int (nI (u_55.2.1 0)), .int (nI (u_55.2.1 1)), .int (u_55.1 3), .int (u_49.1 4)])), ((o 15), .inl (k 1, 600, .inl f15)), ((o 2), .inr (2, [.int dlines, .int (nI (u_49.2.1 2)), .int (u_49.1 5), .int (u_49.1 6), .int (nI drows), .int (nI dheads), .int (nI dsayings), .int (nI dslugs), .int (nI dacts), .ref (o 16), .ref (o 17), .ref (o 18), .ref (o 19), .ref (o 20), .ref (o 21), .ref (o 22), .ref (o 23), .ref (o 24), .ref (o 25)])), ((o 16), .inl (k 0, 12, .inl f16)), ((o 17), .inl (k 0, 12, .inl f17)), ((o 18), .inl (k 0, 12, .inl f18)), ((o 19), .inl (k 0, 12, .inl f19)), ((o 22), .inl (k 0, 4, .inl f22)), ((o 23), .inl (k 0, 42, .inl f23)), ((o 24), .inl (k 0, 42, .inl f24)), ((o 25), .inl (k 0, 42, .inl f25))] := hD.sub [9, 10, 0, 1, 2, 3, 4, 5, 6, 7, 8] (by decide) rfl
      obtain ⟨hg_56, hg_57⟩ := hr_54
      refine lv_if_eq (tgt := 91) hx hb dX4_readLine_84 (by decide) (fun c_58 => ?_) (fun c_58 => ?_)
      · skip
        refine lv_iconst (v := 0) hx hb dX4_readLine_91 (by decide) ?_
        exact x_retz S hr hlk hQ hS rfl ((fun i => ([(u_55.1 0), (u_55.1 1), (u_55.1 2), (u_55.1 3), (u_49.1 4), (u_49.1 5), (u_49.1 6)] : List (Int32)).getD i 0), (fun i => ([u_55.2.1 0, u_55.2.1 1, u_49.2.1 2, drows, dheads, dsayings, dslugs] : List (Nat)).getD i 0), (fun i => ([f16, f17, f18, f19, f22, f23, f24, f25] : List (Nat → Int32)).getD i (fun _ => 0)), (fun i => ([] : List (Nat → Int64)).getD i (fun _ => 0)), (fun i => ([] : List (Int64)).getD i 0)) ⟨(show u_55.2.1 0 ≤ 600 by omega), (show u_55.2.1 1 ≤ 600 by omega), (show u_49.2.1 2 ≤ 16 by omega), (show drows ≤ 4 by omega), (show dheads ≤ 12 by omega), (show dsayings ≤ 8 by omega), (show dslugs ≤ 4 by omega)⟩ (x_B hP hD) dX4_readLine_92
      · skip
        refine lv_iconst (v := 1) hx hb dX4_readLine_87 (by decide) ?_
        refine lv_goto (tgt := 92) hx hb dX4_readLine_88 (by decide) ?_
        exact x_retz S hr hlk hQ hS rfl ((fun i => ([(u_55.1 0), (u_55.1 1), (u_55.1 2), (u_55.1 3), (u_49.1 4), (u_49.1 5), (u_49.1 6)] : List (Int32)).getD i 0), (fun i => ([u_55.2.1 0, u_55.2.1 1, u_49.2.1 2, drows, dheads, dsayings, dslugs] : List (Nat)).getD i 0), (fun i => ([f16, f17, f18, f19, f22, f23, f24, f25] : List (Nat → Int32)).getD i (fun _ => 0)), (fun i => ([] : List (Nat → Int64)).getD i (fun _ => 0)), (fun i => ([] : List (Int64)).getD i 0)) ⟨(show u_55.2.1 0 ≤ 600 by omega), (show u_55.2.1 1 ≤ 600 by omega), (show u_49.2.1 2 ≤ 16 by omega), (show drows ≤ 4 by omega), (show dheads ≤ 12 by omega), (show dsayings ≤ 8 by omega), (show dslugs ≤ 4 by omega)⟩ (x_B hP hD) dX4_readLine_92

set_option maxHeartbeats 4000000 in
set_option maxRecDepth 100000 in
theorem ctX4_parse (l : Launch) (D : va_G) (k : Nat → ClassId) (z : Nat → Nat) (o : Nat → Nat) (rfault : Int32) (rplace : Int32) (rkind : Int32) (rvalue : Int32) (rnumber : Int32) (rsize : Nat) (rstart : Nat) (rnext : Nat) (f15 : Nat → Int32) (dlines : Int32) (dhours : Nat) (dlaw : Int32) (dodds : Int32) (drows : Nat) (dheads : Nat) (dsayings : Nat) (dslugs : Nat) (dacts : Nat) (f16 : Nat → Int32) (f17 : Nat → Int32) (f18 : Nat → Int32) (f19 : Nat → Int32) (f20 : Nat → Int32) (f21 : Nat → Int32) (f22 : Nat → Int32) (f23 : Nat → Int32) (f24 : Nat → Int32) (f25 : Nat → Int32) (hrsize : rsize ≤ 600) (hrstart : rstart ≤ 600) (hrnext : rnext ≤ 600) (hdhours : dhours ≤ 16) (hdrows : drows ≤ 4) (hdheads : dheads ≤ 12) (hdsayings : dsayings ≤ 8) (hdslugs : dslugs ≤ 4) (hdacts : dacts ≤ 30) : MU l yX4_parse cX4_parse 3 (some .boolean) 9 D k z [.ref (o 1), .ref (o 2)] [((o 1), .inr (4, [.ref (o 15), .int (nI rsize), .int rfault, .int rplace, .int rkind, .int (nI rstart), .int (nI rnext), .int rvalue, .int rnumber])), ((o 15), .inl (k 1, 600, .inl f15)), ((o 2), .inr (2, [.int dlines, .int (nI dhours), .int dlaw, .int dodds, .int (nI drows), .int (nI dheads), .int (nI dsayings), .int (nI dslugs), .int (nI dacts), .ref (o 16), .ref (o 17), .ref (o 18), .ref (o 19), .ref (o 20), .ref (o 21), .ref (o 22), .ref (o 23), .ref (o 24), .ref (o 25)])), ((o 16), .inl (k 0, 12, .inl f16)), ((o 17), .inl (k 0, 12, .inl f17)), ((o 18), .inl (k 0, 12, .inl f18)), ((o 19), .inl (k 0, 12, .inl f19)), ((o 20), .inl (k 0, 12, .inl f20)), ((o 21), .inl (k 0, 12, .inl f21)), ((o 22), .inl (k 0, 4, .inl f22)), ((o 23), .inl (k 0, 42, .inl f23)), ((o 24), .inl (k 0, 42, .inl f24)), ((o 25), .inl (k 0, 42, .inl f25))] 0 0 (Ui D (fun (r : Int32) (u : (Nat → Int32) × (Nat → Nat) × (Nat → Nat → Int32) × (Nat → Nat → Int64) × (Nat → Int64)) => (u.2.1 0 ≤ 600) ∧ (u.2.1 1 ≤ 600) ∧ (u.2.1 2 ≤ 16) ∧ (u.2.1 3 ≤ 4) ∧ (u.2.1 4 ≤ 12) ∧ (u.2.1 5 ≤ 8) ∧ (u.2.1 6 ≤ 4) ∧ (u.2.1 7 ≤ 30)) (fun u : (Nat → Int32) × (Nat → Nat) × (Nat → Nat → Int32) × (Nat → Nat → Int64) × (Nat → Int64) => [((o 1), .inr (4, [.ref (o 15), .int (nI rsize), .int (u.1 0), .int (u.1 1), .int (u.1 2), .int (nI (u.2.1 0)), .int (nI (u.2.1 1)), .int (u.1 3), .int (u.1 4)])), ((o 15), .inl (k 1, 600, .inl f15)), ((o 2), .inr (2, [.int (u.1 5), .int (nI (u.2.1 2)), .int (u.1 6), .int (u.1 7), .int (nI (u.2.1 3)), .int (nI (u.2.1 4)), .int (nI (u.2.1 5)), .int (nI (u.2.1 6)), .int (nI (u.2.1 7)), .ref (o 16), .ref (o 17), .ref (o 18), .ref (o 19), .ref (o 20), .ref (o 21), .ref (o 22), .ref (o 23), .ref (o 24), .ref (o 25)])), ((o 16), .inl (k 0, 12, .inl (u.2.2.1 0))), ((o 17), .inl (k 0, 12, .inl (u.2.2.1 1))), ((o 18), .inl (k 0, 12, .inl (u.2.2.1 2))), ((o 19), .inl (k 0, 12, .inl (u.2.2.1 3))), ((o 20), .inl (k 0, 12, .inl (u.2.2.1 4))), ((o 21), .inl (k 0, 12, .inl (u.2.2.1 5))), ((o 22), .inl (k 0, 4, .inl (u.2.2.1 6))), ((o 23), .inl (k 0, 42, .inl (u.2.2.1 7))), ((o 24), .inl (k 0, 42, .inl (u.2.2.1 8))), ((o 25), .inl (k 0, 42, .inl (u.2.2.1 9)))])) := by
  refine MU.of (by decide) (Nat.le_of_ble_eq_true rfl) ?_
  intro p e s m below meth c ls A args Q S hr hlk hnm hQ hK hP hD hZ hA hS hl
  have hx := S.1
  have hb := S.2.1
  have hl : lv_has ls 3 [(0, .ref (o 1)), (1, .ref (o 2))] := hl
  refine lv_aload_n hx hb dX4_parse_0 rfl (lv_at hl 1 rfl) ?_
  refine x_muVv (wr := [((o 1), .inr (4, [.ref (o 15), .int (nI rsize), .int rfault, .int rplace, .int rkind, .int (nI rstart), .int (nI rnext), .int rvalue, .int rnumber])), ((o 15), .inl (k 1, 600, .inl f15)), ((o 16), .inl (k 0, 12, .inl f16)), ((o 17), .inl (k 0, 12, .inl f17)), ((o 18), .inl (k 0, 12, .inl f18)), ((o 19), .inl (k 0, 12, .inl f19)), ((o 20), .inl (k 0, 12, .inl f20)), ((o 21), .inl (k 0, 12, .inl f21)), ((o 22), .inl (k 0, 4, .inl f22)), ((o 23), .inl (k 0, 42, .inl f23)), ((o 24), .inl (k 0, 42, .inl f24)), ((o 25), .inl (k 0, 42, .inl f25))]) (As := []) S hK hP hD hZ hS hA hl mwX2_clear lkX4_22 (ctX2_clear l D k z o dlines dhours dlaw dodds drows dheads dsayings dslugs dacts (by omega) (by omega) (by omega) (by omega) (by omega) (by omega)) [2] [0, 1, 3, 4, 5, 6, 7, 8, 9, 10, 11, 12] rfl rfl (by decide) (by decide) (by decide) rfl rfl rfl rfl rfl ⟨Nat.le_of_ble_eq_true rfl, Nat.le_of_ble_eq_true rfl, Nat.le_of_ble_eq_true rfl⟩ dX4_parse_1 ⟨Nat.le_of_ble_eq_true rfl, Nat.le_of_ble_eq_true rfl⟩ (fun u_2 H locs hr_1 hP hD hS => ?_)
  have hP : va_P D vwCl [((o 1), .inr (4, [.ref (o 15), .int (nI rsize), .int rfault, .int rplace, .int rkind, .int (nI rstart), .int (nI rnext), .int rvalue, .int rnumber])), ((o 15), .inl (k 1, 600, .inl f15)), ((o 2), .inr (2, [.int (u_2.1 0), .int (nI (u_2.2.1 0)), .int (u_2.1 1), .int (u_2.1 2), .int (nI (u_2.2.1 1)), .int (nI (u_2.2.1 2)), .int (nI (u_2.2.1 3)), .int (nI (u_2.2.1 4)), .int (nI (u_2.2.1 5)), .ref (o 16), .ref (o 17), .ref (o 18), .ref (o 19), .ref (o 20), .ref (o 21), .ref (o 22), .ref (o 23), .ref (o 24), .ref (o 25)])), ((o 16), .inl (k 0, 12, .inl f16)), ((o 17), .inl (k 0, 12, .inl f17)), ((o 18), .inl (k 0, 12, .inl f18)), ((o 19), .inl (k 0, 12, .inl f19)), ((o 20), .inl (k 0, 12, .inl f20)), ((o 21), .inl (k 0, 12, .inl f21)), ((o 22), .inl (k 0, 4, .inl f22)), ((o 23), .inl (k 0, 42, .inl f23)), ((o 24), .inl (k 0, 42, .inl f24)), ((o 25), .inl (k 0, 42, .inl f25))] H := hP.sub [0, 1, 12, 2, 3, 4, 5, 6, 7, 8, 9, 10, 11] rfl
  have hD : va_D A [((o 1), .inr (4, [.ref (o 15), .int (nI rsize), .int rfault, .int rplace, .int rkind, .int (nI rstart), .int (nI rnext), .int rvalue, .int rnumber])), ((o 15), .inl (k 1, 600, .inl f15)), ((o 2), .inr (2, [.int (u_2.1 0), .int (nI (u_2.2.1 0)), .int (u_2.1 1), .int (u_2.1 2), .int (nI (u_2.2.1 1)), .int (nI (u_2.2.1 2)), .int (nI (u_2.2.1 3)), .int (nI (u_2.2.1 4)), .int (nI (u_2.2.1 5)), .ref (o 16), .ref (o 17), .ref (o 18), .ref (o 19), .ref (o 20), .ref (o 21), .ref (o 22), .ref (o 23), .ref (o 24), .ref (o 25)])), ((o 16), .inl (k 0, 12, .inl f16)), ((o 17), .inl (k 0, 12, .inl f17)), ((o 18), .inl (k 0, 12, .inl f18)), ((o 19), .inl (k 0, 12, .inl f19)), ((o 20), .inl (k 0, 12, .inl f20)), ((o 21), .inl (k 0, 12, .inl f21)), ((o 22), .inl (k 0, 4, .inl f22)), ((o 23), .inl (k 0, 42, .inl f23)), ((o 24), .inl (k 0, 42, .inl f24)), ((o 25), .inl (k 0, 42, .inl f25))] := hD.sub [0, 1, 12, 2, 3, 4, 5, 6, 7, 8, 9, 10, 11] (by decide) rfl
  obtain ⟨hg_3, hg_4, hg_5, hg_6, hg_7, hg_8⟩ := hr_1
  refine lv_aload_n hx hb dX4_parse_4 rfl (lv_at hl 0 rfl) ?_
  refine lv_iconst (v := 0) hx hb dX4_parse_5 (by decide) ?_
  refine x_put (ws' := [((o 1), .inr (4, [.ref (o 15), .int (nI rsize), .int 0, .int rplace, .int rkind, .int (nI rstart), .int (nI rnext), .int rvalue, .int rnumber])), ((o 15), .inl (k 1, 600, .inl f15)), ((o 2), .inr (2, [.int (u_2.1 0), .int (nI (u_2.2.1 0)), .int (u_2.1 1), .int (u_2.1 2), .int (nI (u_2.2.1 1)), .int (nI (u_2.2.1 2)), .int (nI (u_2.2.1 3)), .int (nI (u_2.2.1 4)), .int (nI (u_2.2.1 5)), .ref (o 16), .ref (o 17), .ref (o 18), .ref (o 19), .ref (o 20), .ref (o 21), .ref (o 22), .ref (o 23), .ref (o 24), .ref (o 25)])), ((o 16), .inl (k 0, 12, .inl f16)), ((o 17), .inl (k 0, 12, .inl f17)), ((o 18), .inl (k 0, 12, .inl f18)), ((o 19), .inl (k 0, 12, .inl f19)), ((o 20), .inl (k 0, 12, .inl f20)), ((o 21), .inl (k 0, 12, .inl f21)), ((o 22), .inl (k 0, 4, .inl f22)), ((o 23), .inl (k 0, 42, .inl f23)), ((o 24), .inl (k 0, 42, .inl f24)), ((o 25), .inl (k 0, 42, .inl f25))]) S hK hP hD hS 0 rfl cfX4 2 lkX4_27 (by decide) rfl rfl rfl (Nat.le_of_ble_eq_true rfl) rfl dX4_parse_6 (fun H locs hP hD hS => ?_)
  refine lv_aload_n hx hb dX4_parse_9 rfl (lv_at hl 0 rfl) ?_
  refine lv_iconst (v := (-1)) hx hb dX4_parse_10 (by decide) ?_
  refine x_put (ws' := [((o 1), .inr (4, [.ref (o 15), .int (nI rsize), .int 0, .int (-1), .int rkind, .int (nI rstart), .int (nI rnext), .int rvalue, .int rnumber])), ((o 15), .inl (k 1, 600, .inl f15)), ((o 2), .inr (2, [.int (u_2.1 0), .int (nI (u_2.2.1 0)), .int (u_2.1 1), .int (u_2.1 2), .int (nI (u_2.2.1 1)), .int (nI (u_2.2.1 2)), .int (nI (u_2.2.1 3)), .int (nI (u_2.2.1 4)), .int (nI (u_2.2.1 5)), .ref (o 16), .ref (o 17), .ref (o 18), .ref (o 19), .ref (o 20), .ref (o 21), .ref (o 22), .ref (o 23), .ref (o 24), .ref (o 25)])), ((o 16), .inl (k 0, 12, .inl f16)), ((o 17), .inl (k 0, 12, .inl f17)), ((o 18), .inl (k 0, 12, .inl f18)), ((o 19), .inl (k 0, 12, .inl f19)), ((o 20), .inl (k 0, 12, .inl f20)), ((o 21), .inl (k 0, 12, .inl f21)), ((o 22), .inl (k 0, 4, .inl f22)), ((o 23), .inl (k 0, 42, .inl f23)), ((o 24), .inl (k 0, 42, .inl f24)), ((o 25), .inl (k 0, 42, .inl f25))]) S hK hP hD hS 0 rfl cfX4 3 lkX4_15 (by decide) rfl rfl rfl (Nat.le_of_ble_eq_true rfl) rfl dX4_parse_11 (fun H locs hP hD hS => ?_)
  refine lv_aload_n hx hb dX4_parse_14 rfl (lv_at hl 0 rfl) ?_
  refine lv_iconst (v := 0) hx hb dX4_parse_15 (by decide) ?_
  refine x_put (ws' := [((o 1), .inr (4, [.ref (o 15), .int (nI rsize), .int 0, .int (-1), .int rkind, .int (nI rstart), .int 0, .int rvalue, .int rnumber])), ((o 15), .inl (k 1, 600, .inl f15)), ((o 2), .inr (2, [.int (u_2.1 0), .int (nI (u_2.2.1 0)), .int (u_2.1 1), .int (u_2.1 2), .int (nI (u_2.2.1 1)), .int (nI (u_2.2.1 2)), .int (nI (u_2.2.1 3)), .int (nI (u_2.2.1 4)), .int (nI (u_2.2.1 5)), .ref (o 16), .ref (o 17), .ref (o 18), .ref (o 19), .ref (o 20), .ref (o 21), .ref (o 22), .ref (o 23), .ref (o 24), .ref (o 25)])), ((o 16), .inl (k 0, 12, .inl f16)), ((o 17), .inl (k 0, 12, .inl f17)), ((o 18), .inl (k 0, 12, .inl f18)), ((o 19), .inl (k 0, 12, .inl f19)), ((o 20), .inl (k 0, 12, .inl f20)), ((o 21), .inl (k 0, 12, .inl f21)), ((o 22), .inl (k 0, 4, .inl f22)), ((o 23), .inl (k 0, 42, .inl f23)), ((o 24), .inl (k 0, 42, .inl f24)), ((o 25), .inl (k 0, 42, .inl f25))]) S hK hP hD hS 0 rfl cfX4 6 lkX4_30 (by decide) rfl rfl rfl (Nat.le_of_ble_eq_true rfl) rfl dX4_parse_16 (fun H locs hP hD hS => ?_)
  refine lv_aload_n hx hb dX4_parse_19 rfl (lv_at hl 0 rfl) ?_
  refine x_muVv (wr := [((o 2), .inr (2, [.int (u_2.1 0), .int (nI (u_2.2.1 0)), .int (u_2.1 1), .int (u_2.1 2), .int (nI (u_2.2.1 1)), .int (nI (u_2.2.1 2)), .int (nI (u_2.2.1 3)), .int (nI (u_2.2.1 4)), .int (nI (u_2.2.1 5)), .ref (o 16), .ref (o 17), .ref (o 18), .ref (o 19), .ref (o 20), .ref (o 21), .ref (o 22), .ref (o 23), .ref (o 24), .ref (o 25)])), ((o 16), .inl (k 0, 12, .inl f16)), ((o 17), .inl (k 0, 12, .inl f17)), ((o 18), .inl (k 0, 12, .inl f18)), ((o 19), .inl (k 0, 12, .inl f19)), ((o 20), .inl (k 0, 12, .inl f20)), ((o 21), .inl (k 0, 12, .inl f21)), ((o 22), .inl (k 0, 4, .inl f22)), ((o 23), .inl (k 0, 42, .inl f23)), ((o 24), .inl (k 0, 42, .inl f24)), ((o 25), .inl (k 0, 42, .inl f25))]) (As := []) S hK hP hD hZ hS hA hl mwX4_advance lkX4_33 (ctX4_advance l D k z o 0 (-1) rkind rvalue rnumber rsize rstart 0 f15 (by omega) (by omega) (by omega)) [0, 1] [2, 3, 4, 5, 6, 7, 8, 9, 10, 11, 12] rfl rfl (by decide) (by decide) (by decide) rfl rfl rfl rfl rfl ⟨Nat.le_of_ble_eq_true rfl, Nat.le_of_ble_eq_true rfl, Nat.le_of_ble_eq_true rfl⟩ dX4_parse_20 ⟨Nat.le_of_ble_eq_true rfl, Nat.le_of_ble_eq_true rfl⟩ (fun u_10 H locs hr_9 hP hD hS => ?_)
  have hP : va_P D vwCl [((o 1), .inr (4, [.ref (o 15), .int (nI rsize), .int 0, .int (-1), .int (u_10.1 0), .int (nI (u_10.2.1 0)), .int (nI (u_10.2.1 1)), .int (u_10.1 1), .int rnumber])), ((o 15), .inl (k 1, 600, .inl f15)), ((o 2), .inr (2, [.int (u_2.1 0), .int (nI (u_2.2.1 0)), .int (u_2.1 1), .int (u_2.1 2), .int (nI (u_2.2.1 1)), .int (nI (u_2.2.1 2)), .int (nI (u_2.2.1 3)), .int (nI (u_2.2.1 4)), .int (nI (u_2.2.1 5)), .ref (o 16), .ref (o 17), .ref (o 18), .ref (o 19), .ref (o 20), .ref (o 21), .ref (o 22), .ref (o 23), .ref (o 24), .ref (o 25)])), ((o 16), .inl (k 0, 12, .inl f16)), ((o 17), .inl (k 0, 12, .inl f17)), ((o 18), .inl (k 0, 12, .inl f18)), ((o 19), .inl (k 0, 12, .inl f19)), ((o 20), .inl (k 0, 12, .inl f20)), ((o 21), .inl (k 0, 12, .inl f21)), ((o 22), .inl (k 0, 4, .inl f22)), ((o 23), .inl (k 0, 42, .inl f23)), ((o 24), .inl (k 0, 42, .inl f24)), ((o 25), .inl (k 0, 42, .inl f25))] H := hP.sub [11, 12, 0, 1, 2, 3, 4, 5, 6, 7, 8, 9, 10] rfl
  have hD : va_D A [((o 1), .inr (4, [.ref (o 15), .int (nI rsize), .int 0, .int (-1), .int (u_10.1 0), .int (nI (u_10.2.1 0)), .int (nI (u_10.2.1 1)), .int (u_10.1 1), .int rnumber])), ((o 15), .inl (k 1, 600, .inl f15)), ((o 2), .inr (2, [.int (u_2.1 0), .int (nI (u_2.2.1 0)), .int (u_2.1 1), .int (u_2.1 2), .int (nI (u_2.2.1 1)), .int (nI (u_2.2.1 2)), .int (nI (u_2.2.1 3)), .int (nI (u_2.2.1 4)), .int (nI (u_2.2.1 5)), .ref (o 16), .ref (o 17), .ref (o 18), .ref (o 19), .ref (o 20), .ref (o 21), .ref (o 22), .ref (o 23), .ref (o 24), .ref (o 25)])), ((o 16), .inl (k 0, 12, .inl f16)), ((o 17), .inl (k 0, 12, .inl f17)), ((o 18), .inl (k 0, 12, .inl f18)), ((o 19), .inl (k 0, 12, .inl f19)), ((o 20), .inl (k 0, 12, .inl f20)), ((o 21), .inl (k 0, 12, .inl f21)), ((o 22), .inl (k 0, 4, .inl f22)), ((o 23), .inl (k 0, 42, .inl f23)), ((o 24), .inl (k 0, 42, .inl f24)), ((o 25), .inl (k 0, 42, .inl f25))] := hD.sub [11, 12, 0, 1, 2, 3, 4, 5, 6, 7, 8, 9, 10] (by decide) rfl
  obtain ⟨hg_11, hg_12⟩ := hr_9
  refine lv_iconst (v := 0) hx hb dX4_parse_23 (by decide) ?_
  refine lv_istore_n (lv' := [(2, .int 0), (0, .ref (o 1)), (1, .ref (o 2))]) hx hb dX4_parse_24 rfl hl (by decide) rfl (fun ls hl => ?_)
  have lp_89 : ∀ (nn j_65 : Nat) (x_66 : Int32) (x_67 : Int32) (x_68 : Int32) (m_69 : Nat) (m_70 : Nat) (x_71 : Int32) (x_72 : Int32) (x_73 : Int32) (m_74 : Nat) (x_75 : Int32) (x_76 : Int32) (m_77 : Nat) (m_78 : Nat) (m_79 : Nat) (m_80 : Nat) (g_81 : Nat → Int32) (g_82 : Nat → Int32) (g_83 : Nat → Int32) (g_84 : Nat → Int32) (g_85 : Nat → Int32) (g_86 : Nat → Int32) (g_87 : Nat → Int32) (g_88 : Nat → Int32) (H : Heap) (locs : List Loc) (ls : Array Slot), j_65 ≤ 600 → 600 - j_65 < nn → m_69 ≤ 600 → m_70 ≤ 600 → m_74 ≤ 16 → m_77 ≤ 4 → m_78 ≤ 12 → m_79 ≤ 8 → m_80 ≤ 4 → va_P D vwCl [((o 1), .inr (4, [.ref (o 15), .int (nI rsize), .int x_66, .int x_67, .int x_68, .int (nI m_69), .int (nI m_70), .int x_71, .int x_72])), ((o 15), .inl (k 1, 600, .inl f15)), ((o 2), .inr (2, [.int x_73, .int (nI m_74), .int x_75, .int x_76, .int (nI m_77), .int (nI m_78), .int (nI m_79), .int (nI m_80), .int (nI (u_2.2.1 5)), .ref (o 16), .ref (o 17), .ref (o 18), .ref (o 19), .ref (o 20), .ref (o 21), .ref (o 22), .ref (o 23), .ref (o 24), .ref (o 25)])), ((o 16), .inl (k 0, 12, .inl g_81)), ((o 17), .inl (k 0, 12, .inl g_82)), ((o 18), .inl (k 0, 12, .inl g_83)), ((o 19), .inl (k 0, 12, .inl g_84)), ((o 20), .inl (k 0, 12, .inl f20)), ((o 21), .inl (k 0, 12, .inl f21)), ((o 22), .inl (k 0, 4, .inl g_85)), ((o 23), .inl (k 0, 42, .inl g_86)), ((o 24), .inl (k 0, 42, .inl g_87)), ((o 25), .inl (k 0, 42, .inl g_88))] H → va_D A [((o 1), .inr (4, [.ref (o 15), .int (nI rsize), .int x_66, .int x_67, .int x_68, .int (nI m_69), .int (nI m_70), .int x_71, .int x_72])), ((o 15), .inl (k 1, 600, .inl f15)), ((o 2), .inr (2, [.int x_73, .int (nI m_74), .int x_75, .int x_76, .int (nI m_77), .int (nI m_78), .int (nI m_79), .int (nI m_80), .int (nI (u_2.2.1 5)), .ref (o 16), .ref (o 17), .ref (o 18), .ref (o 19), .ref (o 20), .ref (o 21), .ref (o 22), .ref (o 23), .ref (o 24), .ref (o 25)])), ((o 16), .inl (k 0, 12, .inl g_81)), ((o 17), .inl (k 0, 12, .inl g_82)), ((o 18), .inl (k 0, 12, .inl g_83)), ((o 19), .inl (k 0, 12, .inl g_84)), ((o 20), .inl (k 0, 12, .inl f20)), ((o 21), .inl (k 0, 12, .inl f21)), ((o 22), .inl (k 0, 4, .inl g_85)), ((o 23), .inl (k 0, 42, .inl g_86)), ((o 24), .inl (k 0, 42, .inl g_87)), ((o 25), .inl (k 0, 42, .inl g_88))] → va_S A s.heap H locs → lv_has ls 3 [(2, .int (nI j_65)), (0, .ref (o 1)), (1, .ref (o 2))] → W p l e (Rm 9 0 0) s m args below meth c H locs 0 0 Q (F0 m 25 ls []) := by
    intro nn
    induction nn with
    | zero => intro j_65 x_66 x_67 x_68 m_69 m_70 x_71 x_72 x_73 m_74 x_75 x_76 m_77 m_78 m_79 m_80 g_81 g_82 g_83 g_84 g_85 g_86 g_87 g_88 H locs ls hjj_65 hnj_65 hbm_69 hbm_70 hbm_74 hbm_77 hbm_78 hbm_79 hbm_80; exact absurd hnj_65 (by omega)
    | succ nn ihj_65 =>
      intro j_65 x_66 x_67 x_68 m_69 m_70 x_71 x_72 x_73 m_74 x_75 x_76 m_77 m_78 m_79 m_80 g_81 g_82 g_83 g_84 g_85 g_86 g_87 g_88 H locs ls hjj_65 hnj_65 hbm_69 hbm_70 hbm_74 hbm_77 hbm_78 hbm_79 hbm_80 hP hD hS hl
      refine lv_iload_n hx hb dX4_parse_25 rfl (lv_at hl 0 rfl) ?_
      refine lv_sipush (v := 600) hx hb dX4_parse_26 (by decide) ?_
      refine lv_icmp_ge (tgt := 65) hx hb dX4_parse_29 (by decide) (fun c_90 => ?_) (fun c_90 => ?_)
      · skip
        have c_90 : 600 ≤ j_65 := (ni_le (by decide) rfl (by omega) (by omega)).mp c_90
        refine lv_aload_n hx hb dX4_parse_65 rfl (lv_at hl 2 rfl) ?_
        refine x_muVv (wr := [((o 1), .inr (4, [.ref (o 15), .int (nI rsize), .int x_66, .int x_67, .int x_68, .int (nI m_69), .int (nI m_70), .int x_71, .int x_72])), ((o 15), .inl (k 1, 600, .inl f15)), ((o 16), .inl (k 0, 12, .inl g_81)), ((o 17), .inl (k 0, 12, .inl g_82)), ((o 22), .inl (k 0, 4, .inl g_85)), ((o 23), .inl (k 0, 42, .inl g_86)), ((o 24), .inl (k 0, 42, .inl g_87)), ((o 25), .inl (k 0, 42, .inl g_88))]) (As := []) S hK hP hD hZ hS hA hl mwX2_findNeighbours lkX4_46 (ctX2_findNeighbours l D k z o x_73 m_74 x_75 x_76 m_77 m_78 m_79 m_80 (u_2.2.1 5) g_83 g_84 f20 f21 (by omega) (by omega) (by omega) (by omega) (by omega) (by omega)) [2, 5, 6, 7, 8] [0, 1, 3, 4, 9, 10, 11, 12] rfl rfl (by decide) (by decide) (by decide) rfl rfl rfl rfl rfl ⟨Nat.le_of_ble_eq_true rfl, Nat.le_of_ble_eq_true rfl, Nat.le_of_ble_eq_true rfl⟩ dX4_parse_66 ⟨Nat.le_of_ble_eq_true rfl, Nat.le_of_ble_eq_true rfl⟩ (fun u_92 H locs hr_91 hP hD hS => ?_)
        have hP : va_P D vwCl [((o 1), .inr (4, [.ref (o 15), .int (nI rsize), .int x_66, .int x_67, .int x_68, .int (nI m_69), .int (nI m_70), .int x_71, .int x_72])), ((o 15), .inl (k 1, 600, .inl f15)), ((o 2), .inr (2, [.int x_73, .int (nI m_74), .int x_75, .int x_76, .int (nI m_77), .int (nI m_78), .int (nI m_79), .int (nI m_80), .int (nI (u_2.2.1 5)), .ref (o 16), .ref (o 17), .ref (o 18), .ref (o 19), .ref (o 20), .ref (o 21), .ref (o 22), .ref (o 23), .ref (o 24), .ref (o 25)])), ((o 16), .inl (k 0, 12, .inl g_81)), ((o 17), .inl (k 0, 12, .inl g_82)), ((o 18), .inl (k 0, 12, .inl g_83)), ((o 19), .inl (k 0, 12, .inl g_84)), ((o 20), .inl (k 0, 12, .inl (u_92.2.2.1 0))), ((o 21), .inl (k 0, 12, .inl (u_92.2.2.1 1))), ((o 22), .inl (k 0, 4, .inl g_85)), ((o 23), .inl (k 0, 42, .inl g_86)), ((o 24), .inl (k 0, 42, .inl g_87)), ((o 25), .inl (k 0, 42, .inl g_88))] H := hP.sub [0, 1, 8, 2, 3, 9, 10, 11, 12, 4, 5, 6, 7] rfl
        have hD : va_D A [((o 1), .inr (4, [.ref (o 15), .int (nI rsize), .int x_66, .int x_67, .int x_68, .int (nI m_69), .int (nI m_70), .int x_71, .int x_72])), ((o 15), .inl (k 1, 600, .inl f15)), ((o 2), .inr (2, [.int x_73, .int (nI m_74), .int x_75, .int x_76, .int (nI m_77), .int (nI m_78), .int (nI m_79), .int (nI m_80), .int (nI (u_2.2.1 5)), .ref (o 16), .ref (o 17), .ref (o 18), .ref (o 19), .ref (o 20), .ref (o 21), .ref (o 22), .ref (o 23), .ref (o 24), .ref (o 25)])), ((o 16), .inl (k 0, 12, .inl g_81)), ((o 17), .inl (k 0, 12, .inl g_82)), ((o 18), .inl (k 0, 12, .inl g_83)), ((o 19), .inl (k 0, 12, .inl g_84)), ((o 20), .inl (k 0, 12, .inl (u_92.2.2.1 0))), ((o 21), .inl (k 0, 12, .inl (u_92.2.2.1 1))), ((o 22), .inl (k 0, 4, .inl g_85)), ((o 23), .inl (k 0, 42, .inl g_86)), ((o 24), .inl (k 0, 42, .inl g_87)), ((o 25), .inl (k 0, 42, .inl g_88))] := hD.sub [0, 1, 8, 2, 3, 9, 10, 11, 12, 4, 5, 6, 7] (by decide) rfl
        refine lv_iconst (v := 1) hx hb dX4_parse_69 (by decide) ?_
        exact x_retz S hr hlk hQ hS rfl ((fun i => ([x_66, x_67, x_68, x_71, x_72, x_73, x_75, x_76] : List (Int32)).getD i 0), (fun i => ([m_69, m_70, m_74, m_77, m_78, m_79, m_80, u_2.2.1 5] : List (Nat)).getD i 0), (fun i => ([g_81, g_82, g_83, g_84, (u_92.2.2.1 0), (u_92.2.2.1 1), g_85, g_86, g_87, g_88] : List (Nat → Int32)).getD i (fun _ => 0)), (fun i => ([] : List (Nat → Int64)).getD i (fun _ => 0)), (fun i => ([] : List (Int64)).getD i 0)) ⟨(show m_69 ≤ 600 by omega), (show m_70 ≤ 600 by omega), (show m_74 ≤ 16 by omega), (show m_77 ≤ 4 by omega), (show m_78 ≤ 12 by omega), (show m_79 ≤ 8 by omega), (show m_80 ≤ 4 by omega), (show u_2.2.1 5 ≤ 30 by omega)⟩ (x_B hP hD) dX4_parse_70
      · skip
        have c_90 : ¬ 600 ≤ j_65 := fun q => c_90 ((ni_le (by decide) rfl (by omega) (by omega)).mpr q)
        refine lv_aload_n hx hb dX4_parse_32 rfl (lv_at hl 1 rfl) ?_
        refine x_get S hK hP 0 rfl cfX4 4 lkX4_36 (by decide) rfl dX4_parse_33 ?_
        refine lv_if_eq (tgt := 65) hx hb dX4_parse_36 (by decide) (fun c_93 => ?_) (fun c_93 => ?_)
        · skip
          refine lv_aload_n hx hb dX4_parse_65 rfl (lv_at hl 2 rfl) ?_
          refine x_muVv (wr := [((o 1), .inr (4, [.ref (o 15), .int (nI rsize), .int x_66, .int x_67, .int x_68, .int (nI m_69), .int (nI m_70), .int x_71, .int x_72])), ((o 15), .inl (k 1, 600, .inl f15)), ((o 16), .inl (k 0, 12, .inl g_81)), ((o 17), .inl (k 0, 12, .inl g_82)), ((o 22), .inl (k 0, 4, .inl g_85)), ((o 23), .inl (k 0, 42, .inl g_86)), ((o 24), .inl (k 0, 42, .inl g_87)), ((o 25), .inl (k 0, 42, .inl g_88))]) (As := []) S hK hP hD hZ hS hA hl mwX2_findNeighbours lkX4_46 (ctX2_findNeighbours l D k z o x_73 m_74 x_75 x_76 m_77 m_78 m_79 m_80 (u_2.2.1 5) g_83 g_84 f20 f21 (by omega) (by omega) (by omega) (by omega) (by omega) (by omega)) [2, 5, 6, 7, 8] [0, 1, 3, 4, 9, 10, 11, 12] rfl rfl (by decide) (by decide) (by decide) rfl rfl rfl rfl rfl ⟨Nat.le_of_ble_eq_true rfl, Nat.le_of_ble_eq_true rfl, Nat.le_of_ble_eq_true rfl⟩ dX4_parse_66 ⟨Nat.le_of_ble_eq_true rfl, Nat.le_of_ble_eq_true rfl⟩ (fun u_95 H locs hr_94 hP hD hS => ?_)
          have hP : va_P D vwCl [((o 1), .inr (4, [.ref (o 15), .int (nI rsize), .int x_66, .int x_67, .int x_68, .int (nI m_69), .int (nI m_70), .int x_71, .int x_72])), ((o 15), .inl (k 1, 600, .inl f15)), ((o 2), .inr (2, [.int x_73, .int (nI m_74), .int x_75, .int x_76, .int (nI m_77), .int (nI m_78), .int (nI m_79), .int (nI m_80), .int (nI (u_2.2.1 5)), .ref (o 16), .ref (o 17), .ref (o 18), .ref (o 19), .ref (o 20), .ref (o 21), .ref (o 22), .ref (o 23), .ref (o 24), .ref (o 25)])), ((o 16), .inl (k 0, 12, .inl g_81)), ((o 17), .inl (k 0, 12, .inl g_82)), ((o 18), .inl (k 0, 12, .inl g_83)), ((o 19), .inl (k 0, 12, .inl g_84)), ((o 20), .inl (k 0, 12, .inl (u_95.2.2.1 0))), ((o 21), .inl (k 0, 12, .inl (u_95.2.2.1 1))), ((o 22), .inl (k 0, 4, .inl g_85)), ((o 23), .inl (k 0, 42, .inl g_86)), ((o 24), .inl (k 0, 42, .inl g_87)), ((o 25), .inl (k 0, 42, .inl g_88))] H := hP.sub [0, 1, 8, 2, 3, 9, 10, 11, 12, 4, 5, 6, 7] rfl
          have hD : va_D A [((o 1), .inr (4, [.ref (o 15), .int (nI rsize), .int x_66, .int x_67, .int x_68, .int (nI m_69), .int (nI m_70), .int x_71, .int x_72])), ((o 15), .inl (k 1, 600, .inl f15)), ((o 2), .inr (2, [.int x_73, .int (nI m_74), .int x_75, .int x_76, .int (nI m_77), .int (nI m_78), .int (nI m_79), .int (nI m_80), .int (nI (u_2.2.1 5)), .ref (o 16), .ref (o 17), .ref (o 18), .ref (o 19), .ref (o 20), .ref (o 21), .ref (o 22), .ref (o 23), .ref (o 24), .ref (o 25)])), ((o 16), .inl (k 0, 12, .inl g_81)), ((o 17), .inl (k 0, 12, .inl g_82)), ((o 18), .inl (k 0, 12, .inl g_83)), ((o 19), .inl (k 0, 12, .inl g_84)), ((o 20), .inl (k 0, 12, .inl (u_95.2.2.1 0))), ((o 21), .inl (k 0, 12, .inl (u_95.2.2.1 1))), ((o 22), .inl (k 0, 4, .inl g_85)), ((o 23), .inl (k 0, 42, .inl g_86)), ((o 24), .inl (k 0, 42, .inl g_87)), ((o 25), .inl (k 0, 42, .inl g_88))] := hD.sub [0, 1, 8, 2, 3, 9, 10, 11, 12, 4, 5, 6, 7] (by decide) rfl
          refine lv_iconst (v := 1) hx hb dX4_parse_69 (by decide) ?_
          exact x_retz S hr hlk hQ hS rfl ((fun i => ([x_66, x_67, x_68, x_71, x_72, x_73, x_75, x_76] : List (Int32)).getD i 0), (fun i => ([m_69, m_70, m_74, m_77, m_78, m_79, m_80, u_2.2.1 5] : List (Nat)).getD i 0), (fun i => ([g_81, g_82, g_83, g_84, (u_95.2.2.1 0), (u_95.2.2.1 1), g_85, g_86, g_87, g_88] : List (Nat → Int32)).getD i (fun _ => 0)), (fun i => ([] : List (Nat → Int64)).getD i (fun _ => 0)), (fun i => ([] : List (Int64)).getD i 0)) ⟨(show m_69 ≤ 600 by omega), (show m_70 ≤ 600 by omega), (show m_74 ≤ 16 by omega), (show m_77 ≤ 4 by omega), (show m_78 ≤ 12 by omega), (show m_79 ≤ 8 by omega), (show m_80 ≤ 4 by omega), (show u_2.2.1 5 ≤ 30 by omega)⟩ (x_B hP hD) dX4_parse_70
        · skip
          refine lv_aload_n hx hb dX4_parse_39 rfl (lv_at hl 1 rfl) ?_
          refine lv_aload_n hx hb dX4_parse_40 rfl (lv_at hl 2 rfl) ?_
          refine x_muVi (wr := [((o 20), .inl (k 0, 12, .inl f20)), ((o 21), .inl (k 0, 12, .inl f21))]) (As := [.ref (o 2)]) S hK hP hD hZ hS hA hl mwX4_readLine lkX4_39 (ctX4_readLine l D k z o x_66 x_67 x_68 x_71 x_72 rsize m_69 m_70 f15 x_73 m_74 x_75 x_76 m_77 m_78 m_79 m_80 (u_2.2.1 5) g_81 g_82 g_83 g_84 g_85 g_86 g_87 g_88 (by omega) (by omega) (by omega) (by omega) (by omega) (by omega) (by omega) (by omega) (by omega)) [0, 1, 2, 3, 4, 5, 6, 9, 10, 11, 12] [7, 8] rfl rfl (by decide) (by decide) (by decide) rfl rfl rfl rfl rfl ⟨Nat.le_of_ble_eq_true rfl, Nat.le_of_ble_eq_true rfl, Nat.le_of_ble_eq_true rfl⟩ dX4_parse_41 ⟨Nat.le_of_ble_eq_true rfl, Nat.le_of_ble_eq_true rfl⟩ (fun r_96 u_97 H locs hr_96 hP hD hS => ?_)
          have hP : va_P D vwCl [((o 1), .inr (4, [.ref (o 15), .int (nI rsize), .int (u_97.1 0), .int (u_97.1 1), .int (u_97.1 2), .int (nI (u_97.2.1 0)), .int (nI (u_97.2.1 1)), .int (u_97.1 3), .int (u_97.1 4)])), ((o 15), .inl (k 1, 600, .inl f15)), ((o 2), .inr (2, [.int x_73, .int (nI (u_97.2.1 2)), .int (u_97.1 5), .int (u_97.1 6), .int (nI (u_97.2.1 3)), .int (nI (u_97.2.1 4)), .int (nI (u_97.2.1 5)), .int (nI (u_97.2.1 6)), .int (nI (u_2.2.1 5)), .ref (o 16), .ref (o 17), .ref (o 18), .ref (o 19), .ref (o 20), .ref (o 21), .ref (o 22), .ref (o 23), .ref (o 24), .ref (o 25)])), ((o 16), .inl (k 0, 12, .inl (u_97.2.2.1 0))), ((o 17), .inl (k 0, 12, .inl (u_97.2.2.1 1))), ((o 18), .inl (k 0, 12, .inl (u_97.2.2.1 2))), ((o 19), .inl (k 0, 12, .inl (u_97.2.2.1 3))), ((o 20), .inl (k 0, 12, .inl f20)), ((o 21), .inl (k 0, 12, .inl f21)), ((o 22), .inl (k 0, 4, .inl (u_97.2.2.1 4))), ((o 23), .inl (k 0, 42, .inl (u_97.2.2.1 5))), ((o 24), .inl (k 0, 42, .inl (u_97.2.2.1 6))), ((o 25), .inl (k 0, 42, .inl (u_97.2.2.1 7)))] H := hP.sub [2, 3, 4, 5, 6, 7, 8, 0, 1, 9, 10, 11, 12] rfl
          have hD : va_D A [((o 1), .inr (4, [.ref (o 15), .int (nI rsize), .int (u_97.1 0), .int (u_97.1 1), .int (u_97.1 2), .int (nI (u_97.2.1 0)), .int (nI (u_97.2.1 1)), .int (u_97.1 3), .int (u_97.1 4)])), ((o 15), .inl (k 1, 600, .inl f15)), ((o 2), .inr (2, [.int x_73, .int (nI (u_97.2.1 2)), .int (u_97.1 5), .int (u_97.1 6), .int (nI (u_97.2.1 3)), .int (nI (u_97.2.1 4)), .int (nI (u_97.2.1 5)), .int (nI (u_97.2.1 6)), .int (nI (u_2.2.1 5)), .ref (o 16), .ref (o 17), .ref (o 18), .ref (o 19), .ref (o 20), .ref (o 21), .ref (o 22), .ref (o 23), .ref (o 24), .ref (o 25)])), ((o 16), .inl (k 0, 12, .inl (u_97.2.2.1 0))), ((o 17), .inl (k 0, 12, .inl (u_97.2.2.1 1))), ((o 18), .inl (k 0, 12, .inl (u_97.2.2.1 2))), ((o 19), .inl (k 0, 12, .inl (u_97.2.2.1 3))), ((o 20), .inl (k 0, 12, .inl f20)), ((o 21), .inl (k 0, 12, .inl f21)), ((o 22), .inl (k 0, 4, .inl (u_97.2.2.1 4))), ((o 23), .inl (k 0, 42, .inl (u_97.2.2.1 5))), ((o 24), .inl (k 0, 42, .inl (u_97.2.2.1 6))), ((o 25), .inl (k 0, 42, .inl (u_97.2.2.1 7)))] := hD.sub [2, 3, 4, 5, 6, 7, 8, 0, 1, 9, 10, 11, 12] (by decide) rfl
          obtain ⟨hg_98, hg_99, hg_100, hg_101, hg_102, hg_103, hg_104⟩ := hr_96
          refine lv_if_ne (tgt := 49) hx hb dX4_parse_44 (by decide) (fun c_105 => ?_) (fun c_105 => ?_)
          · skip
            refine lv_aload_n hx hb dX4_parse_49 rfl (lv_at hl 2 rfl) ?_
            refine lv_dup hx hb dX4_parse_50 rfl ?_
            refine x_get S hK hP 2 rfl cfX2 0 lkX4_43 (by decide) rfl dX4_parse_51 ?_
            refine lv_iconst (v := 1) hx hb dX4_parse_54 (by decide) ?_
            refine lv_iadd hx hb dX4_parse_55 ?_
            refine lv_topi (fun v_106 ev_106 => ?_)
            refine x_put (ws' := [((o 1), .inr (4, [.ref (o 15), .int (nI rsize), .int (u_97.1 0), .int (u_97.1 1), .int (u_97.1 2), .int (nI (u_97.2.1 0)), .int (nI (u_97.2.1 1)), .int (u_97.1 3), .int (u_97.1 4)])), ((o 15), .inl (k 1, 600, .inl f15)), ((o 2), .inr (2, [.int v_106, .int (nI (u_97.2.1 2)), .int (u_97.1 5), .int (u_97.1 6), .int (nI (u_97.2.1 3)), .int (nI (u_97.2.1 4)), .int (nI (u_97.2.1 5)), .int (nI (u_97.2.1 6)), .int (nI (u_2.2.1 5)), .ref (o 16), .ref (o 17), .ref (o 18), .ref (o 19), .ref (o 20), .ref (o 21), .ref (o 22), .ref (o 23), .ref (o 24), .ref (o 25)])), ((o 16), .inl (k 0, 12, .inl (u_97.2.2.1 0))), ((o 17), .inl (k 0, 12, .inl (u_97.2.2.1 1))), ((o 18), .inl (k 0, 12, .inl (u_97.2.2.1 2))), ((o 19), .inl (k 0, 12, .inl (u_97.2.2.1 3))), ((o 20), .inl (k 0, 12, .inl f20)), ((o 21), .inl (k 0, 12, .inl f21)), ((o 22), .inl (k 0, 4, .inl (u_97.2.2.1 4))), ((o 23), .inl (k 0, 42, .inl (u_97.2.2.1 5))), ((o 24), .inl (k 0, 42, .inl (u_97.2.2.1 6))), ((o 25), .inl (k 0, 42, .inl (u_97.2.2.1 7)))]) S hK hP hD hS 2 rfl cfX2 0 lkX4_43 (by decide) rfl rfl rfl (Nat.le_of_ble_eq_true rfl) rfl dX4_parse_56 (fun H locs hP hD hS => ?_)
            refine lv_iinc (v := (nI (j_65 + 1))) (lv' := [(2, .int (nI (j_65 + 1))), (0, .ref (o 1)), (1, .ref (o 2))]) hx hb dX4_parse_59 hl (k := 0) rfl (ni_inc _) (by decide) rfl (fun ls hl => ?_)
            refine lv_goto (tgt := 25) hx hb dX4_parse_62 (by decide) ?_
            exact ihj_65 (j_65 + 1) (u_97.1 0) (u_97.1 1) (u_97.1 2) (u_97.2.1 0) (u_97.2.1 1) (u_97.1 3) (u_97.1 4) v_106 (u_97.2.1 2) (u_97.1 5) (u_97.1 6) (u_97.2.1 3) (u_97.2.1 4) (u_97.2.1 5) (u_97.2.1 6) (u_97.2.2.1 0) (u_97.2.2.1 1) (u_97.2.2.1 2) (u_97.2.2.1 3) (u_97.2.2.1 4) (u_97.2.2.1 5) (u_97.2.2.1 6) (u_97.2.2.1 7) _ _ _ (by omega) (by omega) (by omega) (by omega) (by omega) (by omega) (by omega) (by omega) (by omega) hP hD hS (lv_sub hl [0, 1, 2] rfl)
          · skip
            refine lv_iconst (v := 0) hx hb dX4_parse_47 (by decide) ?_
            exact x_retz S hr hlk hQ hS rfl ((fun i => ([(u_97.1 0), (u_97.1 1), (u_97.1 2), (u_97.1 3), (u_97.1 4), x_73, (u_97.1 5), (u_97.1 6)] : List (Int32)).getD i 0), (fun i => ([u_97.2.1 0, u_97.2.1 1, u_97.2.1 2, u_97.2.1 3, u_97.2.1 4, u_97.2.1 5, u_97.2.1 6, u_2.2.1 5] : List (Nat)).getD i 0), (fun i => ([(u_97.2.2.1 0), (u_97.2.2.1 1), (u_97.2.2.1 2), (u_97.2.2.1 3), f20, f21, (u_97.2.2.1 4), (u_97.2.2.1 5), (u_97.2.2.1 6), (u_97.2.2.1 7)] : List (Nat → Int32)).getD i (fun _ => 0)), (fun i => ([] : List (Nat → Int64)).getD i (fun _ => 0)), (fun i => ([] : List (Int64)).getD i 0)) ⟨(show u_97.2.1 0 ≤ 600 by omega), (show u_97.2.1 1 ≤ 600 by omega), (show u_97.2.1 2 ≤ 16 by omega), (show u_97.2.1 3 ≤ 4 by omega), (show u_97.2.1 4 ≤ 12 by omega), (show u_97.2.1 5 ≤ 8 by omega), (show u_97.2.1 6 ≤ 4 by omega), (show u_2.2.1 5 ≤ 30 by omega)⟩ (x_B hP hD) dX4_parse_48
  exact lp_89 (600 + 1) 0 0 (-1) (u_10.1 0) (u_10.2.1 0) (u_10.2.1 1) (u_10.1 1) rnumber (u_2.1 0) (u_2.2.1 0) (u_2.1 1) (u_2.1 2) (u_2.2.1 1) (u_2.2.1 2) (u_2.2.1 3) (u_2.2.1 4) f16 f17 f18 f19 f22 f23 f24 f25 _ _ _ (by omega) (by omega) (by omega) (by omega) (by omega) (by omega) (by omega) (by omega) (by omega) hP hD hS (lv_sub hl [0, 1, 2] rfl)

set_option maxHeartbeats 4000000 in
set_option maxRecDepth 100000 in
theorem ctX2_copy (l : Launch) (D : va_G) (k : Nat → ClassId) (z : Nat → Nat) (dlines : Int32) (dhours : Nat) (dlaw : Int32) (dodds : Int32) (drows : Nat) (dheads : Nat) (dsayings : Nat) (dslugs : Nat) (dacts : Nat) (dd : Nat → Nat) (df0 : Nat → Int32) (df1 : Nat → Int32) (df2 : Nat → Int32) (df3 : Nat → Int32) (df4 : Nat → Int32) (df5 : Nat → Int32) (df6 : Nat → Int32) (df7 : Nat → Int32) (df8 : Nat → Int32) (df9 : Nat → Int32) (slines : Int32) (shours : Nat) (slaw : Int32) (sodds : Int32) (srows : Nat) (sheads : Nat) (ssayings : Nat) (sslugs : Nat) (sacts : Nat) (ss : Nat → Nat) (sf0 : Nat → Int32) (sf1 : Nat → Int32) (sf2 : Nat → Int32) (sf3 : Nat → Int32) (sf4 : Nat → Int32) (sf5 : Nat → Int32) (sf6 : Nat → Int32) (sf7 : Nat → Int32) (sf8 : Nat → Int32) (sf9 : Nat → Int32) (hdhours : dhours ≤ 16) (hdrows : drows ≤ 4) (hdheads : dheads ≤ 12) (hdsayings : dsayings ≤ 8) (hdslugs : dslugs ≤ 4) (hdacts : dacts ≤ 30) (hshours : shours ≤ 16) (hsrows : srows ≤ 4) (hsheads : sheads ≤ 12) (hssayings : ssayings ≤ 8) (hsslugs : sslugs ≤ 4) (hsacts : sacts ≤ 30) : MU l yX2_copy cX2_copy 2 none 1 D k z [.ref (dd 0), .ref (ss 0)] [((dd 0), .inr (2, [.int dlines, .int (nI dhours), .int dlaw, .int dodds, .int (nI drows), .int (nI dheads), .int (nI dsayings), .int (nI dslugs), .int (nI dacts), .ref (dd 1), .ref (dd 2), .ref (dd 3), .ref (dd 4), .ref (dd 5), .ref (dd 6), .ref (dd 7), .ref (dd 8), .ref (dd 9), .ref (dd 10)])), ((dd 1), .inl (k 0, 12, .inl df0)), ((dd 2), .inl (k 0, 12, .inl df1)), ((dd 3), .inl (k 0, 12, .inl df2)), ((dd 4), .inl (k 0, 12, .inl df3)), ((dd 5), .inl (k 0, 12, .inl df4)), ((dd 6), .inl (k 0, 12, .inl df5)), ((dd 7), .inl (k 0, 4, .inl df6)), ((dd 8), .inl (k 0, 42, .inl df7)), ((dd 9), .inl (k 0, 42, .inl df8)), ((dd 10), .inl (k 0, 42, .inl df9)), ((ss 0), .inr (2, [.int slines, .int (nI shours), .int slaw, .int sodds, .int (nI srows), .int (nI sheads), .int (nI ssayings), .int (nI sslugs), .int (nI sacts), .ref (ss 1), .ref (ss 2), .ref (ss 3), .ref (ss 4), .ref (ss 5), .ref (ss 6), .ref (ss 7), .ref (ss 8), .ref (ss 9), .ref (ss 10)])), ((ss 1), .inl (k 0, 12, .inl sf0)), ((ss 2), .inl (k 0, 12, .inl sf1)), ((ss 3), .inl (k 0, 12, .inl sf2)), ((ss 4), .inl (k 0, 12, .inl sf3)), ((ss 5), .inl (k 0, 12, .inl sf4)), ((ss 6), .inl (k 0, 12, .inl sf5)), ((ss 7), .inl (k 0, 4, .inl sf6)), ((ss 8), .inl (k 0, 42, .inl sf7)), ((ss 9), .inl (k 0, 42, .inl sf8)), ((ss 10), .inl (k 0, 42, .inl sf9))] 0 0 (Uv D (fun u : (Nat → Int32) × (Nat → Nat) × (Nat → Nat → Int32) × (Nat → Nat → Int64) × (Nat → Int64) => (u.2.1 0 ≤ 16) ∧ (u.2.1 1 ≤ 4) ∧ (u.2.1 2 ≤ 12) ∧ (u.2.1 3 ≤ 8) ∧ (u.2.1 4 ≤ 4) ∧ (u.2.1 5 ≤ 30)) (fun u : (Nat → Int32) × (Nat → Nat) × (Nat → Nat → Int32) × (Nat → Nat → Int64) × (Nat → Int64) => [((dd 0), .inr (2, [.int (u.1 0), .int (nI (u.2.1 0)), .int (u.1 1), .int (u.1 2), .int (nI (u.2.1 1)), .int (nI (u.2.1 2)), .int (nI (u.2.1 3)), .int (nI (u.2.1 4)), .int (nI (u.2.1 5)), .ref (dd 1), .ref (dd 2), .ref (dd 3), .ref (dd 4), .ref (dd 5), .ref (dd 6), .ref (dd 7), .ref (dd 8), .ref (dd 9), .ref (dd 10)])), ((dd 1), .inl (k 0, 12, .inl (u.2.2.1 0))), ((dd 2), .inl (k 0, 12, .inl (u.2.2.1 2))), ((dd 3), .inl (k 0, 12, .inl (u.2.2.1 3))), ((dd 4), .inl (k 0, 12, .inl (u.2.2.1 4))), ((dd 5), .inl (k 0, 12, .inl (u.2.2.1 5))), ((dd 6), .inl (k 0, 12, .inl (u.2.2.1 6))), ((dd 7), .inl (k 0, 4, .inl (u.2.2.1 7))), ((dd 8), .inl (k 0, 42, .inl (u.2.2.1 8))), ((dd 9), .inl (k 0, 42, .inl (u.2.2.1 9))), ((dd 10), .inl (k 0, 42, .inl (u.2.2.1 1))), ((ss 0), .inr (2, [.int slines, .int (nI shours), .int slaw, .int sodds, .int (nI srows), .int (nI sheads), .int (nI ssayings), .int (nI sslugs), .int (nI sacts), .ref (ss 1), .ref (ss 2), .ref (ss 3), .ref (ss 4), .ref (ss 5), .ref (ss 6), .ref (ss 7), .ref (ss 8), .ref (ss 9), .ref (ss 10)])), ((ss 1), .inl (k 0, 12, .inl sf0)), ((ss 2), .inl (k 0, 12, .inl sf1)), ((ss 3), .inl (k 0, 12, .inl sf2)), ((ss 4), .inl (k 0, 12, .inl sf3)), ((ss 5), .inl (k 0, 12, .inl sf4)), ((ss 6), .inl (k 0, 12, .inl sf5)), ((ss 7), .inl (k 0, 4, .inl sf6)), ((ss 8), .inl (k 0, 42, .inl sf7)), ((ss 9), .inl (k 0, 42, .inl sf8)), ((ss 10), .inl (k 0, 42, .inl sf9))])) := by
  refine MU.of (by decide) (Nat.le_of_ble_eq_true rfl) ?_
  intro p e s m below meth c ls A args Q S hr hlk hnm hQ hK hP hD hZ hA hS hl
  have hx := S.1
  have hb := S.2.1
  have hl : lv_has ls 2 [(0, .ref (dd 0)), (1, .ref (ss 0))] := hl
  refine lv_aload_n hx hb dX2_copy_0 rfl (lv_at hl 0 rfl) ?_
  refine lv_aload_n hx hb dX2_copy_1 rfl (lv_at hl 1 rfl) ?_
  refine x_get S hK hP 11 rfl cfX2 0 lkX2_42 (by decide) rfl dX2_copy_2 ?_
  refine x_put (ws' := [((dd 0), .inr (2, [.int slines, .int (nI dhours), .int dlaw, .int dodds, .int (nI drows), .int (nI dheads), .int (nI dsayings), .int (nI dslugs), .int (nI dacts), .ref (dd 1), .ref (dd 2), .ref (dd 3), .ref (dd 4), .ref (dd 5), .ref (dd 6), .ref (dd 7), .ref (dd 8), .ref (dd 9), .ref (dd 10)])), ((dd 1), .inl (k 0, 12, .inl df0)), ((dd 2), .inl (k 0, 12, .inl df1)), ((dd 3), .inl (k 0, 12, .inl df2)), ((dd 4), .inl (k 0, 12, .inl df3)), ((dd 5), .inl (k 0, 12, .inl df4)), ((dd 6), .inl (k 0, 12, .inl df5)), ((dd 7), .inl (k 0, 4, .inl df6)), ((dd 8), .inl (k 0, 42, .inl df7)), ((dd 9), .inl (k 0, 42, .inl df8)), ((dd 10), .inl (k 0, 42, .inl df9)), ((ss 0), .inr (2, [.int slines, .int (nI shours), .int slaw, .int sodds, .int (nI srows), .int (nI sheads), .int (nI ssayings), .int (nI sslugs), .int (nI sacts), .ref (ss 1), .ref (ss 2), .ref (ss 3), .ref (ss 4), .ref (ss 5), .ref (ss 6), .ref (ss 7), .ref (ss 8), .ref (ss 9), .ref (ss 10)])), ((ss 1), .inl (k 0, 12, .inl sf0)), ((ss 2), .inl (k 0, 12, .inl sf1)), ((ss 3), .inl (k 0, 12, .inl sf2)), ((ss 4), .inl (k 0, 12, .inl sf3)), ((ss 5), .inl (k 0, 12, .inl sf4)), ((ss 6), .inl (k 0, 12, .inl sf5)), ((ss 7), .inl (k 0, 4, .inl sf6)), ((ss 8), .inl (k 0, 42, .inl sf7)), ((ss 9), .inl (k 0, 42, .inl sf8)), ((ss 10), .inl (k 0, 42, .inl sf9))]) S hK hP hD hS 0 rfl cfX2 0 lkX2_42 (by decide) rfl rfl rfl (Nat.le_of_ble_eq_true rfl) rfl dX2_copy_5 (fun H locs hP hD hS => ?_)
  refine lv_aload_n hx hb dX2_copy_8 rfl (lv_at hl 0 rfl) ?_
  refine lv_aload_n hx hb dX2_copy_9 rfl (lv_at hl 1 rfl) ?_
  refine x_get S hK hP 11 rfl cfX2 1 lkX2_46 (by decide) rfl dX2_copy_10 ?_
  refine x_put (ws' := [((dd 0), .inr (2, [.int slines, .int (nI shours), .int dlaw, .int dodds, .int (nI drows), .int (nI dheads), .int (nI dsayings), .int (nI dslugs), .int (nI dacts), .ref (dd 1), .ref (dd 2), .ref (dd 3), .ref (dd 4), .ref (dd 5), .ref (dd 6), .ref (dd 7), .ref (dd 8), .ref (dd 9), .ref (dd 10)])), ((dd 1), .inl (k 0, 12, .inl df0)), ((dd 2), .inl (k 0, 12, .inl df1)), ((dd 3), .inl (k 0, 12, .inl df2)), ((dd 4), .inl (k 0, 12, .inl df3)), ((dd 5), .inl (k 0, 12, .inl df4)), ((dd 6), .inl (k 0, 12, .inl df5)), ((dd 7), .inl (k 0, 4, .inl df6)), ((dd 8), .inl (k 0, 42, .inl df7)), ((dd 9), .inl (k 0, 42, .inl df8)), ((dd 10), .inl (k 0, 42, .inl df9)), ((ss 0), .inr (2, [.int slines, .int (nI shours), .int slaw, .int sodds, .int (nI srows), .int (nI sheads), .int (nI ssayings), .int (nI sslugs), .int (nI sacts), .ref (ss 1), .ref (ss 2), .ref (ss 3), .ref (ss 4), .ref (ss 5), .ref (ss 6), .ref (ss 7), .ref (ss 8), .ref (ss 9), .ref (ss 10)])), ((ss 1), .inl (k 0, 12, .inl sf0)), ((ss 2), .inl (k 0, 12, .inl sf1)), ((ss 3), .inl (k 0, 12, .inl sf2)), ((ss 4), .inl (k 0, 12, .inl sf3)), ((ss 5), .inl (k 0, 12, .inl sf4)), ((ss 6), .inl (k 0, 12, .inl sf5)), ((ss 7), .inl (k 0, 4, .inl sf6)), ((ss 8), .inl (k 0, 42, .inl sf7)), ((ss 9), .inl (k 0, 42, .inl sf8)), ((ss 10), .inl (k 0, 42, .inl sf9))]) S hK hP hD hS 0 rfl cfX2 1 lkX2_46 (by decide) rfl rfl rfl (Nat.le_of_ble_eq_true rfl) rfl dX2_copy_13 (fun H locs hP hD hS => ?_)
  refine lv_aload_n hx hb dX2_copy_16 rfl (lv_at hl 0 rfl) ?_
  refine lv_aload_n hx hb dX2_copy_17 rfl (lv_at hl 1 rfl) ?_
  refine x_get S hK hP 11 rfl cfX2 2 lkX2_49 (by decide) rfl dX2_copy_18 ?_
  refine x_put (ws' := [((dd 0), .inr (2, [.int slines, .int (nI shours), .int slaw, .int dodds, .int (nI drows), .int (nI dheads), .int (nI dsayings), .int (nI dslugs), .int (nI dacts), .ref (dd 1), .ref (dd 2), .ref (dd 3), .ref (dd 4), .ref (dd 5), .ref (dd 6), .ref (dd 7), .ref (dd 8), .ref (dd 9), .ref (dd 10)])), ((dd 1), .inl (k 0, 12, .inl df0)), ((dd 2), .inl (k 0, 12, .inl df1)), ((dd 3), .inl (k 0, 12, .inl df2)), ((dd 4), .inl (k 0, 12, .inl df3)), ((dd 5), .inl (k 0, 12, .inl df4)), ((dd 6), .inl (k 0, 12, .inl df5)), ((dd 7), .inl (k 0, 4, .inl df6)), ((dd 8), .inl (k 0, 42, .inl df7)), ((dd 9), .inl (k 0, 42, .inl df8)), ((dd 10), .inl (k 0, 42, .inl df9)), ((ss 0), .inr (2, [.int slines, .int (nI shours), .int slaw, .int sodds, .int (nI srows), .int (nI sheads), .int (nI ssayings), .int (nI sslugs), .int (nI sacts), .ref (ss 1), .ref (ss 2), .ref (ss 3), .ref (ss 4), .ref (ss 5), .ref (ss 6), .ref (ss 7), .ref (ss 8), .ref (ss 9), .ref (ss 10)])), ((ss 1), .inl (k 0, 12, .inl sf0)), ((ss 2), .inl (k 0, 12, .inl sf1)), ((ss 3), .inl (k 0, 12, .inl sf2)), ((ss 4), .inl (k 0, 12, .inl sf3)), ((ss 5), .inl (k 0, 12, .inl sf4)), ((ss 6), .inl (k 0, 12, .inl sf5)), ((ss 7), .inl (k 0, 4, .inl sf6)), ((ss 8), .inl (k 0, 42, .inl sf7)), ((ss 9), .inl (k 0, 42, .inl sf8)), ((ss 10), .inl (k 0, 42, .inl sf9))]) S hK hP hD hS 0 rfl cfX2 2 lkX2_49 (by decide) rfl rfl rfl (Nat.le_of_ble_eq_true rfl) rfl dX2_copy_21 (fun H locs hP hD hS => ?_)
  refine lv_aload_n hx hb dX2_copy_24 rfl (lv_at hl 0 rfl) ?_
  refine lv_aload_n hx hb dX2_copy_25 rfl (lv_at hl 1 rfl) ?_
  refine x_get S hK hP 11 rfl cfX2 3 lkX2_52 (by decide) rfl dX2_copy_26 ?_
  refine x_put (ws' := [((dd 0), .inr (2, [.int slines, .int (nI shours), .int slaw, .int sodds, .int (nI drows), .int (nI dheads), .int (nI dsayings), .int (nI dslugs), .int (nI dacts), .ref (dd 1), .ref (dd 2), .ref (dd 3), .ref (dd 4), .ref (dd 5), .ref (dd 6), .ref (dd 7), .ref (dd 8), .ref (dd 9), .ref (dd 10)])), ((dd 1), .inl (k 0, 12, .inl df0)), ((dd 2), .inl (k 0, 12, .inl df1)), ((dd 3), .inl (k 0, 12, .inl df2)), ((dd 4), .inl (k 0, 12, .inl df3)), ((dd 5), .inl (k 0, 12, .inl df4)), ((dd 6), .inl (k 0, 12, .inl df5)), ((dd 7), .inl (k 0, 4, .inl df6)), ((dd 8), .inl (k 0, 42, .inl df7)), ((dd 9), .inl (k 0, 42, .inl df8)), ((dd 10), .inl (k 0, 42, .inl df9)), ((ss 0), .inr (2, [.int slines, .int (nI shours), .int slaw, .int sodds, .int (nI srows), .int (nI sheads), .int (nI ssayings), .int (nI sslugs), .int (nI sacts), .ref (ss 1), .ref (ss 2), .ref (ss 3), .ref (ss 4), .ref (ss 5), .ref (ss 6), .ref (ss 7), .ref (ss 8), .ref (ss 9), .ref (ss 10)])), ((ss 1), .inl (k 0, 12, .inl sf0)), ((ss 2), .inl (k 0, 12, .inl sf1)), ((ss 3), .inl (k 0, 12, .inl sf2)), ((ss 4), .inl (k 0, 12, .inl sf3)), ((ss 5), .inl (k 0, 12, .inl sf4)), ((ss 6), .inl (k 0, 12, .inl sf5)), ((ss 7), .inl (k 0, 4, .inl sf6)), ((ss 8), .inl (k 0, 42, .inl sf7)), ((ss 9), .inl (k 0, 42, .inl sf8)), ((ss 10), .inl (k 0, 42, .inl sf9))]) S hK hP hD hS 0 rfl cfX2 3 lkX2_52 (by decide) rfl rfl rfl (Nat.le_of_ble_eq_true rfl) rfl dX2_copy_29 (fun H locs hP hD hS => ?_)
  refine lv_aload_n hx hb dX2_copy_32 rfl (lv_at hl 0 rfl) ?_
  refine lv_aload_n hx hb dX2_copy_33 rfl (lv_at hl 1 rfl) ?_
  refine x_get S hK hP 11 rfl cfX2 4 lkX2_55 (by decide) rfl dX2_copy_34 ?_
  refine x_put (ws' := [((dd 0), .inr (2, [.int slines, .int (nI shours), .int slaw, .int sodds, .int (nI srows), .int (nI dheads), .int (nI dsayings), .int (nI dslugs), .int (nI dacts), .ref (dd 1), .ref (dd 2), .ref (dd 3), .ref (dd 4), .ref (dd 5), .ref (dd 6), .ref (dd 7), .ref (dd 8), .ref (dd 9), .ref (dd 10)])), ((dd 1), .inl (k 0, 12, .inl df0)), ((dd 2), .inl (k 0, 12, .inl df1)), ((dd 3), .inl (k 0, 12, .inl df2)), ((dd 4), .inl (k 0, 12, .inl df3)), ((dd 5), .inl (k 0, 12, .inl df4)), ((dd 6), .inl (k 0, 12, .inl df5)), ((dd 7), .inl (k 0, 4, .inl df6)), ((dd 8), .inl (k 0, 42, .inl df7)), ((dd 9), .inl (k 0, 42, .inl df8)), ((dd 10), .inl (k 0, 42, .inl df9)), ((ss 0), .inr (2, [.int slines, .int (nI shours), .int slaw, .int sodds, .int (nI srows), .int (nI sheads), .int (nI ssayings), .int (nI sslugs), .int (nI sacts), .ref (ss 1), .ref (ss 2), .ref (ss 3), .ref (ss 4), .ref (ss 5), .ref (ss 6), .ref (ss 7), .ref (ss 8), .ref (ss 9), .ref (ss 10)])), ((ss 1), .inl (k 0, 12, .inl sf0)), ((ss 2), .inl (k 0, 12, .inl sf1)), ((ss 3), .inl (k 0, 12, .inl sf2)), ((ss 4), .inl (k 0, 12, .inl sf3)), ((ss 5), .inl (k 0, 12, .inl sf4)), ((ss 6), .inl (k 0, 12, .inl sf5)), ((ss 7), .inl (k 0, 4, .inl sf6)), ((ss 8), .inl (k 0, 42, .inl sf7)), ((ss 9), .inl (k 0, 42, .inl sf8)), ((ss 10), .inl (k 0, 42, .inl sf9))]) S hK hP hD hS 0 rfl cfX2 4 lkX2_55 (by decide) rfl rfl rfl (Nat.le_of_ble_eq_true rfl) rfl dX2_copy_37 (fun H locs hP hD hS => ?_)
  refine lv_aload_n hx hb dX2_copy_40 rfl (lv_at hl 0 rfl) ?_
  refine lv_aload_n hx hb dX2_copy_41 rfl (lv_at hl 1 rfl) ?_
  refine x_get S hK hP 11 rfl cfX2 5 lkX2_58 (by decide) rfl dX2_copy_42 ?_
  refine x_put (ws' := [((dd 0), .inr (2, [.int slines, .int (nI shours), .int slaw, .int sodds, .int (nI srows), .int (nI sheads), .int (nI dsayings), .int (nI dslugs), .int (nI dacts), .ref (dd 1), .ref (dd 2), .ref (dd 3), .ref (dd 4), .ref (dd 5), .ref (dd 6), .ref (dd 7), .ref (dd 8), .ref (dd 9), .ref (dd 10)])), ((dd 1), .inl (k 0, 12, .inl df0)), ((dd 2), .inl (k 0, 12, .inl df1)), ((dd 3), .inl (k 0, 12, .inl df2)), ((dd 4), .inl (k 0, 12, .inl df3)), ((dd 5), .inl (k 0, 12, .inl df4)), ((dd 6), .inl (k 0, 12, .inl df5)), ((dd 7), .inl (k 0, 4, .inl df6)), ((dd 8), .inl (k 0, 42, .inl df7)), ((dd 9), .inl (k 0, 42, .inl df8)), ((dd 10), .inl (k 0, 42, .inl df9)), ((ss 0), .inr (2, [.int slines, .int (nI shours), .int slaw, .int sodds, .int (nI srows), .int (nI sheads), .int (nI ssayings), .int (nI sslugs), .int (nI sacts), .ref (ss 1), .ref (ss 2), .ref (ss 3), .ref (ss 4), .ref (ss 5), .ref (ss 6), .ref (ss 7), .ref (ss 8), .ref (ss 9), .ref (ss 10)])), ((ss 1), .inl (k 0, 12, .inl sf0)), ((ss 2), .inl (k 0, 12, .inl sf1)), ((ss 3), .inl (k 0, 12, .inl sf2)), ((ss 4), .inl (k 0, 12, .inl sf3)), ((ss 5), .inl (k 0, 12, .inl sf4)), ((ss 6), .inl (k 0, 12, .inl sf5)), ((ss 7), .inl (k 0, 4, .inl sf6)), ((ss 8), .inl (k 0, 42, .inl sf7)), ((ss 9), .inl (k 0, 42, .inl sf8)), ((ss 10), .inl (k 0, 42, .inl sf9))]) S hK hP hD hS 0 rfl cfX2 5 lkX2_58 (by decide) rfl rfl rfl (Nat.le_of_ble_eq_true rfl) rfl dX2_copy_45 (fun H locs hP hD hS => ?_)
  refine lv_aload_n hx hb dX2_copy_48 rfl (lv_at hl 0 rfl) ?_
  refine lv_aload_n hx hb dX2_copy_49 rfl (lv_at hl 1 rfl) ?_
  refine x_get S hK hP 11 rfl cfX2 6 lkX2_61 (by decide) rfl dX2_copy_50 ?_
  refine x_put (ws' := [((dd 0), .inr (2, [.int slines, .int (nI shours), .int slaw, .int sodds, .int (nI srows), .int (nI sheads), .int (nI ssayings), .int (nI dslugs), .int (nI dacts), .ref (dd 1), .ref (dd 2), .ref (dd 3), .ref (dd 4), .ref (dd 5), .ref (dd 6), .ref (dd 7), .ref (dd 8), .ref (dd 9), .ref (dd 10)])), ((dd 1), .inl (k 0, 12, .inl df0)), ((dd 2), .inl (k 0, 12, .inl df1)), ((dd 3), .inl (k 0, 12, .inl df2)), ((dd 4), .inl (k 0, 12, .inl df3)), ((dd 5), .inl (k 0, 12, .inl df4)), ((dd 6), .inl (k 0, 12, .inl df5)), ((dd 7), .inl (k 0, 4, .inl df6)), ((dd 8), .inl (k 0, 42, .inl df7)), ((dd 9), .inl (k 0, 42, .inl df8)), ((dd 10), .inl (k 0, 42, .inl df9)), ((ss 0), .inr (2, [.int slines, .int (nI shours), .int slaw, .int sodds, .int (nI srows), .int (nI sheads), .int (nI ssayings), .int (nI sslugs), .int (nI sacts), .ref (ss 1), .ref (ss 2), .ref (ss 3), .ref (ss 4), .ref (ss 5), .ref (ss 6), .ref (ss 7), .ref (ss 8), .ref (ss 9), .ref (ss 10)])), ((ss 1), .inl (k 0, 12, .inl sf0)), ((ss 2), .inl (k 0, 12, .inl sf1)), ((ss 3), .inl (k 0, 12, .inl sf2)), ((ss 4), .inl (k 0, 12, .inl sf3)), ((ss 5), .inl (k 0, 12, .inl sf4)), ((ss 6), .inl (k 0, 12, .inl sf5)), ((ss 7), .inl (k 0, 4, .inl sf6)), ((ss 8), .inl (k 0, 42, .inl sf7)), ((ss 9), .inl (k 0, 42, .inl sf8)), ((ss 10), .inl (k 0, 42, .inl sf9))]) S hK hP hD hS 0 rfl cfX2 6 lkX2_61 (by decide) rfl rfl rfl (Nat.le_of_ble_eq_true rfl) rfl dX2_copy_53 (fun H locs hP hD hS => ?_)
  refine lv_aload_n hx hb dX2_copy_56 rfl (lv_at hl 0 rfl) ?_
  refine lv_aload_n hx hb dX2_copy_57 rfl (lv_at hl 1 rfl) ?_
  refine x_get S hK hP 11 rfl cfX2 7 lkX2_64 (by decide) rfl dX2_copy_58 ?_
  refine x_put (ws' := [((dd 0), .inr (2, [.int slines, .int (nI shours), .int slaw, .int sodds, .int (nI srows), .int (nI sheads), .int (nI ssayings), .int (nI sslugs), .int (nI dacts), .ref (dd 1), .ref (dd 2), .ref (dd 3), .ref (dd 4), .ref (dd 5), .ref (dd 6), .ref (dd 7), .ref (dd 8), .ref (dd 9), .ref (dd 10)])), ((dd 1), .inl (k 0, 12, .inl df0)), ((dd 2), .inl (k 0, 12, .inl df1)), ((dd 3), .inl (k 0, 12, .inl df2)), ((dd 4), .inl (k 0, 12, .inl df3)), ((dd 5), .inl (k 0, 12, .inl df4)), ((dd 6), .inl (k 0, 12, .inl df5)), ((dd 7), .inl (k 0, 4, .inl df6)), ((dd 8), .inl (k 0, 42, .inl df7)), ((dd 9), .inl (k 0, 42, .inl df8)), ((dd 10), .inl (k 0, 42, .inl df9)), ((ss 0), .inr (2, [.int slines, .int (nI shours), .int slaw, .int sodds, .int (nI srows), .int (nI sheads), .int (nI ssayings), .int (nI sslugs), .int (nI sacts), .ref (ss 1), .ref (ss 2), .ref (ss 3), .ref (ss 4), .ref (ss 5), .ref (ss 6), .ref (ss 7), .ref (ss 8), .ref (ss 9), .ref (ss 10)])), ((ss 1), .inl (k 0, 12, .inl sf0)), ((ss 2), .inl (k 0, 12, .inl sf1)), ((ss 3), .inl (k 0, 12, .inl sf2)), ((ss 4), .inl (k 0, 12, .inl sf3)), ((ss 5), .inl (k 0, 12, .inl sf4)), ((ss 6), .inl (k 0, 12, .inl sf5)), ((ss 7), .inl (k 0, 4, .inl sf6)), ((ss 8), .inl (k 0, 42, .inl sf7)), ((ss 9), .inl (k 0, 42, .inl sf8)), ((ss 10), .inl (k 0, 42, .inl sf9))]) S hK hP hD hS 0 rfl cfX2 7 lkX2_64 (by decide) rfl rfl rfl (Nat.le_of_ble_eq_true rfl) rfl dX2_copy_61 (fun H locs hP hD hS => ?_)
  refine lv_aload_n hx hb dX2_copy_64 rfl (lv_at hl 0 rfl) ?_
  refine lv_aload_n hx hb dX2_copy_65 rfl (lv_at hl 1 rfl) ?_
  refine x_get S hK hP 11 rfl cfX2 8 lkX2_67 (by decide) rfl dX2_copy_66 ?_
  refine x_put (ws' := [((dd 0), .inr (2, [.int slines, .int (nI shours), .int slaw, .int sodds, .int (nI srows), .int (nI sheads), .int (nI ssayings), .int (nI sslugs), .int (nI sacts), .ref (dd 1), .ref (dd 2), .ref (dd 3), .ref (dd 4), .ref (dd 5), .ref (dd 6), .ref (dd 7), .ref (dd 8), .ref (dd 9), .ref (dd 10)])), ((dd 1), .inl (k 0, 12, .inl df0)), ((dd 2), .inl (k 0, 12, .inl df1)), ((dd 3), .inl (k 0, 12, .inl df2)), ((dd 4), .inl (k 0, 12, .inl df3)), ((dd 5), .inl (k 0, 12, .inl df4)), ((dd 6), .inl (k 0, 12, .inl df5)), ((dd 7), .inl (k 0, 4, .inl df6)), ((dd 8), .inl (k 0, 42, .inl df7)), ((dd 9), .inl (k 0, 42, .inl df8)), ((dd 10), .inl (k 0, 42, .inl df9)), ((ss 0), .inr (2, [.int slines, .int (nI shours), .int slaw, .int sodds, .int (nI srows), .int (nI sheads), .int (nI ssayings), .int (nI sslugs), .int (nI sacts), .ref (ss 1), .ref (ss 2), .ref (ss 3), .ref (ss 4), .ref (ss 5), .ref (ss 6), .ref (ss 7), .ref (ss 8), .ref (ss 9), .ref (ss 10)])), ((ss 1), .inl (k 0, 12, .inl sf0)), ((ss 2), .inl (k 0, 12, .inl sf1)), ((ss 3), .inl (k 0, 12, .inl sf2)), ((ss 4), .inl (k 0, 12, .inl sf3)), ((ss 5), .inl (k 0, 12, .inl sf4)), ((ss 6), .inl (k 0, 12, .inl sf5)), ((ss 7), .inl (k 0, 4, .inl sf6)), ((ss 8), .inl (k 0, 42, .inl sf7)), ((ss 9), .inl (k 0, 42, .inl sf8)), ((ss 10), .inl (k 0, 42, .inl sf9))]) S hK hP hD hS 0 rfl cfX2 8 lkX2_67 (by decide) rfl rfl rfl (Nat.le_of_ble_eq_true rfl) rfl dX2_copy_69 (fun H locs hP hD hS => ?_)
  refine lv_aload_n hx hb dX2_copy_72 rfl (lv_at hl 1 rfl) ?_
  refine x_get S hK hP 11 rfl cfX2 9 lkX2_9 (by decide) rfl dX2_copy_73 ?_
  refine lv_iconst (v := 0) hx hb dX2_copy_76 (by decide) ?_
  refine lv_aload_n hx hb dX2_copy_77 rfl (lv_at hl 0 rfl) ?_
  refine x_get S hK hP 0 rfl cfX2 9 lkX2_9 (by decide) rfl dX2_copy_78 ?_
  refine lv_iconst (v := 0) hx hb dX2_copy_81 (by decide) ?_
  refine lv_bipush (v := 12) hx hb dX2_copy_82 (by decide) ?_
  refine x_copyi (ws' := fun f_1 => [((dd 0), .inr (2, [.int slines, .int (nI shours), .int slaw, .int sodds, .int (nI srows), .int (nI sheads), .int (nI ssayings), .int (nI sslugs), .int (nI sacts), .ref (dd 1), .ref (dd 2), .ref (dd 3), .ref (dd 4), .ref (dd 5), .ref (dd 6), .ref (dd 7), .ref (dd 8), .ref (dd 9), .ref (dd 10)])), ((dd 1), .inl (k 0, 12, .inl f_1)), ((dd 2), .inl (k 0, 12, .inl df1)), ((dd 3), .inl (k 0, 12, .inl df2)), ((dd 4), .inl (k 0, 12, .inl df3)), ((dd 5), .inl (k 0, 12, .inl df4)), ((dd 6), .inl (k 0, 12, .inl df5)), ((dd 7), .inl (k 0, 4, .inl df6)), ((dd 8), .inl (k 0, 42, .inl df7)), ((dd 9), .inl (k 0, 42, .inl df8)), ((dd 10), .inl (k 0, 42, .inl df9)), ((ss 0), .inr (2, [.int slines, .int (nI shours), .int slaw, .int sodds, .int (nI srows), .int (nI sheads), .int (nI ssayings), .int (nI sslugs), .int (nI sacts), .ref (ss 1), .ref (ss 2), .ref (ss 3), .ref (ss 4), .ref (ss 5), .ref (ss 6), .ref (ss 7), .ref (ss 8), .ref (ss 9), .ref (ss 10)])), ((ss 1), .inl (k 0, 12, .inl sf0)), ((ss 2), .inl (k 0, 12, .inl sf1)), ((ss 3), .inl (k 0, 12, .inl sf2)), ((ss 4), .inl (k 0, 12, .inl sf3)), ((ss 5), .inl (k 0, 12, .inl sf4)), ((ss 6), .inl (k 0, 12, .inl sf5)), ((ss 7), .inl (k 0, 4, .inl sf6)), ((ss 8), .inl (k 0, 42, .inl sf7)), ((ss 9), .inl (k 0, 42, .inl sf8)), ((ss 10), .inl (k 0, 42, .inl sf9))]) S hK hP hD hS hl lkX2_70 12 1 rfl rfl (ni_nn (a := 0) (by decide) (by omega)) (ni_nn (a := 0) (by decide) (by omega)) (ni_nn (a := 12) (by decide) (by omega)) (ni_cp (a := 0) (b := 12) (by decide) (by decide) (by omega) (by omega) (by omega)) (ni_cp (a := 0) (b := 12) (by decide) (by decide) (by omega) (by omega) (by omega)) ⟨Nat.le_of_ble_eq_true rfl, Nat.le_of_ble_eq_true rfl⟩ (fun _ => rfl) dX2_copy_84 (fun f_1 H locs ef_1 hP hD hS => ?_)
  refine lv_aload_n hx hb dX2_copy_87 rfl (lv_at hl 1 rfl) ?_
  refine x_get S hK hP 11 rfl cfX2 10 lkX2_15 (by decide) rfl dX2_copy_88 ?_
  refine lv_iconst (v := 0) hx hb dX2_copy_91 (by decide) ?_
  refine lv_aload_n hx hb dX2_copy_92 rfl (lv_at hl 0 rfl) ?_
  refine x_get S hK hP 0 rfl cfX2 10 lkX2_15 (by decide) rfl dX2_copy_93 ?_
  refine lv_iconst (v := 0) hx hb dX2_copy_96 (by decide) ?_
  refine lv_bipush (v := 12) hx hb dX2_copy_97 (by decide) ?_
  refine x_copyi (ws' := fun f_2 => [((dd 0), .inr (2, [.int slines, .int (nI shours), .int slaw, .int sodds, .int (nI srows), .int (nI sheads), .int (nI ssayings), .int (nI sslugs), .int (nI sacts), .ref (dd 1), .ref (dd 2), .ref (dd 3), .ref (dd 4), .ref (dd 5), .ref (dd 6), .ref (dd 7), .ref (dd 8), .ref (dd 9), .ref (dd 10)])), ((dd 1), .inl (k 0, 12, .inl f_1)), ((dd 2), .inl (k 0, 12, .inl f_2)), ((dd 3), .inl (k 0, 12, .inl df2)), ((dd 4), .inl (k 0, 12, .inl df3)), ((dd 5), .inl (k 0, 12, .inl df4)), ((dd 6), .inl (k 0, 12, .inl df5)), ((dd 7), .inl (k 0, 4, .inl df6)), ((dd 8), .inl (k 0, 42, .inl df7)), ((dd 9), .inl (k 0, 42, .inl df8)), ((dd 10), .inl (k 0, 42, .inl df9)), ((ss 0), .inr (2, [.int slines, .int (nI shours), .int slaw, .int sodds, .int (nI srows), .int (nI sheads), .int (nI ssayings), .int (nI sslugs), .int (nI sacts), .ref (ss 1), .ref (ss 2), .ref (ss 3), .ref (ss 4), .ref (ss 5), .ref (ss 6), .ref (ss 7), .ref (ss 8), .ref (ss 9), .ref (ss 10)])), ((ss 1), .inl (k 0, 12, .inl sf0)), ((ss 2), .inl (k 0, 12, .inl sf1)), ((ss 3), .inl (k 0, 12, .inl sf2)), ((ss 4), .inl (k 0, 12, .inl sf3)), ((ss 5), .inl (k 0, 12, .inl sf4)), ((ss 6), .inl (k 0, 12, .inl sf5)), ((ss 7), .inl (k 0, 4, .inl sf6)), ((ss 8), .inl (k 0, 42, .inl sf7)), ((ss 9), .inl (k 0, 42, .inl sf8)), ((ss 10), .inl (k 0, 42, .inl sf9))]) S hK hP hD hS hl lkX2_70 13 2 rfl rfl (ni_nn (a := 0) (by decide) (by omega)) (ni_nn (a := 0) (by decide) (by omega)) (ni_nn (a := 12) (by decide) (by omega)) (ni_cp (a := 0) (b := 12) (by decide) (by decide) (by omega) (by omega) (by omega)) (ni_cp (a := 0) (b := 12) (by decide) (by decide) (by omega) (by omega) (by omega)) ⟨Nat.le_of_ble_eq_true rfl, Nat.le_of_ble_eq_true rfl⟩ (fun _ => rfl) dX2_copy_99 (fun f_2 H locs ef_2 hP hD hS => ?_)
  refine lv_aload_n hx hb dX2_copy_102 rfl (lv_at hl 1 rfl) ?_
  refine x_get S hK hP 11 rfl cfX2 11 lkX2_18 (by decide) rfl dX2_copy_103 ?_
  refine lv_iconst (v := 0) hx hb dX2_copy_106 (by decide) ?_
  refine lv_aload_n hx hb dX2_copy_107 rfl (lv_at hl 0 rfl) ?_
  refine x_get S hK hP 0 rfl cfX2 11 lkX2_18 (by decide) rfl dX2_copy_108 ?_
  refine lv_iconst (v := 0) hx hb dX2_copy_111 (by decide) ?_
  refine lv_bipush (v := 12) hx hb dX2_copy_112 (by decide) ?_
  refine x_copyi (ws' := fun f_3 => [((dd 0), .inr (2, [.int slines, .int (nI shours), .int slaw, .int sodds, .int (nI srows), .int (nI sheads), .int (nI ssayings), .int (nI sslugs), .int (nI sacts), .ref (dd 1), .ref (dd 2), .ref (dd 3), .ref (dd 4), .ref (dd 5), .ref (dd 6), .ref (dd 7), .ref (dd 8), .ref (dd 9), .ref (dd 10)])), ((dd 1), .inl (k 0, 12, .inl f_1)), ((dd 2), .inl (k 0, 12, .inl f_2)), ((dd 3), .inl (k 0, 12, .inl f_3)), ((dd 4), .inl (k 0, 12, .inl df3)), ((dd 5), .inl (k 0, 12, .inl df4)), ((dd 6), .inl (k 0, 12, .inl df5)), ((dd 7), .inl (k 0, 4, .inl df6)), ((dd 8), .inl (k 0, 42, .inl df7)), ((dd 9), .inl (k 0, 42, .inl df8)), ((dd 10), .inl (k 0, 42, .inl df9)), ((ss 0), .inr (2, [.int slines, .int (nI shours), .int slaw, .int sodds, .int (nI srows), .int (nI sheads), .int (nI ssayings), .int (nI sslugs), .int (nI sacts), .ref (ss 1), .ref (ss 2), .ref (ss 3), .ref (ss 4), .ref (ss 5), .ref (ss 6), .ref (ss 7), .ref (ss 8), .ref (ss 9), .ref (ss 10)])), ((ss 1), .inl (k 0, 12, .inl sf0)), ((ss 2), .inl (k 0, 12, .inl sf1)), ((ss 3), .inl (k 0, 12, .inl sf2)), ((ss 4), .inl (k 0, 12, .inl sf3)), ((ss 5), .inl (k 0, 12, .inl sf4)), ((ss 6), .inl (k 0, 12, .inl sf5)), ((ss 7), .inl (k 0, 4, .inl sf6)), ((ss 8), .inl (k 0, 42, .inl sf7)), ((ss 9), .inl (k 0, 42, .inl sf8)), ((ss 10), .inl (k 0, 42, .inl sf9))]) S hK hP hD hS hl lkX2_70 14 3 rfl rfl (ni_nn (a := 0) (by decide) (by omega)) (ni_nn (a := 0) (by decide) (by omega)) (ni_nn (a := 12) (by decide) (by omega)) (ni_cp (a := 0) (b := 12) (by decide) (by decide) (by omega) (by omega) (by omega)) (ni_cp (a := 0) (b := 12) (by decide) (by decide) (by omega) (by omega) (by omega)) ⟨Nat.le_of_ble_eq_true rfl, Nat.le_of_ble_eq_true rfl⟩ (fun _ => rfl) dX2_copy_114 (fun f_3 H locs ef_3 hP hD hS => ?_)
  refine lv_aload_n hx hb dX2_copy_117 rfl (lv_at hl 1 rfl) ?_
  refine x_get S hK hP 11 rfl cfX2 12 lkX2_21 (by decide) rfl dX2_copy_118 ?_
  refine lv_iconst (v := 0) hx hb dX2_copy_121 (by decide) ?_
  refine lv_aload_n hx hb dX2_copy_122 rfl (lv_at hl 0 rfl) ?_
  refine x_get S hK hP 0 rfl cfX2 12 lkX2_21 (by decide) rfl dX2_copy_123 ?_
  refine lv_iconst (v := 0) hx hb dX2_copy_126 (by decide) ?_
  refine lv_bipush (v := 12) hx hb dX2_copy_127 (by decide) ?_
  refine x_copyi (ws' := fun f_4 => [((dd 0), .inr (2, [.int slines, .int (nI shours), .int slaw, .int sodds, .int (nI srows), .int (nI sheads), .int (nI ssayings), .int (nI sslugs), .int (nI sacts), .ref (dd 1), .ref (dd 2), .ref (dd 3), .ref (dd 4), .ref (dd 5), .ref (dd 6), .ref (dd 7), .ref (dd 8), .ref (dd 9), .ref (dd 10)])), ((dd 1), .inl (k 0, 12, .inl f_1)), ((dd 2), .inl (k 0, 12, .inl f_2)), ((dd 3), .inl (k 0, 12, .inl f_3)), ((dd 4), .inl (k 0, 12, .inl f_4)), ((dd 5), .inl (k 0, 12, .inl df4)), ((dd 6), .inl (k 0, 12, .inl df5)), ((dd 7), .inl (k 0, 4, .inl df6)), ((dd 8), .inl (k 0, 42, .inl df7)), ((dd 9), .inl (k 0, 42, .inl df8)), ((dd 10), .inl (k 0, 42, .inl df9)), ((ss 0), .inr (2, [.int slines, .int (nI shours), .int slaw, .int sodds, .int (nI srows), .int (nI sheads), .int (nI ssayings), .int (nI sslugs), .int (nI sacts), .ref (ss 1), .ref (ss 2), .ref (ss 3), .ref (ss 4), .ref (ss 5), .ref (ss 6), .ref (ss 7), .ref (ss 8), .ref (ss 9), .ref (ss 10)])), ((ss 1), .inl (k 0, 12, .inl sf0)), ((ss 2), .inl (k 0, 12, .inl sf1)), ((ss 3), .inl (k 0, 12, .inl sf2)), ((ss 4), .inl (k 0, 12, .inl sf3)), ((ss 5), .inl (k 0, 12, .inl sf4)), ((ss 6), .inl (k 0, 12, .inl sf5)), ((ss 7), .inl (k 0, 4, .inl sf6)), ((ss 8), .inl (k 0, 42, .inl sf7)), ((ss 9), .inl (k 0, 42, .inl sf8)), ((ss 10), .inl (k 0, 42, .inl sf9))]) S hK hP hD hS hl lkX2_70 15 4 rfl rfl (ni_nn (a := 0) (by decide) (by omega)) (ni_nn (a := 0) (by decide) (by omega)) (ni_nn (a := 12) (by decide) (by omega)) (ni_cp (a := 0) (b := 12) (by decide) (by decide) (by omega) (by omega) (by omega)) (ni_cp (a := 0) (b := 12) (by decide) (by decide) (by omega) (by omega) (by omega)) ⟨Nat.le_of_ble_eq_true rfl, Nat.le_of_ble_eq_true rfl⟩ (fun _ => rfl) dX2_copy_129 (fun f_4 H locs ef_4 hP hD hS => ?_)
  refine lv_aload_n hx hb dX2_copy_132 rfl (lv_at hl 1 rfl) ?_
  refine x_get S hK hP 11 rfl cfX2 13 lkX2_24 (by decide) rfl dX2_copy_133 ?_
  refine lv_iconst (v := 0) hx hb dX2_copy_136 (by decide) ?_
  refine lv_aload_n hx hb dX2_copy_137 rfl (lv_at hl 0 rfl) ?_
  refine x_get S hK hP 0 rfl cfX2 13 lkX2_24 (by decide) rfl dX2_copy_138 ?_
  refine lv_iconst (v := 0) hx hb dX2_copy_141 (by decide) ?_
  refine lv_bipush (v := 12) hx hb dX2_copy_142 (by decide) ?_
  refine x_copyi (ws' := fun f_5 => [((dd 0), .inr (2, [.int slines, .int (nI shours), .int slaw, .int sodds, .int (nI srows), .int (nI sheads), .int (nI ssayings), .int (nI sslugs), .int (nI sacts), .ref (dd 1), .ref (dd 2), .ref (dd 3), .ref (dd 4), .ref (dd 5), .ref (dd 6), .ref (dd 7), .ref (dd 8), .ref (dd 9), .ref (dd 10)])), ((dd 1), .inl (k 0, 12, .inl f_1)), ((dd 2), .inl (k 0, 12, .inl f_2)), ((dd 3), .inl (k 0, 12, .inl f_3)), ((dd 4), .inl (k 0, 12, .inl f_4)), ((dd 5), .inl (k 0, 12, .inl f_5)), ((dd 6), .inl (k 0, 12, .inl df5)), ((dd 7), .inl (k 0, 4, .inl df6)), ((dd 8), .inl (k 0, 42, .inl df7)), ((dd 9), .inl (k 0, 42, .inl df8)), ((dd 10), .inl (k 0, 42, .inl df9)), ((ss 0), .inr (2, [.int slines, .int (nI shours), .int slaw, .int sodds, .int (nI srows), .int (nI sheads), .int (nI ssayings), .int (nI sslugs), .int (nI sacts), .ref (ss 1), .ref (ss 2), .ref (ss 3), .ref (ss 4), .ref (ss 5), .ref (ss 6), .ref (ss 7), .ref (ss 8), .ref (ss 9), .ref (ss 10)])), ((ss 1), .inl (k 0, 12, .inl sf0)), ((ss 2), .inl (k 0, 12, .inl sf1)), ((ss 3), .inl (k 0, 12, .inl sf2)), ((ss 4), .inl (k 0, 12, .inl sf3)), ((ss 5), .inl (k 0, 12, .inl sf4)), ((ss 6), .inl (k 0, 12, .inl sf5)), ((ss 7), .inl (k 0, 4, .inl sf6)), ((ss 8), .inl (k 0, 42, .inl sf7)), ((ss 9), .inl (k 0, 42, .inl sf8)), ((ss 10), .inl (k 0, 42, .inl sf9))]) S hK hP hD hS hl lkX2_70 16 5 rfl rfl (ni_nn (a := 0) (by decide) (by omega)) (ni_nn (a := 0) (by decide) (by omega)) (ni_nn (a := 12) (by decide) (by omega)) (ni_cp (a := 0) (b := 12) (by decide) (by decide) (by omega) (by omega) (by omega)) (ni_cp (a := 0) (b := 12) (by decide) (by decide) (by omega) (by omega) (by omega)) ⟨Nat.le_of_ble_eq_true rfl, Nat.le_of_ble_eq_true rfl⟩ (fun _ => rfl) dX2_copy_144 (fun f_5 H locs ef_5 hP hD hS => ?_)
  refine lv_aload_n hx hb dX2_copy_147 rfl (lv_at hl 1 rfl) ?_
  refine x_get S hK hP 11 rfl cfX2 14 lkX2_27 (by decide) rfl dX2_copy_148 ?_
  refine lv_iconst (v := 0) hx hb dX2_copy_151 (by decide) ?_
  refine lv_aload_n hx hb dX2_copy_152 rfl (lv_at hl 0 rfl) ?_
  refine x_get S hK hP 0 rfl cfX2 14 lkX2_27 (by decide) rfl dX2_copy_153 ?_
  refine lv_iconst (v := 0) hx hb dX2_copy_156 (by decide) ?_
  refine lv_bipush (v := 12) hx hb dX2_copy_157 (by decide) ?_
  refine x_copyi (ws' := fun f_6 => [((dd 0), .inr (2, [.int slines, .int (nI shours), .int slaw, .int sodds, .int (nI srows), .int (nI sheads), .int (nI ssayings), .int (nI sslugs), .int (nI sacts), .ref (dd 1), .ref (dd 2), .ref (dd 3), .ref (dd 4), .ref (dd 5), .ref (dd 6), .ref (dd 7), .ref (dd 8), .ref (dd 9), .ref (dd 10)])), ((dd 1), .inl (k 0, 12, .inl f_1)), ((dd 2), .inl (k 0, 12, .inl f_2)), ((dd 3), .inl (k 0, 12, .inl f_3)), ((dd 4), .inl (k 0, 12, .inl f_4)), ((dd 5), .inl (k 0, 12, .inl f_5)), ((dd 6), .inl (k 0, 12, .inl f_6)), ((dd 7), .inl (k 0, 4, .inl df6)), ((dd 8), .inl (k 0, 42, .inl df7)), ((dd 9), .inl (k 0, 42, .inl df8)), ((dd 10), .inl (k 0, 42, .inl df9)), ((ss 0), .inr (2, [.int slines, .int (nI shours), .int slaw, .int sodds, .int (nI srows), .int (nI sheads), .int (nI ssayings), .int (nI sslugs), .int (nI sacts), .ref (ss 1), .ref (ss 2), .ref (ss 3), .ref (ss 4), .ref (ss 5), .ref (ss 6), .ref (ss 7), .ref (ss 8), .ref (ss 9), .ref (ss 10)])), ((ss 1), .inl (k 0, 12, .inl sf0)), ((ss 2), .inl (k 0, 12, .inl sf1)), ((ss 3), .inl (k 0, 12, .inl sf2)), ((ss 4), .inl (k 0, 12, .inl sf3)), ((ss 5), .inl (k 0, 12, .inl sf4)), ((ss 6), .inl (k 0, 12, .inl sf5)), ((ss 7), .inl (k 0, 4, .inl sf6)), ((ss 8), .inl (k 0, 42, .inl sf7)), ((ss 9), .inl (k 0, 42, .inl sf8)), ((ss 10), .inl (k 0, 42, .inl sf9))]) S hK hP hD hS hl lkX2_70 17 6 rfl rfl (ni_nn (a := 0) (by decide) (by omega)) (ni_nn (a := 0) (by decide) (by omega)) (ni_nn (a := 12) (by decide) (by omega)) (ni_cp (a := 0) (b := 12) (by decide) (by decide) (by omega) (by omega) (by omega)) (ni_cp (a := 0) (b := 12) (by decide) (by decide) (by omega) (by omega) (by omega)) ⟨Nat.le_of_ble_eq_true rfl, Nat.le_of_ble_eq_true rfl⟩ (fun _ => rfl) dX2_copy_159 (fun f_6 H locs ef_6 hP hD hS => ?_)
  refine lv_aload_n hx hb dX2_copy_162 rfl (lv_at hl 1 rfl) ?_
  refine x_get S hK hP 11 rfl cfX2 15 lkX2_30 (by decide) rfl dX2_copy_163 ?_
  refine lv_iconst (v := 0) hx hb dX2_copy_166 (by decide) ?_
  refine lv_aload_n hx hb dX2_copy_167 rfl (lv_at hl 0 rfl) ?_
  refine x_get S hK hP 0 rfl cfX2 15 lkX2_30 (by decide) rfl dX2_copy_168 ?_
  refine lv_iconst (v := 0) hx hb dX2_copy_171 (by decide) ?_
  refine lv_iconst (v := 4) hx hb dX2_copy_172 (by decide) ?_
  refine x_copyi (ws' := fun f_7 => [((dd 0), .inr (2, [.int slines, .int (nI shours), .int slaw, .int sodds, .int (nI srows), .int (nI sheads), .int (nI ssayings), .int (nI sslugs), .int (nI sacts), .ref (dd 1), .ref (dd 2), .ref (dd 3), .ref (dd 4), .ref (dd 5), .ref (dd 6), .ref (dd 7), .ref (dd 8), .ref (dd 9), .ref (dd 10)])), ((dd 1), .inl (k 0, 12, .inl f_1)), ((dd 2), .inl (k 0, 12, .inl f_2)), ((dd 3), .inl (k 0, 12, .inl f_3)), ((dd 4), .inl (k 0, 12, .inl f_4)), ((dd 5), .inl (k 0, 12, .inl f_5)), ((dd 6), .inl (k 0, 12, .inl f_6)), ((dd 7), .inl (k 0, 4, .inl f_7)), ((dd 8), .inl (k 0, 42, .inl df7)), ((dd 9), .inl (k 0, 42, .inl df8)), ((dd 10), .inl (k 0, 42, .inl df9)), ((ss 0), .inr (2, [.int slines, .int (nI shours), .int slaw, .int sodds, .int (nI srows), .int (nI sheads), .int (nI ssayings), .int (nI sslugs), .int (nI sacts), .ref (ss 1), .ref (ss 2), .ref (ss 3), .ref (ss 4), .ref (ss 5), .ref (ss 6), .ref (ss 7), .ref (ss 8), .ref (ss 9), .ref (ss 10)])), ((ss 1), .inl (k 0, 12, .inl sf0)), ((ss 2), .inl (k 0, 12, .inl sf1)), ((ss 3), .inl (k 0, 12, .inl sf2)), ((ss 4), .inl (k 0, 12, .inl sf3)), ((ss 5), .inl (k 0, 12, .inl sf4)), ((ss 6), .inl (k 0, 12, .inl sf5)), ((ss 7), .inl (k 0, 4, .inl sf6)), ((ss 8), .inl (k 0, 42, .inl sf7)), ((ss 9), .inl (k 0, 42, .inl sf8)), ((ss 10), .inl (k 0, 42, .inl sf9))]) S hK hP hD hS hl lkX2_70 18 7 rfl rfl (ni_nn (a := 0) (by decide) (by omega)) (ni_nn (a := 0) (by decide) (by omega)) (ni_nn (a := 4) (by decide) (by omega)) (ni_cp (a := 0) (b := 4) (by decide) (by decide) (by omega) (by omega) (by omega)) (ni_cp (a := 0) (b := 4) (by decide) (by decide) (by omega) (by omega) (by omega)) ⟨Nat.le_of_ble_eq_true rfl, Nat.le_of_ble_eq_true rfl⟩ (fun _ => rfl) dX2_copy_173 (fun f_7 H locs ef_7 hP hD hS => ?_)
  refine lv_aload_n hx hb dX2_copy_176 rfl (lv_at hl 1 rfl) ?_
  refine x_get S hK hP 11 rfl cfX2 16 lkX2_33 (by decide) rfl dX2_copy_177 ?_
  refine lv_iconst (v := 0) hx hb dX2_copy_180 (by decide) ?_
  refine lv_aload_n hx hb dX2_copy_181 rfl (lv_at hl 0 rfl) ?_
  refine x_get S hK hP 0 rfl cfX2 16 lkX2_33 (by decide) rfl dX2_copy_182 ?_
  refine lv_iconst (v := 0) hx hb dX2_copy_185 (by decide) ?_
  refine lv_bipush (v := 42) hx hb dX2_copy_186 (by decide) ?_
  refine x_copyi (ws' := fun f_8 => [((dd 0), .inr (2, [.int slines, .int (nI shours), .int slaw, .int sodds, .int (nI srows), .int (nI sheads), .int (nI ssayings), .int (nI sslugs), .int (nI sacts), .ref (dd 1), .ref (dd 2), .ref (dd 3), .ref (dd 4), .ref (dd 5), .ref (dd 6), .ref (dd 7), .ref (dd 8), .ref (dd 9), .ref (dd 10)])), ((dd 1), .inl (k 0, 12, .inl f_1)), ((dd 2), .inl (k 0, 12, .inl f_2)), ((dd 3), .inl (k 0, 12, .inl f_3)), ((dd 4), .inl (k 0, 12, .inl f_4)), ((dd 5), .inl (k 0, 12, .inl f_5)), ((dd 6), .inl (k 0, 12, .inl f_6)), ((dd 7), .inl (k 0, 4, .inl f_7)), ((dd 8), .inl (k 0, 42, .inl f_8)), ((dd 9), .inl (k 0, 42, .inl df8)), ((dd 10), .inl (k 0, 42, .inl df9)), ((ss 0), .inr (2, [.int slines, .int (nI shours), .int slaw, .int sodds, .int (nI srows), .int (nI sheads), .int (nI ssayings), .int (nI sslugs), .int (nI sacts), .ref (ss 1), .ref (ss 2), .ref (ss 3), .ref (ss 4), .ref (ss 5), .ref (ss 6), .ref (ss 7), .ref (ss 8), .ref (ss 9), .ref (ss 10)])), ((ss 1), .inl (k 0, 12, .inl sf0)), ((ss 2), .inl (k 0, 12, .inl sf1)), ((ss 3), .inl (k 0, 12, .inl sf2)), ((ss 4), .inl (k 0, 12, .inl sf3)), ((ss 5), .inl (k 0, 12, .inl sf4)), ((ss 6), .inl (k 0, 12, .inl sf5)), ((ss 7), .inl (k 0, 4, .inl sf6)), ((ss 8), .inl (k 0, 42, .inl sf7)), ((ss 9), .inl (k 0, 42, .inl sf8)), ((ss 10), .inl (k 0, 42, .inl sf9))]) S hK hP hD hS hl lkX2_70 19 8 rfl rfl (ni_nn (a := 0) (by decide) (by omega)) (ni_nn (a := 0) (by decide) (by omega)) (ni_nn (a := 42) (by decide) (by omega)) (ni_cp (a := 0) (b := 42) (by decide) (by decide) (by omega) (by omega) (by omega)) (ni_cp (a := 0) (b := 42) (by decide) (by decide) (by omega) (by omega) (by omega)) ⟨Nat.le_of_ble_eq_true rfl, Nat.le_of_ble_eq_true rfl⟩ (fun _ => rfl) dX2_copy_188 (fun f_8 H locs ef_8 hP hD hS => ?_)
  refine lv_aload_n hx hb dX2_copy_191 rfl (lv_at hl 1 rfl) ?_
  refine x_get S hK hP 11 rfl cfX2 17 lkX2_36 (by decide) rfl dX2_copy_192 ?_
  refine lv_iconst (v := 0) hx hb dX2_copy_195 (by decide) ?_
  refine lv_aload_n hx hb dX2_copy_196 rfl (lv_at hl 0 rfl) ?_
  refine x_get S hK hP 0 rfl cfX2 17 lkX2_36 (by decide) rfl dX2_copy_197 ?_
  refine lv_iconst (v := 0) hx hb dX2_copy_200 (by decide) ?_
  refine lv_bipush (v := 42) hx hb dX2_copy_201 (by decide) ?_
  refine x_copyi (ws' := fun f_9 => [((dd 0), .inr (2, [.int slines, .int (nI shours), .int slaw, .int sodds, .int (nI srows), .int (nI sheads), .int (nI ssayings), .int (nI sslugs), .int (nI sacts), .ref (dd 1), .ref (dd 2), .ref (dd 3), .ref (dd 4), .ref (dd 5), .ref (dd 6), .ref (dd 7), .ref (dd 8), .ref (dd 9), .ref (dd 10)])), ((dd 1), .inl (k 0, 12, .inl f_1)), ((dd 2), .inl (k 0, 12, .inl f_2)), ((dd 3), .inl (k 0, 12, .inl f_3)), ((dd 4), .inl (k 0, 12, .inl f_4)), ((dd 5), .inl (k 0, 12, .inl f_5)), ((dd 6), .inl (k 0, 12, .inl f_6)), ((dd 7), .inl (k 0, 4, .inl f_7)), ((dd 8), .inl (k 0, 42, .inl f_8)), ((dd 9), .inl (k 0, 42, .inl f_9)), ((dd 10), .inl (k 0, 42, .inl df9)), ((ss 0), .inr (2, [.int slines, .int (nI shours), .int slaw, .int sodds, .int (nI srows), .int (nI sheads), .int (nI ssayings), .int (nI sslugs), .int (nI sacts), .ref (ss 1), .ref (ss 2), .ref (ss 3), .ref (ss 4), .ref (ss 5), .ref (ss 6), .ref (ss 7), .ref (ss 8), .ref (ss 9), .ref (ss 10)])), ((ss 1), .inl (k 0, 12, .inl sf0)), ((ss 2), .inl (k 0, 12, .inl sf1)), ((ss 3), .inl (k 0, 12, .inl sf2)), ((ss 4), .inl (k 0, 12, .inl sf3)), ((ss 5), .inl (k 0, 12, .inl sf4)), ((ss 6), .inl (k 0, 12, .inl sf5)), ((ss 7), .inl (k 0, 4, .inl sf6)), ((ss 8), .inl (k 0, 42, .inl sf7)), ((ss 9), .inl (k 0, 42, .inl sf8)), ((ss 10), .inl (k 0, 42, .inl sf9))]) S hK hP hD hS hl lkX2_70 20 9 rfl rfl (ni_nn (a := 0) (by decide) (by omega)) (ni_nn (a := 0) (by decide) (by omega)) (ni_nn (a := 42) (by decide) (by omega)) (ni_cp (a := 0) (b := 42) (by decide) (by decide) (by omega) (by omega) (by omega)) (ni_cp (a := 0) (b := 42) (by decide) (by decide) (by omega) (by omega) (by omega)) ⟨Nat.le_of_ble_eq_true rfl, Nat.le_of_ble_eq_true rfl⟩ (fun _ => rfl) dX2_copy_203 (fun f_9 H locs ef_9 hP hD hS => ?_)
  refine lv_aload_n hx hb dX2_copy_206 rfl (lv_at hl 1 rfl) ?_
  refine x_get S hK hP 11 rfl cfX2 18 lkX2_39 (by decide) rfl dX2_copy_207 ?_
  refine lv_iconst (v := 0) hx hb dX2_copy_210 (by decide) ?_
  refine lv_aload_n hx hb dX2_copy_211 rfl (lv_at hl 0 rfl) ?_
  refine x_get S hK hP 0 rfl cfX2 18 lkX2_39 (by decide) rfl dX2_copy_212 ?_
  refine lv_iconst (v := 0) hx hb dX2_copy_215 (by decide) ?_
  refine lv_bipush (v := 42) hx hb dX2_copy_216 (by decide) ?_
  refine x_copyi (ws' := fun f_10 => [((dd 0), .inr (2, [.int slines, .int (nI shours), .int slaw, .int sodds, .int (nI srows), .int (nI sheads), .int (nI ssayings), .int (nI sslugs), .int (nI sacts), .ref (dd 1), .ref (dd 2), .ref (dd 3), .ref (dd 4), .ref (dd 5), .ref (dd 6), .ref (dd 7), .ref (dd 8), .ref (dd 9), .ref (dd 10)])), ((dd 1), .inl (k 0, 12, .inl f_1)), ((dd 2), .inl (k 0, 12, .inl f_2)), ((dd 3), .inl (k 0, 12, .inl f_3)), ((dd 4), .inl (k 0, 12, .inl f_4)), ((dd 5), .inl (k 0, 12, .inl f_5)), ((dd 6), .inl (k 0, 12, .inl f_6)), ((dd 7), .inl (k 0, 4, .inl f_7)), ((dd 8), .inl (k 0, 42, .inl f_8)), ((dd 9), .inl (k 0, 42, .inl f_9)), ((dd 10), .inl (k 0, 42, .inl f_10)), ((ss 0), .inr (2, [.int slines, .int (nI shours), .int slaw, .int sodds, .int (nI srows), .int (nI sheads), .int (nI ssayings), .int (nI sslugs), .int (nI sacts), .ref (ss 1), .ref (ss 2), .ref (ss 3), .ref (ss 4), .ref (ss 5), .ref (ss 6), .ref (ss 7), .ref (ss 8), .ref (ss 9), .ref (ss 10)])), ((ss 1), .inl (k 0, 12, .inl sf0)), ((ss 2), .inl (k 0, 12, .inl sf1)), ((ss 3), .inl (k 0, 12, .inl sf2)), ((ss 4), .inl (k 0, 12, .inl sf3)), ((ss 5), .inl (k 0, 12, .inl sf4)), ((ss 6), .inl (k 0, 12, .inl sf5)), ((ss 7), .inl (k 0, 4, .inl sf6)), ((ss 8), .inl (k 0, 42, .inl sf7)), ((ss 9), .inl (k 0, 42, .inl sf8)), ((ss 10), .inl (k 0, 42, .inl sf9))]) S hK hP hD hS hl lkX2_70 21 10 rfl rfl (ni_nn (a := 0) (by decide) (by omega)) (ni_nn (a := 0) (by decide) (by omega)) (ni_nn (a := 42) (by decide) (by omega)) (ni_cp (a := 0) (b := 42) (by decide) (by decide) (by omega) (by omega) (by omega)) (ni_cp (a := 0) (b := 42) (by decide) (by decide) (by omega) (by omega) (by omega)) ⟨Nat.le_of_ble_eq_true rfl, Nat.le_of_ble_eq_true rfl⟩ (fun _ => rfl) dX2_copy_218 (fun f_10 H locs ef_10 hP hD hS => ?_)
  exact x_retv S hr hlk hQ hS ((fun i => ([slines, slaw, sodds] : List (Int32)).getD i 0), (fun i => ([shours, srows, sheads, ssayings, sslugs, sacts] : List (Nat)).getD i 0), (fun i => ([f_1, f_10, f_2, f_3, f_4, f_5, f_6, f_7, f_8, f_9] : List (Nat → Int32)).getD i (fun _ => 0)), (fun i => ([] : List (Nat → Int64)).getD i (fun _ => 0)), (fun i => ([] : List (Int64)).getD i 0)) ⟨(show shours ≤ 16 by omega), (show srows ≤ 4 by omega), (show sheads ≤ 12 by omega), (show ssayings ≤ 8 by omega), (show sslugs ≤ 4 by omega), (show sacts ≤ 30 by omega)⟩ (x_B hP hD) dX2_copy_221

