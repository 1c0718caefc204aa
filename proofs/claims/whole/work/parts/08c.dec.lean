theorem d_M_init_0 : decode (xC k_M_init) 0 = .ok (.aload_n 0, 1) := by decide +kernel
theorem d_M_init_1 : decode (xC k_M_init) 1 = .ok (.invokespecial 1, 3) := by decide +kernel
theorem d_M_init_4 : decode (xC k_M_init) 4 = .ok (.aload_n 0, 1) := by decide +kernel
theorem d_M_init_5 : decode (xC k_M_init) 5 = .ok (.bipush 80, 2) := by decide +kernel
theorem d_M_init_7 : decode (xC k_M_init) 7 = .ok (.newarray .int, 2) := by decide +kernel
theorem d_M_init_9 : decode (xC k_M_init) 9 = .ok (.putfield 7, 3) := by decide +kernel
theorem d_M_init_12 : decode (xC k_M_init) 12 = .ok (.aload_n 0, 1) := by decide +kernel
theorem d_M_init_13 : decode (xC k_M_init) 13 = .ok (.bipush 8, 2) := by decide +kernel
theorem d_M_init_15 : decode (xC k_M_init) 15 = .ok (.newarray .int, 2) := by decide +kernel
theorem d_M_init_17 : decode (xC k_M_init) 17 = .ok (.putfield 13, 3) := by decide +kernel
theorem d_M_init_20 : decode (xC k_M_init) 20 = .ok (.aload_n 0, 1) := by decide +kernel
theorem d_M_init_21 : decode (xC k_M_init) 21 = .ok (.bipush 48, 2) := by decide +kernel
theorem d_M_init_23 : decode (xC k_M_init) 23 = .ok (.newarray .int, 2) := by decide +kernel
theorem d_M_init_25 : decode (xC k_M_init) 25 = .ok (.putfield 16, 3) := by decide +kernel
theorem d_M_init_28 : decode (xC k_M_init) 28 = .ok (.aload_n 0, 1) := by decide +kernel
theorem d_M_init_29 : decode (xC k_M_init) 29 = .ok (.bipush 8, 2) := by decide +kernel
theorem d_M_init_31 : decode (xC k_M_init) 31 = .ok (.newarray .int, 2) := by decide +kernel
theorem d_M_init_33 : decode (xC k_M_init) 33 = .ok (.putfield 19, 3) := by decide +kernel
theorem d_M_init_36 : decode (xC k_M_init) 36 = .ok (.aload_n 0, 1) := by decide +kernel
theorem d_M_init_37 : decode (xC k_M_init) 37 = .ok (.sipush 1280, 3) := by decide +kernel
theorem d_M_init_40 : decode (xC k_M_init) 40 = .ok (.newarray .int, 2) := by decide +kernel
theorem d_M_init_42 : decode (xC k_M_init) 42 = .ok (.putfield 22, 3) := by decide +kernel
theorem d_M_init_45 : decode (xC k_M_init) 45 = .ok (.aload_n 0, 1) := by decide +kernel
theorem d_M_init_46 : decode (xC k_M_init) 46 = .ok (.sipush 1280, 3) := by decide +kernel
theorem d_M_init_49 : decode (xC k_M_init) 49 = .ok (.newarray .int, 2) := by decide +kernel
theorem d_M_init_51 : decode (xC k_M_init) 51 = .ok (.putfield 25, 3) := by decide +kernel
theorem d_M_init_54 : decode (xC k_M_init) 54 = .ok (.aload_n 0, 1) := by decide +kernel
theorem d_M_init_55 : decode (xC k_M_init) 55 = .ok (.sipush 1280, 3) := by decide +kernel
theorem d_M_init_58 : decode (xC k_M_init) 58 = .ok (.newarray .int, 2) := by decide +kernel
theorem d_M_init_60 : decode (xC k_M_init) 60 = .ok (.putfield 28, 3) := by decide +kernel
theorem d_M_init_63 : decode (xC k_M_init) 63 = .ok (.aload_n 0, 1) := by decide +kernel
theorem d_M_init_64 : decode (xC k_M_init) 64 = .ok (.sipush 1280, 3) := by decide +kernel
theorem d_M_init_67 : decode (xC k_M_init) 67 = .ok (.newarray .int, 2) := by decide +kernel
theorem d_M_init_69 : decode (xC k_M_init) 69 = .ok (.putfield 31, 3) := by decide +kernel
theorem d_M_init_72 : decode (xC k_M_init) 72 = .ok (.aload_n 0, 1) := by decide +kernel
theorem d_M_init_73 : decode (xC k_M_init) 73 = .ok (.sipush 1280, 3) := by decide +kernel
theorem d_M_init_76 : decode (xC k_M_init) 76 = .ok (.newarray .int, 2) := by decide +kernel
theorem d_M_init_78 : decode (xC k_M_init) 78 = .ok (.putfield 34, 3) := by decide +kernel
theorem d_M_init_81 : decode (xC k_M_init) 81 = .ok (.aload_n 0, 1) := by decide +kernel
theorem d_M_init_82 : decode (xC k_M_init) 82 = .ok (.sipush 1280, 3) := by decide +kernel
theorem d_M_init_85 : decode (xC k_M_init) 85 = .ok (.newarray .int, 2) := by decide +kernel
theorem d_M_init_87 : decode (xC k_M_init) 87 = .ok (.putfield 37, 3) := by decide +kernel
theorem d_M_init_90 : decode (xC k_M_init) 90 = .ok (.aload_n 0, 1) := by decide +kernel
theorem d_M_init_91 : decode (xC k_M_init) 91 = .ok (.sipush 160, 3) := by decide +kernel
theorem d_M_init_94 : decode (xC k_M_init) 94 = .ok (.newarray .int, 2) := by decide +kernel
theorem d_M_init_96 : decode (xC k_M_init) 96 = .ok (.putfield 40, 3) := by decide +kernel
theorem d_M_init_99 : decode (xC k_M_init) 99 = .ok (.aload_n 0, 1) := by decide +kernel
theorem d_M_init_100 : decode (xC k_M_init) 100 = .ok (.sipush 400, 3) := by decide +kernel
theorem d_M_init_103 : decode (xC k_M_init) 103 = .ok (.newarray .int, 2) := by decide +kernel
theorem d_M_init_105 : decode (xC k_M_init) 105 = .ok (.putfield 43, 3) := by decide +kernel
theorem d_M_init_108 : decode (xC k_M_init) 108 = .ok (.aload_n 0, 1) := by decide +kernel
theorem d_M_init_109 : decode (xC k_M_init) 109 = .ok (.sipush 400, 3) := by decide +kernel
theorem d_M_init_112 : decode (xC k_M_init) 112 = .ok (.newarray .int, 2) := by decide +kernel
theorem d_M_init_114 : decode (xC k_M_init) 114 = .ok (.putfield 46, 3) := by decide +kernel
theorem d_M_init_117 : decode (xC k_M_init) 117 = .ok (.aload_n 0, 1) := by decide +kernel
theorem d_M_init_118 : decode (xC k_M_init) 118 = .ok (.bipush 8, 2) := by decide +kernel
theorem d_M_init_120 : decode (xC k_M_init) 120 = .ok (.newarray .int, 2) := by decide +kernel
theorem d_M_init_122 : decode (xC k_M_init) 122 = .ok (.putfield 49, 3) := by decide +kernel
theorem d_M_init_125 : decode (xC k_M_init) 125 = .ok (.aload_n 0, 1) := by decide +kernel
theorem d_M_init_126 : decode (xC k_M_init) 126 = .ok (.sipush 480, 3) := by decide +kernel
theorem d_M_init_129 : decode (xC k_M_init) 129 = .ok (.newarray .int, 2) := by decide +kernel
theorem d_M_init_131 : decode (xC k_M_init) 131 = .ok (.putfield 52, 3) := by decide +kernel
theorem d_M_init_134 : decode (xC k_M_init) 134 = .ok (.aload_n 0, 1) := by decide +kernel
theorem d_M_init_135 : decode (xC k_M_init) 135 = .ok (.sipush 480, 3) := by decide +kernel
theorem d_M_init_138 : decode (xC k_M_init) 138 = .ok (.newarray .int, 2) := by decide +kernel
theorem d_M_init_140 : decode (xC k_M_init) 140 = .ok (.putfield 55, 3) := by decide +kernel
theorem d_M_init_143 : decode (xC k_M_init) 143 = .ok (.aload_n 0, 1) := by decide +kernel
theorem d_M_init_144 : decode (xC k_M_init) 144 = .ok (.bipush 8, 2) := by decide +kernel
theorem d_M_init_146 : decode (xC k_M_init) 146 = .ok (.newarray .int, 2) := by decide +kernel
theorem d_M_init_148 : decode (xC k_M_init) 148 = .ok (.putfield 58, 3) := by decide +kernel
theorem d_M_init_151 : decode (xC k_M_init) 151 = .ok (.aload_n 0, 1) := by decide +kernel
theorem d_M_init_152 : decode (xC k_M_init) 152 = .ok (.bipush 8, 2) := by decide +kernel
theorem d_M_init_154 : decode (xC k_M_init) 154 = .ok (.newarray .int, 2) := by decide +kernel
theorem d_M_init_156 : decode (xC k_M_init) 156 = .ok (.putfield 61, 3) := by decide +kernel
theorem d_M_init_159 : decode (xC k_M_init) 159 = .ok (.aload_n 0, 1) := by decide +kernel
theorem d_M_init_160 : decode (xC k_M_init) 160 = .ok (.bipush 20, 2) := by decide +kernel
theorem d_M_init_162 : decode (xC k_M_init) 162 = .ok (.newarray .int, 2) := by decide +kernel
theorem d_M_init_164 : decode (xC k_M_init) 164 = .ok (.putfield 64, 3) := by decide +kernel
theorem d_M_init_167 : decode (xC k_M_init) 167 = .ok (.aload_n 0, 1) := by decide +kernel
theorem d_M_init_168 : decode (xC k_M_init) 168 = .ok (.bipush 20, 2) := by decide +kernel
theorem d_M_init_170 : decode (xC k_M_init) 170 = .ok (.newarray .int, 2) := by decide +kernel
theorem d_M_init_172 : decode (xC k_M_init) 172 = .ok (.putfield 67, 3) := by decide +kernel
theorem d_M_init_175 : decode (xC k_M_init) 175 = .ok (.aload_n 0, 1) := by decide +kernel
theorem d_M_init_176 : decode (xC k_M_init) 176 = .ok (.bipush 20, 2) := by decide +kernel
theorem d_M_init_178 : decode (xC k_M_init) 178 = .ok (.newarray .int, 2) := by decide +kernel
theorem d_M_init_180 : decode (xC k_M_init) 180 = .ok (.putfield 70, 3) := by decide +kernel
theorem d_M_init_183 : decode (xC k_M_init) 183 = .ok (.aload_n 0, 1) := by decide +kernel
theorem d_M_init_184 : decode (xC k_M_init) 184 = .ok (.bipush 20, 2) := by decide +kernel
theorem d_M_init_186 : decode (xC k_M_init) 186 = .ok (.newarray .int, 2) := by decide +kernel
theorem d_M_init_188 : decode (xC k_M_init) 188 = .ok (.putfield 73, 3) := by decide +kernel
theorem d_M_init_191 : decode (xC k_M_init) 191 = .ok (.aload_n 0, 1) := by decide +kernel
theorem d_M_init_192 : decode (xC k_M_init) 192 = .ok (.bipush 20, 2) := by decide +kernel
theorem d_M_init_194 : decode (xC k_M_init) 194 = .ok (.newarray .boolean, 2) := by decide +kernel
theorem d_M_init_196 : decode (xC k_M_init) 196 = .ok (.putfield 76, 3) := by decide +kernel
theorem d_M_init_199 : decode (xC k_M_init) 199 = .ok (.aload_n 0, 1) := by decide +kernel
theorem d_M_init_200 : decode (xC k_M_init) 200 = .ok (.bipush 120, 2) := by decide +kernel
theorem d_M_init_202 : decode (xC k_M_init) 202 = .ok (.newarray .boolean, 2) := by decide +kernel
theorem d_M_init_204 : decode (xC k_M_init) 204 = .ok (.putfield 80, 3) := by decide +kernel
theorem d_M_init_207 : decode (xC k_M_init) 207 = .ok (.aload_n 0, 1) := by decide +kernel
theorem d_M_init_208 : decode (xC k_M_init) 208 = .ok (.bipush 20, 2) := by decide +kernel
theorem d_M_init_210 : decode (xC k_M_init) 210 = .ok (.newarray .int, 2) := by decide +kernel
theorem d_M_init_212 : decode (xC k_M_init) 212 = .ok (.putfield 83, 3) := by decide +kernel
theorem d_M_init_215 : decode (xC k_M_init) 215 = .ok (.aload_n 0, 1) := by decide +kernel
theorem d_M_init_216 : decode (xC k_M_init) 216 = .ok (.sipush 2000, 3) := by decide +kernel
theorem d_M_init_219 : decode (xC k_M_init) 219 = .ok (.newarray .int, 2) := by decide +kernel
theorem d_M_init_221 : decode (xC k_M_init) 221 = .ok (.putfield 86, 3) := by decide +kernel
theorem d_M_init_224 : decode (xC k_M_init) 224 = .ok (.aload_n 0, 1) := by decide +kernel
theorem d_M_init_225 : decode (xC k_M_init) 225 = .ok (.sipush 2000, 3) := by decide +kernel
theorem d_M_init_228 : decode (xC k_M_init) 228 = .ok (.newarray .int, 2) := by decide +kernel
theorem d_M_init_230 : decode (xC k_M_init) 230 = .ok (.putfield 89, 3) := by decide +kernel
theorem d_M_init_233 : decode (xC k_M_init) 233 = .ok (.aload_n 0, 1) := by decide +kernel
theorem d_M_init_234 : decode (xC k_M_init) 234 = .ok (.bipush 30, 2) := by decide +kernel
theorem d_M_init_236 : decode (xC k_M_init) 236 = .ok (.newarray .int, 2) := by decide +kernel
theorem d_M_init_238 : decode (xC k_M_init) 238 = .ok (.putfield 92, 3) := by decide +kernel
theorem d_M_init_241 : decode (xC k_M_init) 241 = .ok (.aload_n 0, 1) := by decide +kernel
theorem d_M_init_242 : decode (xC k_M_init) 242 = .ok (.bipush 30, 2) := by decide +kernel
theorem d_M_init_244 : decode (xC k_M_init) 244 = .ok (.newarray .int, 2) := by decide +kernel
theorem d_M_init_246 : decode (xC k_M_init) 246 = .ok (.putfield 95, 3) := by decide +kernel
theorem d_M_init_249 : decode (xC k_M_init) 249 = .ok (.aload_n 0, 1) := by decide +kernel
theorem d_M_init_250 : decode (xC k_M_init) 250 = .ok (.bipush 30, 2) := by decide +kernel
theorem d_M_init_252 : decode (xC k_M_init) 252 = .ok (.newarray .int, 2) := by decide +kernel
theorem d_M_init_254 : decode (xC k_M_init) 254 = .ok (.putfield 98, 3) := by decide +kernel
theorem d_M_init_257 : decode (xC k_M_init) 257 = .ok (.iconst 0, 1) := by decide +kernel
theorem d_M_init_258 : decode (xC k_M_init) 258 = .ok (.istore_n 1, 1) := by decide +kernel
theorem d_M_init_259 : decode (xC k_M_init) 259 = .ok (.iload_n 1, 1) := by decide +kernel
theorem d_M_init_260 : decode (xC k_M_init) 260 = .ok (.bipush 8, 2) := by decide +kernel
theorem d_M_init_262 : decode (xC k_M_init) 262 = .ok (.if_icmp .ge 16, 3) := by decide +kernel
theorem d_M_init_265 : decode (xC k_M_init) 265 = .ok (.aload_n 0, 1) := by decide +kernel
theorem d_M_init_266 : decode (xC k_M_init) 266 = .ok (.getfield 61, 3) := by decide +kernel
theorem d_M_init_269 : decode (xC k_M_init) 269 = .ok (.iload_n 1, 1) := by decide +kernel
theorem d_M_init_270 : decode (xC k_M_init) 270 = .ok (.iconst (-1), 1) := by decide +kernel
theorem d_M_init_271 : decode (xC k_M_init) 271 = .ok (.iastore, 1) := by decide +kernel
theorem d_M_init_272 : decode (xC k_M_init) 272 = .ok (.iinc 1 1, 3) := by decide +kernel
theorem d_M_init_275 : decode (xC k_M_init) 275 = .ok (.goto (-16), 3) := by decide +kernel
theorem d_M_init_278 : decode (xC k_M_init) 278 = .ok (.return_, 1) := by decide +kernel
theorem d_M_thrown_0 : decode (xC k_M_thrown) 0 = .ok (.aload_n 0, 1) := by decide +kernel
theorem d_M_thrown_1 : decode (xC k_M_thrown) 1 = .ok (.getfield 101, 3) := by decide +kernel
theorem d_M_thrown_4 : decode (xC k_M_thrown) 4 = .ok (.ireturn, 1) := by decide +kernel
theorem d_M_goes_0 : decode (xC k_M_goes) 0 = .ok (.aload_n 0, 1) := by decide +kernel
theorem d_M_goes_1 : decode (xC k_M_goes) 1 = .ok (.iload_n 1, 1) := by decide +kernel
theorem d_M_goes_2 : decode (xC k_M_goes) 2 = .ok (.ifCond .ne 7, 3) := by decide +kernel
theorem d_M_goes_5 : decode (xC k_M_goes) 5 = .ok (.iconst 1, 1) := by decide +kernel
theorem d_M_goes_6 : decode (xC k_M_goes) 6 = .ok (.goto 20, 3) := by decide +kernel
theorem d_M_goes_9 : decode (xC k_M_goes) 9 = .ok (.iload_n 2, 1) := by decide +kernel
theorem d_M_goes_10 : decode (xC k_M_goes) 10 = .ok (.ifCond .ne 7, 3) := by decide +kernel
theorem d_M_goes_13 : decode (xC k_M_goes) 13 = .ok (.iconst 2, 1) := by decide +kernel
theorem d_M_goes_14 : decode (xC k_M_goes) 14 = .ok (.goto 12, 3) := by decide +kernel
theorem d_M_goes_17 : decode (xC k_M_goes) 17 = .ok (.iload_n 3, 1) := by decide +kernel
theorem d_M_goes_18 : decode (xC k_M_goes) 18 = .ok (.ifCond .ne 7, 3) := by decide +kernel
theorem d_M_goes_21 : decode (xC k_M_goes) 21 = .ok (.iconst 3, 1) := by decide +kernel
theorem d_M_goes_22 : decode (xC k_M_goes) 22 = .ok (.goto 4, 3) := by decide +kernel
theorem d_M_goes_25 : decode (xC k_M_goes) 25 = .ok (.iconst 0, 1) := by decide +kernel
theorem d_M_goes_26 : decode (xC k_M_goes) 26 = .ok (.putfield 101, 3) := by decide +kernel
theorem d_M_goes_29 : decode (xC k_M_goes) 29 = .ok (.aload_n 0, 1) := by decide +kernel
theorem d_M_goes_30 : decode (xC k_M_goes) 30 = .ok (.getfield 101, 3) := by decide +kernel
theorem d_M_goes_33 : decode (xC k_M_goes) 33 = .ok (.ifCond .ne 7, 3) := by decide +kernel
theorem d_M_goes_36 : decode (xC k_M_goes) 36 = .ok (.iconst 1, 1) := by decide +kernel
theorem d_M_goes_37 : decode (xC k_M_goes) 37 = .ok (.goto 4, 3) := by decide +kernel
theorem d_M_goes_40 : decode (xC k_M_goes) 40 = .ok (.iconst 0, 1) := by decide +kernel
theorem d_M_goes_41 : decode (xC k_M_goes) 41 = .ok (.ireturn, 1) := by decide +kernel
theorem d_M_within_0 : decode (xC k_M_within) 0 = .ok (.iload_n 0, 1) := by decide +kernel
theorem d_M_within_1 : decode (xC k_M_within) 1 = .ok (.iload_n 1, 1) := by decide +kernel
theorem d_M_within_2 : decode (xC k_M_within) 2 = .ok (.if_icmp .lt 12, 3) := by decide +kernel
theorem d_M_within_5 : decode (xC k_M_within) 5 = .ok (.iload_n 0, 1) := by decide +kernel
theorem d_M_within_6 : decode (xC k_M_within) 6 = .ok (.iload_n 2, 1) := by decide +kernel
theorem d_M_within_7 : decode (xC k_M_within) 7 = .ok (.if_icmp .gt 7, 3) := by decide +kernel
theorem d_M_within_10 : decode (xC k_M_within) 10 = .ok (.iconst 1, 1) := by decide +kernel
theorem d_M_within_11 : decode (xC k_M_within) 11 = .ok (.goto 4, 3) := by decide +kernel
theorem d_M_within_14 : decode (xC k_M_within) 14 = .ok (.iconst 0, 1) := by decide +kernel
theorem d_M_within_15 : decode (xC k_M_within) 15 = .ok (.ireturn, 1) := by decide +kernel
theorem d_M_isLoan_0 : decode (xC k_M_isLoan) 0 = .ok (.iload_n 1, 1) := by decide +kernel
theorem d_M_isLoan_1 : decode (xC k_M_isLoan) 1 = .ok (.ifCond .lt 15, 3) := by decide +kernel
theorem d_M_isLoan_4 : decode (xC k_M_isLoan) 4 = .ok (.iload_n 1, 1) := by decide +kernel
theorem d_M_isLoan_5 : decode (xC k_M_isLoan) 5 = .ok (.aload_n 0, 1) := by decide +kernel
theorem d_M_isLoan_6 : decode (xC k_M_isLoan) 6 = .ok (.getfield 105, 3) := by decide +kernel
theorem d_M_isLoan_9 : decode (xC k_M_isLoan) 9 = .ok (.if_icmp .ge 7, 3) := by decide +kernel
theorem d_M_isLoan_12 : decode (xC k_M_isLoan) 12 = .ok (.iconst 1, 1) := by decide +kernel
theorem d_M_isLoan_13 : decode (xC k_M_isLoan) 13 = .ok (.goto 4, 3) := by decide +kernel
theorem d_M_isLoan_16 : decode (xC k_M_isLoan) 16 = .ok (.iconst 0, 1) := by decide +kernel
theorem d_M_isLoan_17 : decode (xC k_M_isLoan) 17 = .ok (.ireturn, 1) := by decide +kernel
theorem d_M_isThing_0 : decode (xC k_M_isThing) 0 = .ok (.iload_n 0, 1) := by decide +kernel
theorem d_M_isThing_1 : decode (xC k_M_isThing) 1 = .ok (.ifCond .lt 13, 3) := by decide +kernel
theorem d_M_isThing_4 : decode (xC k_M_isThing) 4 = .ok (.iload_n 0, 1) := by decide +kernel
theorem d_M_isThing_5 : decode (xC k_M_isThing) 5 = .ok (.bipush 16, 2) := by decide +kernel
theorem d_M_isThing_7 : decode (xC k_M_isThing) 7 = .ok (.if_icmp .ge 7, 3) := by decide +kernel
theorem d_M_isThing_10 : decode (xC k_M_isThing) 10 = .ok (.iconst 1, 1) := by decide +kernel
theorem d_M_isThing_11 : decode (xC k_M_isThing) 11 = .ok (.goto 4, 3) := by decide +kernel
theorem d_M_isThing_14 : decode (xC k_M_isThing) 14 = .ok (.iconst 0, 1) := by decide +kernel
theorem d_M_isThing_15 : decode (xC k_M_isThing) 15 = .ok (.ireturn, 1) := by decide +kernel
theorem d_M_areDays_0 : decode (xC k_M_areDays) 0 = .ok (.iload_n 0, 1) := by decide +kernel
theorem d_M_areDays_1 : decode (xC k_M_areDays) 1 = .ok (.ifCond .lt 18, 3) := by decide +kernel
theorem d_M_areDays_4 : decode (xC k_M_areDays) 4 = .ok (.iload_n 0, 1) := by decide +kernel
theorem d_M_areDays_5 : decode (xC k_M_areDays) 5 = .ok (.iload_n 1, 1) := by decide +kernel
theorem d_M_areDays_6 : decode (xC k_M_areDays) 6 = .ok (.if_icmp .gt 13, 3) := by decide +kernel
theorem d_M_areDays_9 : decode (xC k_M_areDays) 9 = .ok (.iload_n 1, 1) := by decide +kernel
theorem d_M_areDays_10 : decode (xC k_M_areDays) 10 = .ok (.ldc 108, 2) := by decide +kernel
theorem d_M_areDays_12 : decode (xC k_M_areDays) 12 = .ok (.if_icmp .gt 7, 3) := by decide +kernel
theorem d_M_areDays_15 : decode (xC k_M_areDays) 15 = .ok (.iconst 1, 1) := by decide +kernel
theorem d_M_areDays_16 : decode (xC k_M_areDays) 16 = .ok (.goto 4, 3) := by decide +kernel
theorem d_M_areDays_19 : decode (xC k_M_areDays) 19 = .ok (.iconst 0, 1) := by decide +kernel
theorem d_M_areDays_20 : decode (xC k_M_areDays) 20 = .ok (.ireturn, 1) := by decide +kernel
theorem d_M_unit_0 : decode (xC k_M_unit) 0 = .ok (.aload_n 0, 1) := by decide +kernel
theorem d_M_unit_1 : decode (xC k_M_unit) 1 = .ok (.aload_n 0, 1) := by decide +kernel
theorem d_M_unit_2 : decode (xC k_M_unit) 2 = .ok (.getfield 109, 3) := by decide +kernel
theorem d_M_unit_5 : decode (xC k_M_unit) 5 = .ok (.bipush 80, 2) := by decide +kernel
theorem d_M_unit_7 : decode (xC k_M_unit) 7 = .ok (.if_icmp .ge 7, 3) := by decide +kernel
theorem d_M_unit_10 : decode (xC k_M_unit) 10 = .ok (.iconst 1, 1) := by decide +kernel
theorem d_M_unit_11 : decode (xC k_M_unit) 11 = .ok (.goto 4, 3) := by decide +kernel
theorem d_M_unit_14 : decode (xC k_M_unit) 14 = .ok (.iconst 0, 1) := by decide +kernel
theorem d_M_unit_15 : decode (xC k_M_unit) 15 = .ok (.iload_n 1, 1) := by decide +kernel
theorem d_M_unit_16 : decode (xC k_M_unit) 16 = .ok (.bipush 33, 2) := by decide +kernel
theorem d_M_unit_18 : decode (xC k_M_unit) 18 = .ok (.bipush 126, 2) := by decide +kernel
theorem d_M_unit_20 : decode (xC k_M_unit) 20 = .ok (.invokestatic 112, 3) := by decide +kernel
theorem d_M_unit_23 : decode (xC k_M_unit) 23 = .ok (.iconst 1, 1) := by decide +kernel
theorem d_M_unit_24 : decode (xC k_M_unit) 24 = .ok (.invokevirtual 116, 3) := by decide +kernel
theorem d_M_unit_27 : decode (xC k_M_unit) 27 = .ok (.ifCond .ne 5, 3) := by decide +kernel
theorem d_M_unit_30 : decode (xC k_M_unit) 30 = .ok (.iconst 0, 1) := by decide +kernel
theorem d_M_unit_31 : decode (xC k_M_unit) 31 = .ok (.ireturn, 1) := by decide +kernel
theorem d_M_unit_32 : decode (xC k_M_unit) 32 = .ok (.aload_n 0, 1) := by decide +kernel
theorem d_M_unit_33 : decode (xC k_M_unit) 33 = .ok (.getfield 7, 3) := by decide +kernel
theorem d_M_unit_36 : decode (xC k_M_unit) 36 = .ok (.aload_n 0, 1) := by decide +kernel
theorem d_M_unit_37 : decode (xC k_M_unit) 37 = .ok (.getfield 109, 3) := by decide +kernel
theorem d_M_unit_40 : decode (xC k_M_unit) 40 = .ok (.iload_n 1, 1) := by decide +kernel
theorem d_M_unit_41 : decode (xC k_M_unit) 41 = .ok (.iastore, 1) := by decide +kernel
theorem d_M_unit_42 : decode (xC k_M_unit) 42 = .ok (.aload_n 0, 1) := by decide +kernel
theorem d_M_unit_43 : decode (xC k_M_unit) 43 = .ok (.dup, 1) := by decide +kernel
theorem d_M_unit_44 : decode (xC k_M_unit) 44 = .ok (.getfield 109, 3) := by decide +kernel
theorem d_M_unit_47 : decode (xC k_M_unit) 47 = .ok (.iconst 1, 1) := by decide +kernel
theorem d_M_unit_48 : decode (xC k_M_unit) 48 = .ok (.iadd, 1) := by decide +kernel
theorem d_M_unit_49 : decode (xC k_M_unit) 49 = .ok (.putfield 109, 3) := by decide +kernel
theorem d_M_unit_52 : decode (xC k_M_unit) 52 = .ok (.aload_n 0, 1) := by decide +kernel
theorem d_M_unit_53 : decode (xC k_M_unit) 53 = .ok (.getfield 109, 3) := by decide +kernel
theorem d_M_unit_56 : decode (xC k_M_unit) 56 = .ok (.ireturn, 1) := by decide +kernel
theorem d_M_isDigit_0 : decode (xC k_M_isDigit) 0 = .ok (.iload_n 0, 1) := by decide +kernel
theorem d_M_isDigit_1 : decode (xC k_M_isDigit) 1 = .ok (.bipush 48, 2) := by decide +kernel
theorem d_M_isDigit_3 : decode (xC k_M_isDigit) 3 = .ok (.if_icmp .lt 13, 3) := by decide +kernel
theorem d_M_isDigit_6 : decode (xC k_M_isDigit) 6 = .ok (.iload_n 0, 1) := by decide +kernel
theorem d_M_isDigit_7 : decode (xC k_M_isDigit) 7 = .ok (.bipush 57, 2) := by decide +kernel
theorem d_M_isDigit_9 : decode (xC k_M_isDigit) 9 = .ok (.if_icmp .gt 7, 3) := by decide +kernel
theorem d_M_isDigit_12 : decode (xC k_M_isDigit) 12 = .ok (.iconst 1, 1) := by decide +kernel
theorem d_M_isDigit_13 : decode (xC k_M_isDigit) 13 = .ok (.goto 4, 3) := by decide +kernel
theorem d_M_isDigit_16 : decode (xC k_M_isDigit) 16 = .ok (.iconst 0, 1) := by decide +kernel
theorem d_M_isDigit_17 : decode (xC k_M_isDigit) 17 = .ok (.ireturn, 1) := by decide +kernel
theorem d_M_isName_0 : decode (xC k_M_isName) 0 = .ok (.iload_n 0, 1) := by decide +kernel
theorem d_M_isName_1 : decode (xC k_M_isName) 1 = .ok (.bipush 97, 2) := by decide +kernel
theorem d_M_isName_3 : decode (xC k_M_isName) 3 = .ok (.if_icmp .lt 9, 3) := by decide +kernel
theorem d_M_isName_6 : decode (xC k_M_isName) 6 = .ok (.iload_n 0, 1) := by decide +kernel
theorem d_M_isName_7 : decode (xC k_M_isName) 7 = .ok (.bipush 104, 2) := by decide +kernel
theorem d_M_isName_9 : decode (xC k_M_isName) 9 = .ok (.if_icmp .le 15, 3) := by decide +kernel
theorem d_M_isName_12 : decode (xC k_M_isName) 12 = .ok (.iload_n 0, 1) := by decide +kernel
theorem d_M_isName_13 : decode (xC k_M_isName) 13 = .ok (.bipush 121, 2) := by decide +kernel
theorem d_M_isName_15 : decode (xC k_M_isName) 15 = .ok (.if_icmp .eq 9, 3) := by decide +kernel
theorem d_M_isName_18 : decode (xC k_M_isName) 18 = .ok (.iload_n 0, 1) := by decide +kernel
theorem d_M_isName_19 : decode (xC k_M_isName) 19 = .ok (.bipush 122, 2) := by decide +kernel
theorem d_M_isName_21 : decode (xC k_M_isName) 21 = .ok (.if_icmp .ne 7, 3) := by decide +kernel
theorem d_M_isName_24 : decode (xC k_M_isName) 24 = .ok (.iconst 1, 1) := by decide +kernel
theorem d_M_isName_25 : decode (xC k_M_isName) 25 = .ok (.goto 4, 3) := by decide +kernel
theorem d_M_isName_28 : decode (xC k_M_isName) 28 = .ok (.iconst 0, 1) := by decide +kernel
theorem d_M_isName_29 : decode (xC k_M_isName) 29 = .ok (.ireturn, 1) := by decide +kernel
theorem d_M_fault_0 : decode (xC k_M_fault) 0 = .ok (.iconst 0, 1) := by decide +kernel
theorem d_M_fault_1 : decode (xC k_M_fault) 1 = .ok (.istore_n 1, 1) := by decide +kernel
theorem d_M_fault_2 : decode (xC k_M_fault) 2 = .ok (.iconst 0, 1) := by decide +kernel
theorem d_M_fault_3 : decode (xC k_M_fault) 3 = .ok (.istore_n 2, 1) := by decide +kernel
theorem d_M_fault_4 : decode (xC k_M_fault) 4 = .ok (.iconst 0, 1) := by decide +kernel
theorem d_M_fault_5 : decode (xC k_M_fault) 5 = .ok (.istore_n 3, 1) := by decide +kernel
theorem d_M_fault_6 : decode (xC k_M_fault) 6 = .ok (.iconst 1, 1) := by decide +kernel
theorem d_M_fault_7 : decode (xC k_M_fault) 7 = .ok (.istore 4, 2) := by decide +kernel
theorem d_M_fault_9 : decode (xC k_M_fault) 9 = .ok (.iconst 0, 1) := by decide +kernel
theorem d_M_fault_10 : decode (xC k_M_fault) 10 = .ok (.istore 5, 2) := by decide +kernel
theorem d_M_fault_12 : decode (xC k_M_fault) 12 = .ok (.iconst 0, 1) := by decide +kernel
theorem d_M_fault_13 : decode (xC k_M_fault) 13 = .ok (.istore 6, 2) := by decide +kernel
theorem d_M_fault_15 : decode (xC k_M_fault) 15 = .ok (.iload 6, 2) := by decide +kernel
theorem d_M_fault_17 : decode (xC k_M_fault) 17 = .ok (.aload_n 0, 1) := by decide +kernel
theorem d_M_fault_18 : decode (xC k_M_fault) 18 = .ok (.getfield 109, 3) := by decide +kernel
theorem d_M_fault_21 : decode (xC k_M_fault) 21 = .ok (.if_icmp .ge 351, 3) := by decide +kernel
theorem d_M_fault_24 : decode (xC k_M_fault) 24 = .ok (.aload_n 0, 1) := by decide +kernel
theorem d_M_fault_25 : decode (xC k_M_fault) 25 = .ok (.getfield 7, 3) := by decide +kernel
theorem d_M_fault_28 : decode (xC k_M_fault) 28 = .ok (.iload 6, 2) := by decide +kernel
theorem d_M_fault_30 : decode (xC k_M_fault) 30 = .ok (.iaload, 1) := by decide +kernel
theorem d_M_fault_31 : decode (xC k_M_fault) 31 = .ok (.istore 7, 2) := by decide +kernel
theorem d_M_fault_33 : decode (xC k_M_fault) 33 = .ok (.iconst 0, 1) := by decide +kernel
theorem d_M_fault_34 : decode (xC k_M_fault) 34 = .ok (.istore 8, 2) := by decide +kernel
theorem d_M_fault_36 : decode (xC k_M_fault) 36 = .ok (.iload_n 1, 1) := by decide +kernel
theorem d_M_fault_37 : decode (xC k_M_fault) 37 = .ok (.ifCond .ne 109, 3) := by decide +kernel
theorem d_M_fault_40 : decode (xC k_M_fault) 40 = .ok (.iload 7, 2) := by decide +kernel
theorem d_M_fault_42 : decode (xC k_M_fault) 42 = .ok (.bipush 33, 2) := by decide +kernel
theorem d_M_fault_44 : decode (xC k_M_fault) 44 = .ok (.if_icmp .ne 12, 3) := by decide +kernel
theorem d_M_fault_47 : decode (xC k_M_fault) 47 = .ok (.iload_n 2, 1) := by decide +kernel
theorem d_M_fault_48 : decode (xC k_M_fault) 48 = .ok (.iconst 3, 1) := by decide +kernel
theorem d_M_fault_49 : decode (xC k_M_fault) 49 = .ok (.if_icmp .ge 7, 3) := by decide +kernel
theorem d_M_fault_52 : decode (xC k_M_fault) 52 = .ok (.iconst 1, 1) := by decide +kernel
theorem d_M_fault_53 : decode (xC k_M_fault) 53 = .ok (.goto 4, 3) := by decide +kernel
theorem d_M_fault_56 : decode (xC k_M_fault) 56 = .ok (.iconst 0, 1) := by decide +kernel
theorem d_M_fault_57 : decode (xC k_M_fault) 57 = .ok (.istore 9, 2) := by decide +kernel
theorem d_M_fault_59 : decode (xC k_M_fault) 59 = .ok (.iload 7, 2) := by decide +kernel
theorem d_M_fault_61 : decode (xC k_M_fault) 61 = .ok (.bipush 40, 2) := by decide +kernel
theorem d_M_fault_63 : decode (xC k_M_fault) 63 = .ok (.if_icmp .ne 12, 3) := by decide +kernel
theorem d_M_fault_66 : decode (xC k_M_fault) 66 = .ok (.iload_n 3, 1) := by decide +kernel
theorem d_M_fault_67 : decode (xC k_M_fault) 67 = .ok (.iconst 5, 1) := by decide +kernel
theorem d_M_fault_68 : decode (xC k_M_fault) 68 = .ok (.if_icmp .ge 7, 3) := by decide +kernel
theorem d_M_fault_71 : decode (xC k_M_fault) 71 = .ok (.iconst 1, 1) := by decide +kernel
theorem d_M_fault_72 : decode (xC k_M_fault) 72 = .ok (.goto 4, 3) := by decide +kernel
theorem d_M_fault_75 : decode (xC k_M_fault) 75 = .ok (.iconst 0, 1) := by decide +kernel
theorem d_M_fault_76 : decode (xC k_M_fault) 76 = .ok (.istore 10, 2) := by decide +kernel
theorem d_M_fault_78 : decode (xC k_M_fault) 78 = .ok (.iload 9, 2) := by decide +kernel
theorem d_M_fault_80 : decode (xC k_M_fault) 80 = .ok (.ifCond .ne 16, 3) := by decide +kernel
theorem d_M_fault_83 : decode (xC k_M_fault) 83 = .ok (.iload 10, 2) := by decide +kernel
theorem d_M_fault_85 : decode (xC k_M_fault) 85 = .ok (.ifCond .ne 11, 3) := by decide +kernel
theorem d_M_fault_88 : decode (xC k_M_fault) 88 = .ok (.iload 7, 2) := by decide +kernel
theorem d_M_fault_90 : decode (xC k_M_fault) 90 = .ok (.invokestatic 120, 3) := by decide +kernel
theorem d_M_fault_93 : decode (xC k_M_fault) 93 = .ok (.ifCond .eq 7, 3) := by decide +kernel
theorem d_M_fault_96 : decode (xC k_M_fault) 96 = .ok (.iconst 1, 1) := by decide +kernel
theorem d_M_fault_97 : decode (xC k_M_fault) 97 = .ok (.goto 4, 3) := by decide +kernel
theorem d_M_fault_100 : decode (xC k_M_fault) 100 = .ok (.iconst 0, 1) := by decide +kernel
theorem d_M_fault_101 : decode (xC k_M_fault) 101 = .ok (.istore 8, 2) := by decide +kernel
theorem d_M_fault_103 : decode (xC k_M_fault) 103 = .ok (.iload 9, 2) := by decide +kernel
theorem d_M_fault_105 : decode (xC k_M_fault) 105 = .ok (.ifCond .eq 9, 3) := by decide +kernel
theorem d_M_fault_108 : decode (xC k_M_fault) 108 = .ok (.iload_n 2, 1) := by decide +kernel
theorem d_M_fault_109 : decode (xC k_M_fault) 109 = .ok (.iconst 1, 1) := by decide +kernel
theorem d_M_fault_110 : decode (xC k_M_fault) 110 = .ok (.iadd, 1) := by decide +kernel
theorem d_M_fault_111 : decode (xC k_M_fault) 111 = .ok (.goto 4, 3) := by decide +kernel
theorem d_M_fault_114 : decode (xC k_M_fault) 114 = .ok (.iconst 0, 1) := by decide +kernel
theorem d_M_fault_115 : decode (xC k_M_fault) 115 = .ok (.istore_n 2, 1) := by decide +kernel
theorem d_M_fault_116 : decode (xC k_M_fault) 116 = .ok (.iload 10, 2) := by decide +kernel
theorem d_M_fault_118 : decode (xC k_M_fault) 118 = .ok (.ifCond .eq 9, 3) := by decide +kernel
theorem d_M_fault_121 : decode (xC k_M_fault) 121 = .ok (.iload_n 3, 1) := by decide +kernel
theorem d_M_fault_122 : decode (xC k_M_fault) 122 = .ok (.iconst 1, 1) := by decide +kernel
theorem d_M_fault_123 : decode (xC k_M_fault) 123 = .ok (.iadd, 1) := by decide +kernel
theorem d_M_fault_124 : decode (xC k_M_fault) 124 = .ok (.goto 4, 3) := by decide +kernel
theorem d_M_fault_127 : decode (xC k_M_fault) 127 = .ok (.iload_n 3, 1) := by decide +kernel
theorem d_M_fault_128 : decode (xC k_M_fault) 128 = .ok (.istore_n 3, 1) := by decide +kernel
theorem d_M_fault_129 : decode (xC k_M_fault) 129 = .ok (.iload 7, 2) := by decide +kernel
theorem d_M_fault_131 : decode (xC k_M_fault) 131 = .ok (.invokestatic 120, 3) := by decide +kernel
theorem d_M_fault_134 : decode (xC k_M_fault) 134 = .ok (.ifCond .eq 7, 3) := by decide +kernel
theorem d_M_fault_137 : decode (xC k_M_fault) 137 = .ok (.iconst 1, 1) := by decide +kernel
theorem d_M_fault_138 : decode (xC k_M_fault) 138 = .ok (.goto 4, 3) := by decide +kernel
theorem d_M_fault_141 : decode (xC k_M_fault) 141 = .ok (.iconst 0, 1) := by decide +kernel
theorem d_M_fault_142 : decode (xC k_M_fault) 142 = .ok (.istore_n 1, 1) := by decide +kernel
theorem d_M_fault_143 : decode (xC k_M_fault) 143 = .ok (.goto 215, 3) := by decide +kernel
theorem d_M_fault_146 : decode (xC k_M_fault) 146 = .ok (.iload_n 1, 1) := by decide +kernel
theorem d_M_fault_147 : decode (xC k_M_fault) 147 = .ok (.iconst 1, 1) := by decide +kernel
theorem d_M_fault_148 : decode (xC k_M_fault) 148 = .ok (.if_icmp .ne 36, 3) := by decide +kernel
theorem d_M_fault_151 : decode (xC k_M_fault) 151 = .ok (.iload 7, 2) := by decide +kernel
theorem d_M_fault_153 : decode (xC k_M_fault) 153 = .ok (.bipush 60, 2) := by decide +kernel
theorem d_M_fault_155 : decode (xC k_M_fault) 155 = .ok (.if_icmp .eq 17, 3) := by decide +kernel
theorem d_M_fault_158 : decode (xC k_M_fault) 158 = .ok (.iload 7, 2) := by decide +kernel
theorem d_M_fault_160 : decode (xC k_M_fault) 160 = .ok (.bipush 61, 2) := by decide +kernel
theorem d_M_fault_162 : decode (xC k_M_fault) 162 = .ok (.if_icmp .eq 10, 3) := by decide +kernel
theorem d_M_fault_165 : decode (xC k_M_fault) 165 = .ok (.iload 7, 2) := by decide +kernel
theorem d_M_fault_167 : decode (xC k_M_fault) 167 = .ok (.bipush 62, 2) := by decide +kernel
theorem d_M_fault_169 : decode (xC k_M_fault) 169 = .ok (.if_icmp .ne 7, 3) := by decide +kernel
theorem d_M_fault_172 : decode (xC k_M_fault) 172 = .ok (.iconst 1, 1) := by decide +kernel
theorem d_M_fault_173 : decode (xC k_M_fault) 173 = .ok (.goto 4, 3) := by decide +kernel
theorem d_M_fault_176 : decode (xC k_M_fault) 176 = .ok (.iconst 0, 1) := by decide +kernel
theorem d_M_fault_177 : decode (xC k_M_fault) 177 = .ok (.istore 8, 2) := by decide +kernel
theorem d_M_fault_179 : decode (xC k_M_fault) 179 = .ok (.iconst 2, 1) := by decide +kernel
theorem d_M_fault_180 : decode (xC k_M_fault) 180 = .ok (.istore_n 1, 1) := by decide +kernel
theorem d_M_fault_181 : decode (xC k_M_fault) 181 = .ok (.goto 177, 3) := by decide +kernel
theorem d_M_fault_184 : decode (xC k_M_fault) 184 = .ok (.iload_n 1, 1) := by decide +kernel
theorem d_M_fault_185 : decode (xC k_M_fault) 185 = .ok (.iconst 2, 1) := by decide +kernel
theorem d_M_fault_186 : decode (xC k_M_fault) 186 = .ok (.if_icmp .eq 16, 3) := by decide +kernel
theorem d_M_fault_189 : decode (xC k_M_fault) 189 = .ok (.iload_n 1, 1) := by decide +kernel
theorem d_M_fault_190 : decode (xC k_M_fault) 190 = .ok (.iconst 3, 1) := by decide +kernel
theorem d_M_fault_191 : decode (xC k_M_fault) 191 = .ok (.if_icmp .ne 53, 3) := by decide +kernel
theorem d_M_fault_194 : decode (xC k_M_fault) 194 = .ok (.iload 7, 2) := by decide +kernel
theorem d_M_fault_196 : decode (xC k_M_fault) 196 = .ok (.invokestatic 124, 3) := by decide +kernel
theorem d_M_fault_199 : decode (xC k_M_fault) 199 = .ok (.ifCond .eq 45, 3) := by decide +kernel
theorem d_M_fault_202 : decode (xC k_M_fault) 202 = .ok (.iload_n 1, 1) := by decide +kernel
theorem d_M_fault_203 : decode (xC k_M_fault) 203 = .ok (.iconst 2, 1) := by decide +kernel
theorem d_M_fault_204 : decode (xC k_M_fault) 204 = .ok (.if_icmp .ne 7, 3) := by decide +kernel
theorem d_M_fault_207 : decode (xC k_M_fault) 207 = .ok (.iconst 1, 1) := by decide +kernel
theorem d_M_fault_208 : decode (xC k_M_fault) 208 = .ok (.goto 7, 3) := by decide +kernel
theorem d_M_fault_211 : decode (xC k_M_fault) 211 = .ok (.iload 5, 2) := by decide +kernel
theorem d_M_fault_213 : decode (xC k_M_fault) 213 = .ok (.iconst 1, 1) := by decide +kernel
theorem d_M_fault_214 : decode (xC k_M_fault) 214 = .ok (.iadd, 1) := by decide +kernel
theorem d_M_fault_215 : decode (xC k_M_fault) 215 = .ok (.istore 5, 2) := by decide +kernel
theorem d_M_fault_217 : decode (xC k_M_fault) 217 = .ok (.iload 7, 2) := by decide +kernel
theorem d_M_fault_219 : decode (xC k_M_fault) 219 = .ok (.invokestatic 124, 3) := by decide +kernel
theorem d_M_fault_222 : decode (xC k_M_fault) 222 = .ok (.ifCond .eq 14, 3) := by decide +kernel
theorem d_M_fault_225 : decode (xC k_M_fault) 225 = .ok (.iload 5, 2) := by decide +kernel
theorem d_M_fault_227 : decode (xC k_M_fault) 227 = .ok (.bipush 7, 2) := by decide +kernel
theorem d_M_fault_229 : decode (xC k_M_fault) 229 = .ok (.if_icmp .ge 7, 3) := by decide +kernel
theorem d_M_fault_232 : decode (xC k_M_fault) 232 = .ok (.iconst 1, 1) := by decide +kernel
theorem d_M_fault_233 : decode (xC k_M_fault) 233 = .ok (.goto 4, 3) := by decide +kernel
theorem d_M_fault_236 : decode (xC k_M_fault) 236 = .ok (.iconst 0, 1) := by decide +kernel
theorem d_M_fault_237 : decode (xC k_M_fault) 237 = .ok (.istore 8, 2) := by decide +kernel
theorem d_M_fault_239 : decode (xC k_M_fault) 239 = .ok (.iconst 3, 1) := by decide +kernel
theorem d_M_fault_240 : decode (xC k_M_fault) 240 = .ok (.istore_n 1, 1) := by decide +kernel
theorem d_M_fault_241 : decode (xC k_M_fault) 241 = .ok (.goto 117, 3) := by decide +kernel
theorem d_M_fault_244 : decode (xC k_M_fault) 244 = .ok (.iload 7, 2) := by decide +kernel
theorem d_M_fault_246 : decode (xC k_M_fault) 246 = .ok (.bipush 41, 2) := by decide +kernel
theorem d_M_fault_248 : decode (xC k_M_fault) 248 = .ok (.if_icmp .ne 11, 3) := by decide +kernel
theorem d_M_fault_251 : decode (xC k_M_fault) 251 = .ok (.iload_n 3, 1) := by decide +kernel
theorem d_M_fault_252 : decode (xC k_M_fault) 252 = .ok (.ifCond .le 7, 3) := by decide +kernel
theorem d_M_fault_255 : decode (xC k_M_fault) 255 = .ok (.iconst 1, 1) := by decide +kernel
theorem d_M_fault_256 : decode (xC k_M_fault) 256 = .ok (.goto 4, 3) := by decide +kernel
theorem d_M_fault_259 : decode (xC k_M_fault) 259 = .ok (.iconst 0, 1) := by decide +kernel
theorem d_M_fault_260 : decode (xC k_M_fault) 260 = .ok (.istore 9, 2) := by decide +kernel
theorem d_M_fault_262 : decode (xC k_M_fault) 262 = .ok (.iload 7, 2) := by decide +kernel
theorem d_M_fault_264 : decode (xC k_M_fault) 264 = .ok (.bipush 59, 2) := by decide +kernel
theorem d_M_fault_266 : decode (xC k_M_fault) 266 = .ok (.if_icmp .ne 18, 3) := by decide +kernel
theorem d_M_fault_269 : decode (xC k_M_fault) 269 = .ok (.iload_n 3, 1) := by decide +kernel
theorem d_M_fault_270 : decode (xC k_M_fault) 270 = .ok (.ifCond .ne 14, 3) := by decide +kernel
theorem d_M_fault_273 : decode (xC k_M_fault) 273 = .ok (.iload 4, 2) := by decide +kernel
theorem d_M_fault_275 : decode (xC k_M_fault) 275 = .ok (.bipush 6, 2) := by decide +kernel
theorem d_M_fault_277 : decode (xC k_M_fault) 277 = .ok (.if_icmp .ge 7, 3) := by decide +kernel
theorem d_M_fault_280 : decode (xC k_M_fault) 280 = .ok (.iconst 1, 1) := by decide +kernel
theorem d_M_fault_281 : decode (xC k_M_fault) 281 = .ok (.goto 4, 3) := by decide +kernel
theorem d_M_fault_284 : decode (xC k_M_fault) 284 = .ok (.iconst 0, 1) := by decide +kernel
theorem d_M_fault_285 : decode (xC k_M_fault) 285 = .ok (.istore 10, 2) := by decide +kernel
theorem d_M_fault_287 : decode (xC k_M_fault) 287 = .ok (.iload 7, 2) := by decide +kernel
theorem d_M_fault_289 : decode (xC k_M_fault) 289 = .ok (.bipush 38, 2) := by decide +kernel
theorem d_M_fault_291 : decode (xC k_M_fault) 291 = .ok (.if_icmp .eq 20, 3) := by decide +kernel
theorem d_M_fault_294 : decode (xC k_M_fault) 294 = .ok (.iload 7, 2) := by decide +kernel
theorem d_M_fault_296 : decode (xC k_M_fault) 296 = .ok (.bipush 124, 2) := by decide +kernel
theorem d_M_fault_298 : decode (xC k_M_fault) 298 = .ok (.if_icmp .eq 13, 3) := by decide +kernel
theorem d_M_fault_301 : decode (xC k_M_fault) 301 = .ok (.iload 9, 2) := by decide +kernel
theorem d_M_fault_303 : decode (xC k_M_fault) 303 = .ok (.ifCond .ne 8, 3) := by decide +kernel
theorem d_M_fault_306 : decode (xC k_M_fault) 306 = .ok (.iload 10, 2) := by decide +kernel
theorem d_M_fault_308 : decode (xC k_M_fault) 308 = .ok (.ifCond .eq 7, 3) := by decide +kernel
theorem d_M_fault_311 : decode (xC k_M_fault) 311 = .ok (.iconst 1, 1) := by decide +kernel
theorem d_M_fault_312 : decode (xC k_M_fault) 312 = .ok (.goto 4, 3) := by decide +kernel
theorem d_M_fault_315 : decode (xC k_M_fault) 315 = .ok (.iconst 0, 1) := by decide +kernel
theorem d_M_fault_316 : decode (xC k_M_fault) 316 = .ok (.istore 8, 2) := by decide +kernel
theorem d_M_fault_318 : decode (xC k_M_fault) 318 = .ok (.iload 9, 2) := by decide +kernel
theorem d_M_fault_320 : decode (xC k_M_fault) 320 = .ok (.ifCond .eq 9, 3) := by decide +kernel
theorem d_M_fault_323 : decode (xC k_M_fault) 323 = .ok (.iload_n 3, 1) := by decide +kernel
theorem d_M_fault_324 : decode (xC k_M_fault) 324 = .ok (.iconst 1, 1) := by decide +kernel
theorem d_M_fault_325 : decode (xC k_M_fault) 325 = .ok (.isub, 1) := by decide +kernel
theorem d_M_fault_326 : decode (xC k_M_fault) 326 = .ok (.goto 4, 3) := by decide +kernel
theorem d_M_fault_329 : decode (xC k_M_fault) 329 = .ok (.iload_n 3, 1) := by decide +kernel
theorem d_M_fault_330 : decode (xC k_M_fault) 330 = .ok (.istore_n 3, 1) := by decide +kernel
theorem d_M_fault_331 : decode (xC k_M_fault) 331 = .ok (.iload 10, 2) := by decide +kernel
theorem d_M_fault_333 : decode (xC k_M_fault) 333 = .ok (.ifCond .eq 10, 3) := by decide +kernel
theorem d_M_fault_336 : decode (xC k_M_fault) 336 = .ok (.iload 4, 2) := by decide +kernel
theorem d_M_fault_338 : decode (xC k_M_fault) 338 = .ok (.iconst 1, 1) := by decide +kernel
theorem d_M_fault_339 : decode (xC k_M_fault) 339 = .ok (.iadd, 1) := by decide +kernel
theorem d_M_fault_340 : decode (xC k_M_fault) 340 = .ok (.goto 5, 3) := by decide +kernel
theorem d_M_fault_343 : decode (xC k_M_fault) 343 = .ok (.iload 4, 2) := by decide +kernel
theorem d_M_fault_345 : decode (xC k_M_fault) 345 = .ok (.istore 4, 2) := by decide +kernel
theorem d_M_fault_347 : decode (xC k_M_fault) 347 = .ok (.iload 9, 2) := by decide +kernel
theorem d_M_fault_349 : decode (xC k_M_fault) 349 = .ok (.ifCond .eq 7, 3) := by decide +kernel
theorem d_M_fault_352 : decode (xC k_M_fault) 352 = .ok (.iconst 4, 1) := by decide +kernel
theorem d_M_fault_353 : decode (xC k_M_fault) 353 = .ok (.goto 4, 3) := by decide +kernel
theorem d_M_fault_356 : decode (xC k_M_fault) 356 = .ok (.iconst 0, 1) := by decide +kernel
theorem d_M_fault_357 : decode (xC k_M_fault) 357 = .ok (.istore_n 1, 1) := by decide +kernel
theorem d_M_fault_358 : decode (xC k_M_fault) 358 = .ok (.iload 8, 2) := by decide +kernel
theorem d_M_fault_360 : decode (xC k_M_fault) 360 = .ok (.ifCond .ne 6, 3) := by decide +kernel
theorem d_M_fault_363 : decode (xC k_M_fault) 363 = .ok (.iload 6, 2) := by decide +kernel
theorem d_M_fault_365 : decode (xC k_M_fault) 365 = .ok (.ireturn, 1) := by decide +kernel
theorem d_M_fault_366 : decode (xC k_M_fault) 366 = .ok (.iinc 6 1, 3) := by decide +kernel
theorem d_M_fault_369 : decode (xC k_M_fault) 369 = .ok (.goto (-354), 3) := by decide +kernel
theorem d_M_fault_372 : decode (xC k_M_fault) 372 = .ok (.iload_n 1, 1) := by decide +kernel
theorem d_M_fault_373 : decode (xC k_M_fault) 373 = .ok (.iconst 2, 1) := by decide +kernel
theorem d_M_fault_374 : decode (xC k_M_fault) 374 = .ok (.if_icmp .le 11, 3) := by decide +kernel
theorem d_M_fault_377 : decode (xC k_M_fault) 377 = .ok (.iload_n 3, 1) := by decide +kernel
theorem d_M_fault_378 : decode (xC k_M_fault) 378 = .ok (.ifCond .ne 7, 3) := by decide +kernel
theorem d_M_fault_381 : decode (xC k_M_fault) 381 = .ok (.iconst (-1), 1) := by decide +kernel
theorem d_M_fault_382 : decode (xC k_M_fault) 382 = .ok (.goto 7, 3) := by decide +kernel
theorem d_M_fault_385 : decode (xC k_M_fault) 385 = .ok (.aload_n 0, 1) := by decide +kernel
theorem d_M_fault_386 : decode (xC k_M_fault) 386 = .ok (.getfield 109, 3) := by decide +kernel
theorem d_M_fault_389 : decode (xC k_M_fault) 389 = .ok (.ireturn, 1) := by decide +kernel
theorem d_M_node_0 : decode (xC k_M_node) 0 = .ok (.sipush 160, 3) := by decide +kernel
theorem d_M_node_3 : decode (xC k_M_node) 3 = .ok (.iload_n 1, 1) := by decide +kernel
theorem d_M_node_4 : decode (xC k_M_node) 4 = .ok (.imul, 1) := by decide +kernel
theorem d_M_node_5 : decode (xC k_M_node) 5 = .ok (.aload_n 0, 1) := by decide +kernel
theorem d_M_node_6 : decode (xC k_M_node) 6 = .ok (.getfield 19, 3) := by decide +kernel
theorem d_M_node_9 : decode (xC k_M_node) 9 = .ok (.iload_n 1, 1) := by decide +kernel
theorem d_M_node_10 : decode (xC k_M_node) 10 = .ok (.iaload, 1) := by decide +kernel
theorem d_M_node_11 : decode (xC k_M_node) 11 = .ok (.iadd, 1) := by decide +kernel
theorem d_M_node_12 : decode (xC k_M_node) 12 = .ok (.istore 4, 2) := by decide +kernel
theorem d_M_node_14 : decode (xC k_M_node) 14 = .ok (.aload_n 0, 1) := by decide +kernel
theorem d_M_node_15 : decode (xC k_M_node) 15 = .ok (.getfield 22, 3) := by decide +kernel
theorem d_M_node_18 : decode (xC k_M_node) 18 = .ok (.iload 4, 2) := by decide +kernel
theorem d_M_node_20 : decode (xC k_M_node) 20 = .ok (.iload_n 2, 1) := by decide +kernel
theorem d_M_node_21 : decode (xC k_M_node) 21 = .ok (.iastore, 1) := by decide +kernel
theorem d_M_node_22 : decode (xC k_M_node) 22 = .ok (.aload_n 0, 1) := by decide +kernel
theorem d_M_node_23 : decode (xC k_M_node) 23 = .ok (.getfield 25, 3) := by decide +kernel
theorem d_M_node_26 : decode (xC k_M_node) 26 = .ok (.iload 4, 2) := by decide +kernel
theorem d_M_node_28 : decode (xC k_M_node) 28 = .ok (.iload_n 3, 1) := by decide +kernel
theorem d_M_node_29 : decode (xC k_M_node) 29 = .ok (.iastore, 1) := by decide +kernel
theorem d_M_node_30 : decode (xC k_M_node) 30 = .ok (.aload_n 0, 1) := by decide +kernel
theorem d_M_node_31 : decode (xC k_M_node) 31 = .ok (.getfield 28, 3) := by decide +kernel
theorem d_M_node_34 : decode (xC k_M_node) 34 = .ok (.iload 4, 2) := by decide +kernel
theorem d_M_node_36 : decode (xC k_M_node) 36 = .ok (.iconst 0, 1) := by decide +kernel
theorem d_M_node_37 : decode (xC k_M_node) 37 = .ok (.iastore, 1) := by decide +kernel
theorem d_M_node_38 : decode (xC k_M_node) 38 = .ok (.aload_n 0, 1) := by decide +kernel
theorem d_M_node_39 : decode (xC k_M_node) 39 = .ok (.getfield 31, 3) := by decide +kernel
theorem d_M_node_42 : decode (xC k_M_node) 42 = .ok (.iload 4, 2) := by decide +kernel
theorem d_M_node_44 : decode (xC k_M_node) 44 = .ok (.iconst 0, 1) := by decide +kernel
theorem d_M_node_45 : decode (xC k_M_node) 45 = .ok (.iastore, 1) := by decide +kernel
theorem d_M_node_46 : decode (xC k_M_node) 46 = .ok (.aload_n 0, 1) := by decide +kernel
theorem d_M_node_47 : decode (xC k_M_node) 47 = .ok (.getfield 34, 3) := by decide +kernel
theorem d_M_node_50 : decode (xC k_M_node) 50 = .ok (.iload 4, 2) := by decide +kernel
theorem d_M_node_52 : decode (xC k_M_node) 52 = .ok (.iconst 0, 1) := by decide +kernel
theorem d_M_node_53 : decode (xC k_M_node) 53 = .ok (.iastore, 1) := by decide +kernel
theorem d_M_node_54 : decode (xC k_M_node) 54 = .ok (.aload_n 0, 1) := by decide +kernel
theorem d_M_node_55 : decode (xC k_M_node) 55 = .ok (.getfield 37, 3) := by decide +kernel
theorem d_M_node_58 : decode (xC k_M_node) 58 = .ok (.iload 4, 2) := by decide +kernel
theorem d_M_node_60 : decode (xC k_M_node) 60 = .ok (.iconst 0, 1) := by decide +kernel
theorem d_M_node_61 : decode (xC k_M_node) 61 = .ok (.iastore, 1) := by decide +kernel
theorem d_M_node_62 : decode (xC k_M_node) 62 = .ok (.aload_n 0, 1) := by decide +kernel
theorem d_M_node_63 : decode (xC k_M_node) 63 = .ok (.getfield 19, 3) := by decide +kernel
theorem d_M_node_66 : decode (xC k_M_node) 66 = .ok (.iload_n 1, 1) := by decide +kernel
theorem d_M_node_67 : decode (xC k_M_node) 67 = .ok (.dup2, 1) := by decide +kernel
theorem d_M_node_68 : decode (xC k_M_node) 68 = .ok (.iaload, 1) := by decide +kernel
theorem d_M_node_69 : decode (xC k_M_node) 69 = .ok (.iconst 1, 1) := by decide +kernel
theorem d_M_node_70 : decode (xC k_M_node) 70 = .ok (.iadd, 1) := by decide +kernel
theorem d_M_node_71 : decode (xC k_M_node) 71 = .ok (.iastore, 1) := by decide +kernel
theorem d_M_node_72 : decode (xC k_M_node) 72 = .ok (.aload_n 0, 1) := by decide +kernel
theorem d_M_node_73 : decode (xC k_M_node) 73 = .ok (.getfield 19, 3) := by decide +kernel
theorem d_M_node_76 : decode (xC k_M_node) 76 = .ok (.iload_n 1, 1) := by decide +kernel
theorem d_M_node_77 : decode (xC k_M_node) 77 = .ok (.iaload, 1) := by decide +kernel
theorem d_M_node_78 : decode (xC k_M_node) 78 = .ok (.iconst 1, 1) := by decide +kernel
theorem d_M_node_79 : decode (xC k_M_node) 79 = .ok (.isub, 1) := by decide +kernel
theorem d_M_node_80 : decode (xC k_M_node) 80 = .ok (.ireturn, 1) := by decide +kernel
theorem d_M_begin_0 : decode (xC k_M_begin) 0 = .ok (.aload_n 0, 1) := by decide +kernel
theorem d_M_begin_1 : decode (xC k_M_begin) 1 = .ok (.iload_n 1, 1) := by decide +kernel
theorem d_M_begin_2 : decode (xC k_M_begin) 2 = .ok (.iconst 2, 1) := by decide +kernel
theorem d_M_begin_3 : decode (xC k_M_begin) 3 = .ok (.iload_n 2, 1) := by decide +kernel
theorem d_M_begin_4 : decode (xC k_M_begin) 4 = .ok (.invokevirtual 127, 3) := by decide +kernel
theorem d_M_begin_7 : decode (xC k_M_begin) 7 = .ok (.istore_n 3, 1) := by decide +kernel
theorem d_M_begin_8 : decode (xC k_M_begin) 8 = .ok (.aload_n 0, 1) := by decide +kernel
theorem d_M_begin_9 : decode (xC k_M_begin) 9 = .ok (.iload_n 1, 1) := by decide +kernel
theorem d_M_begin_10 : decode (xC k_M_begin) 10 = .ok (.iconst 1, 1) := by decide +kernel
theorem d_M_begin_11 : decode (xC k_M_begin) 11 = .ok (.iload_n 3, 1) := by decide +kernel
theorem d_M_begin_12 : decode (xC k_M_begin) 12 = .ok (.invokevirtual 127, 3) := by decide +kernel
theorem d_M_begin_15 : decode (xC k_M_begin) 15 = .ok (.ireturn, 1) := by decide +kernel
theorem d_M_build_0 : decode (xC k_M_build) 0 = .ok (.aload_n 0, 1) := by decide +kernel
theorem d_M_build_1 : decode (xC k_M_build) 1 = .ok (.getfield 19, 3) := by decide +kernel
theorem d_M_build_4 : decode (xC k_M_build) 4 = .ok (.iload_n 1, 1) := by decide +kernel
theorem d_M_build_5 : decode (xC k_M_build) 5 = .ok (.iconst 0, 1) := by decide +kernel
theorem d_M_build_6 : decode (xC k_M_build) 6 = .ok (.iastore, 1) := by decide +kernel
theorem d_M_build_7 : decode (xC k_M_build) 7 = .ok (.aload_n 0, 1) := by decide +kernel
theorem d_M_build_8 : decode (xC k_M_build) 8 = .ok (.getfield 13, 3) := by decide +kernel
theorem d_M_build_11 : decode (xC k_M_build) 11 = .ok (.iload_n 1, 1) := by decide +kernel
theorem d_M_build_12 : decode (xC k_M_build) 12 = .ok (.iconst 1, 1) := by decide +kernel
theorem d_M_build_13 : decode (xC k_M_build) 13 = .ok (.iastore, 1) := by decide +kernel
theorem d_M_build_14 : decode (xC k_M_build) 14 = .ok (.aload_n 0, 1) := by decide +kernel
theorem d_M_build_15 : decode (xC k_M_build) 15 = .ok (.iload_n 1, 1) := by decide +kernel
theorem d_M_build_16 : decode (xC k_M_build) 16 = .ok (.iconst (-1), 1) := by decide +kernel
theorem d_M_build_17 : decode (xC k_M_build) 17 = .ok (.invokevirtual 131, 3) := by decide +kernel
theorem d_M_build_20 : decode (xC k_M_build) 20 = .ok (.istore_n 2, 1) := by decide +kernel
theorem d_M_build_21 : decode (xC k_M_build) 21 = .ok (.aload_n 0, 1) := by decide +kernel
theorem d_M_build_22 : decode (xC k_M_build) 22 = .ok (.getfield 16, 3) := by decide +kernel
theorem d_M_build_25 : decode (xC k_M_build) 25 = .ok (.bipush 6, 2) := by decide +kernel
theorem d_M_build_27 : decode (xC k_M_build) 27 = .ok (.iload_n 1, 1) := by decide +kernel
theorem d_M_build_28 : decode (xC k_M_build) 28 = .ok (.imul, 1) := by decide +kernel
theorem d_M_build_29 : decode (xC k_M_build) 29 = .ok (.iconst 0, 1) := by decide +kernel
theorem d_M_build_30 : decode (xC k_M_build) 30 = .ok (.iastore, 1) := by decide +kernel
theorem d_M_build_31 : decode (xC k_M_build) 31 = .ok (.iconst 0, 1) := by decide +kernel
theorem d_M_build_32 : decode (xC k_M_build) 32 = .ok (.istore_n 3, 1) := by decide +kernel
theorem d_M_build_33 : decode (xC k_M_build) 33 = .ok (.iconst (-1), 1) := by decide +kernel
theorem d_M_build_34 : decode (xC k_M_build) 34 = .ok (.istore 4, 2) := by decide +kernel
theorem d_M_build_36 : decode (xC k_M_build) 36 = .ok (.iconst 0, 1) := by decide +kernel
theorem d_M_build_37 : decode (xC k_M_build) 37 = .ok (.istore 5, 2) := by decide +kernel
theorem d_M_build_39 : decode (xC k_M_build) 39 = .ok (.iload 5, 2) := by decide +kernel
theorem d_M_build_41 : decode (xC k_M_build) 41 = .ok (.aload_n 0, 1) := by decide +kernel
theorem d_M_build_42 : decode (xC k_M_build) 42 = .ok (.getfield 109, 3) := by decide +kernel
theorem d_M_build_45 : decode (xC k_M_build) 45 = .ok (.if_icmp .ge 297, 3) := by decide +kernel
theorem d_M_build_48 : decode (xC k_M_build) 48 = .ok (.aload_n 0, 1) := by decide +kernel
theorem d_M_build_49 : decode (xC k_M_build) 49 = .ok (.getfield 7, 3) := by decide +kernel
theorem d_M_build_52 : decode (xC k_M_build) 52 = .ok (.iload 5, 2) := by decide +kernel
theorem d_M_build_54 : decode (xC k_M_build) 54 = .ok (.iaload, 1) := by decide +kernel
theorem d_M_build_55 : decode (xC k_M_build) 55 = .ok (.istore 6, 2) := by decide +kernel
theorem d_M_build_57 : decode (xC k_M_build) 57 = .ok (.sipush 160, 3) := by decide +kernel
theorem d_M_build_60 : decode (xC k_M_build) 60 = .ok (.iload_n 1, 1) := by decide +kernel
theorem d_M_build_61 : decode (xC k_M_build) 61 = .ok (.imul, 1) := by decide +kernel
theorem d_M_build_62 : decode (xC k_M_build) 62 = .ok (.istore 7, 2) := by decide +kernel
theorem d_M_build_64 : decode (xC k_M_build) 64 = .ok (.iload 6, 2) := by decide +kernel
theorem d_M_build_66 : decode (xC k_M_build) 66 = .ok (.bipush 33, 2) := by decide +kernel
theorem d_M_build_68 : decode (xC k_M_build) 68 = .ok (.if_icmp .ne 9, 3) := by decide +kernel
theorem d_M_build_71 : decode (xC k_M_build) 71 = .ok (.iinc 3 1, 3) := by decide +kernel
theorem d_M_build_74 : decode (xC k_M_build) 74 = .ok (.goto 262, 3) := by decide +kernel
theorem d_M_build_77 : decode (xC k_M_build) 77 = .ok (.iload 6, 2) := by decide +kernel
theorem d_M_build_79 : decode (xC k_M_build) 79 = .ok (.bipush 40, 2) := by decide +kernel
theorem d_M_build_81 : decode (xC k_M_build) 81 = .ok (.if_icmp .ne 34, 3) := by decide +kernel
theorem d_M_build_84 : decode (xC k_M_build) 84 = .ok (.aload_n 0, 1) := by decide +kernel
theorem d_M_build_85 : decode (xC k_M_build) 85 = .ok (.getfield 19, 3) := by decide +kernel
theorem d_M_build_88 : decode (xC k_M_build) 88 = .ok (.iload_n 1, 1) := by decide +kernel
theorem d_M_build_89 : decode (xC k_M_build) 89 = .ok (.iaload, 1) := by decide +kernel
theorem d_M_build_90 : decode (xC k_M_build) 90 = .ok (.istore 8, 2) := by decide +kernel
theorem d_M_build_92 : decode (xC k_M_build) 92 = .ok (.aload_n 0, 1) := by decide +kernel
theorem d_M_build_93 : decode (xC k_M_build) 93 = .ok (.iload_n 1, 1) := by decide +kernel
theorem d_M_build_94 : decode (xC k_M_build) 94 = .ok (.iload_n 2, 1) := by decide +kernel
theorem d_M_build_95 : decode (xC k_M_build) 95 = .ok (.invokevirtual 131, 3) := by decide +kernel
theorem d_M_build_98 : decode (xC k_M_build) 98 = .ok (.istore_n 2, 1) := by decide +kernel
theorem d_M_build_99 : decode (xC k_M_build) 99 = .ok (.aload_n 0, 1) := by decide +kernel
theorem d_M_build_100 : decode (xC k_M_build) 100 = .ok (.getfield 28, 3) := by decide +kernel
theorem d_M_build_103 : decode (xC k_M_build) 103 = .ok (.iload 7, 2) := by decide +kernel
theorem d_M_build_105 : decode (xC k_M_build) 105 = .ok (.iload 8, 2) := by decide +kernel
theorem d_M_build_107 : decode (xC k_M_build) 107 = .ok (.iadd, 1) := by decide +kernel
theorem d_M_build_108 : decode (xC k_M_build) 108 = .ok (.iload_n 3, 1) := by decide +kernel
theorem d_M_build_109 : decode (xC k_M_build) 109 = .ok (.iastore, 1) := by decide +kernel
theorem d_M_build_110 : decode (xC k_M_build) 110 = .ok (.iconst 0, 1) := by decide +kernel
theorem d_M_build_111 : decode (xC k_M_build) 111 = .ok (.istore_n 3, 1) := by decide +kernel
theorem d_M_build_112 : decode (xC k_M_build) 112 = .ok (.goto 224, 3) := by decide +kernel
theorem d_M_build_115 : decode (xC k_M_build) 115 = .ok (.iload 6, 2) := by decide +kernel
theorem d_M_build_117 : decode (xC k_M_build) 117 = .ok (.invokestatic 120, 3) := by decide +kernel
theorem d_M_build_120 : decode (xC k_M_build) 120 = .ok (.ifCond .eq 40, 3) := by decide +kernel
theorem d_M_build_123 : decode (xC k_M_build) 123 = .ok (.aload_n 0, 1) := by decide +kernel
theorem d_M_build_124 : decode (xC k_M_build) 124 = .ok (.iload_n 1, 1) := by decide +kernel
theorem d_M_build_125 : decode (xC k_M_build) 125 = .ok (.iconst 0, 1) := by decide +kernel
theorem d_M_build_126 : decode (xC k_M_build) 126 = .ok (.iload_n 2, 1) := by decide +kernel
theorem d_M_build_127 : decode (xC k_M_build) 127 = .ok (.invokevirtual 127, 3) := by decide +kernel
theorem d_M_build_130 : decode (xC k_M_build) 130 = .ok (.istore 4, 2) := by decide +kernel
theorem d_M_build_132 : decode (xC k_M_build) 132 = .ok (.aload_n 0, 1) := by decide +kernel
theorem d_M_build_133 : decode (xC k_M_build) 133 = .ok (.getfield 31, 3) := by decide +kernel
theorem d_M_build_136 : decode (xC k_M_build) 136 = .ok (.iload 7, 2) := by decide +kernel
theorem d_M_build_138 : decode (xC k_M_build) 138 = .ok (.iload 4, 2) := by decide +kernel
theorem d_M_build_140 : decode (xC k_M_build) 140 = .ok (.iadd, 1) := by decide +kernel
theorem d_M_build_141 : decode (xC k_M_build) 141 = .ok (.iload 6, 2) := by decide +kernel
theorem d_M_build_143 : decode (xC k_M_build) 143 = .ok (.iastore, 1) := by decide +kernel
theorem d_M_build_144 : decode (xC k_M_build) 144 = .ok (.aload_n 0, 1) := by decide +kernel
theorem d_M_build_145 : decode (xC k_M_build) 145 = .ok (.getfield 28, 3) := by decide +kernel
theorem d_M_build_148 : decode (xC k_M_build) 148 = .ok (.iload 7, 2) := by decide +kernel
theorem d_M_build_150 : decode (xC k_M_build) 150 = .ok (.iload 4, 2) := by decide +kernel
theorem d_M_build_152 : decode (xC k_M_build) 152 = .ok (.iadd, 1) := by decide +kernel
theorem d_M_build_153 : decode (xC k_M_build) 153 = .ok (.iload_n 3, 1) := by decide +kernel
theorem d_M_build_154 : decode (xC k_M_build) 154 = .ok (.iastore, 1) := by decide +kernel
theorem d_M_build_155 : decode (xC k_M_build) 155 = .ok (.iconst 0, 1) := by decide +kernel
theorem d_M_build_156 : decode (xC k_M_build) 156 = .ok (.istore_n 3, 1) := by decide +kernel
theorem d_M_build_157 : decode (xC k_M_build) 157 = .ok (.goto 179, 3) := by decide +kernel
theorem d_M_build_160 : decode (xC k_M_build) 160 = .ok (.iload 6, 2) := by decide +kernel
theorem d_M_build_162 : decode (xC k_M_build) 162 = .ok (.bipush 60, 2) := by decide +kernel
theorem d_M_build_164 : decode (xC k_M_build) 164 = .ok (.if_icmp .eq 17, 3) := by decide +kernel
theorem d_M_build_167 : decode (xC k_M_build) 167 = .ok (.iload 6, 2) := by decide +kernel
theorem d_M_build_169 : decode (xC k_M_build) 169 = .ok (.bipush 61, 2) := by decide +kernel
theorem d_M_build_171 : decode (xC k_M_build) 171 = .ok (.if_icmp .eq 10, 3) := by decide +kernel
theorem d_M_build_174 : decode (xC k_M_build) 174 = .ok (.iload 6, 2) := by decide +kernel
theorem d_M_build_176 : decode (xC k_M_build) 176 = .ok (.bipush 62, 2) := by decide +kernel
theorem d_M_build_178 : decode (xC k_M_build) 178 = .ok (.if_icmp .ne 18, 3) := by decide +kernel
theorem d_M_build_181 : decode (xC k_M_build) 181 = .ok (.aload_n 0, 1) := by decide +kernel
theorem d_M_build_182 : decode (xC k_M_build) 182 = .ok (.getfield 34, 3) := by decide +kernel
theorem d_M_build_185 : decode (xC k_M_build) 185 = .ok (.iload 7, 2) := by decide +kernel
theorem d_M_build_187 : decode (xC k_M_build) 187 = .ok (.iload 4, 2) := by decide +kernel
theorem d_M_build_189 : decode (xC k_M_build) 189 = .ok (.iadd, 1) := by decide +kernel
theorem d_M_build_190 : decode (xC k_M_build) 190 = .ok (.iload 6, 2) := by decide +kernel
theorem d_M_build_192 : decode (xC k_M_build) 192 = .ok (.iastore, 1) := by decide +kernel
theorem d_M_build_193 : decode (xC k_M_build) 193 = .ok (.goto 143, 3) := by decide +kernel
theorem d_M_build_196 : decode (xC k_M_build) 196 = .ok (.iload 6, 2) := by decide +kernel
theorem d_M_build_198 : decode (xC k_M_build) 198 = .ok (.invokestatic 124, 3) := by decide +kernel
theorem d_M_build_201 : decode (xC k_M_build) 201 = .ok (.ifCond .eq 35, 3) := by decide +kernel
theorem d_M_build_204 : decode (xC k_M_build) 204 = .ok (.aload_n 0, 1) := by decide +kernel
theorem d_M_build_205 : decode (xC k_M_build) 205 = .ok (.getfield 37, 3) := by decide +kernel
theorem d_M_build_208 : decode (xC k_M_build) 208 = .ok (.iload 7, 2) := by decide +kernel
theorem d_M_build_210 : decode (xC k_M_build) 210 = .ok (.iload 4, 2) := by decide +kernel
theorem d_M_build_212 : decode (xC k_M_build) 212 = .ok (.iadd, 1) := by decide +kernel
theorem d_M_build_213 : decode (xC k_M_build) 213 = .ok (.bipush 10, 2) := by decide +kernel
theorem d_M_build_215 : decode (xC k_M_build) 215 = .ok (.aload_n 0, 1) := by decide +kernel
theorem d_M_build_216 : decode (xC k_M_build) 216 = .ok (.getfield 37, 3) := by decide +kernel
theorem d_M_build_219 : decode (xC k_M_build) 219 = .ok (.iload 7, 2) := by decide +kernel
theorem d_M_build_221 : decode (xC k_M_build) 221 = .ok (.iload 4, 2) := by decide +kernel
theorem d_M_build_223 : decode (xC k_M_build) 223 = .ok (.iadd, 1) := by decide +kernel
theorem d_M_build_224 : decode (xC k_M_build) 224 = .ok (.iaload, 1) := by decide +kernel
theorem d_M_build_225 : decode (xC k_M_build) 225 = .ok (.imul, 1) := by decide +kernel
theorem d_M_build_226 : decode (xC k_M_build) 226 = .ok (.iload 6, 2) := by decide +kernel
theorem d_M_build_228 : decode (xC k_M_build) 228 = .ok (.iadd, 1) := by decide +kernel
theorem d_M_build_229 : decode (xC k_M_build) 229 = .ok (.bipush 48, 2) := by decide +kernel
theorem d_M_build_231 : decode (xC k_M_build) 231 = .ok (.isub, 1) := by decide +kernel
theorem d_M_build_232 : decode (xC k_M_build) 232 = .ok (.iastore, 1) := by decide +kernel
theorem d_M_build_233 : decode (xC k_M_build) 233 = .ok (.goto 103, 3) := by decide +kernel
theorem d_M_build_236 : decode (xC k_M_build) 236 = .ok (.iload 6, 2) := by decide +kernel
theorem d_M_build_238 : decode (xC k_M_build) 238 = .ok (.bipush 124, 2) := by decide +kernel
theorem d_M_build_240 : decode (xC k_M_build) 240 = .ok (.if_icmp .ne 22, 3) := by decide +kernel
theorem d_M_build_243 : decode (xC k_M_build) 243 = .ok (.aload_n 0, 1) := by decide +kernel
theorem d_M_build_244 : decode (xC k_M_build) 244 = .ok (.iload_n 1, 1) := by decide +kernel
theorem d_M_build_245 : decode (xC k_M_build) 245 = .ok (.iconst 1, 1) := by decide +kernel
theorem d_M_build_246 : decode (xC k_M_build) 246 = .ok (.aload_n 0, 1) := by decide +kernel
theorem d_M_build_247 : decode (xC k_M_build) 247 = .ok (.getfield 25, 3) := by decide +kernel
theorem d_M_build_250 : decode (xC k_M_build) 250 = .ok (.iload 7, 2) := by decide +kernel
theorem d_M_build_252 : decode (xC k_M_build) 252 = .ok (.iload_n 2, 1) := by decide +kernel
theorem d_M_build_253 : decode (xC k_M_build) 253 = .ok (.iadd, 1) := by decide +kernel
theorem d_M_build_254 : decode (xC k_M_build) 254 = .ok (.iaload, 1) := by decide +kernel
theorem d_M_build_255 : decode (xC k_M_build) 255 = .ok (.invokevirtual 127, 3) := by decide +kernel
theorem d_M_build_258 : decode (xC k_M_build) 258 = .ok (.istore_n 2, 1) := by decide +kernel
theorem d_M_build_259 : decode (xC k_M_build) 259 = .ok (.goto 77, 3) := by decide +kernel
theorem d_M_build_262 : decode (xC k_M_build) 262 = .ok (.iload 6, 2) := by decide +kernel
theorem d_M_build_264 : decode (xC k_M_build) 264 = .ok (.bipush 41, 2) := by decide +kernel
theorem d_M_build_266 : decode (xC k_M_build) 266 = .ok (.if_icmp .ne 24, 3) := by decide +kernel
theorem d_M_build_269 : decode (xC k_M_build) 269 = .ok (.aload_n 0, 1) := by decide +kernel
theorem d_M_build_270 : decode (xC k_M_build) 270 = .ok (.getfield 25, 3) := by decide +kernel
theorem d_M_build_273 : decode (xC k_M_build) 273 = .ok (.iload 7, 2) := by decide +kernel
theorem d_M_build_275 : decode (xC k_M_build) 275 = .ok (.aload_n 0, 1) := by decide +kernel
theorem d_M_build_276 : decode (xC k_M_build) 276 = .ok (.getfield 25, 3) := by decide +kernel
theorem d_M_build_279 : decode (xC k_M_build) 279 = .ok (.iload 7, 2) := by decide +kernel
theorem d_M_build_281 : decode (xC k_M_build) 281 = .ok (.iload_n 2, 1) := by decide +kernel
theorem d_M_build_282 : decode (xC k_M_build) 282 = .ok (.iadd, 1) := by decide +kernel
theorem d_M_build_283 : decode (xC k_M_build) 283 = .ok (.iaload, 1) := by decide +kernel
theorem d_M_build_284 : decode (xC k_M_build) 284 = .ok (.iadd, 1) := by decide +kernel
theorem d_M_build_285 : decode (xC k_M_build) 285 = .ok (.iaload, 1) := by decide +kernel
theorem d_M_build_286 : decode (xC k_M_build) 286 = .ok (.istore_n 2, 1) := by decide +kernel
theorem d_M_build_287 : decode (xC k_M_build) 287 = .ok (.goto 49, 3) := by decide +kernel
theorem d_M_build_290 : decode (xC k_M_build) 290 = .ok (.iload 6, 2) := by decide +kernel
theorem d_M_build_292 : decode (xC k_M_build) 292 = .ok (.bipush 59, 2) := by decide +kernel
theorem d_M_build_294 : decode (xC k_M_build) 294 = .ok (.if_icmp .ne 42, 3) := by decide +kernel
theorem d_M_build_297 : decode (xC k_M_build) 297 = .ok (.aload_n 0, 1) := by decide +kernel
theorem d_M_build_298 : decode (xC k_M_build) 298 = .ok (.getfield 16, 3) := by decide +kernel
theorem d_M_build_301 : decode (xC k_M_build) 301 = .ok (.bipush 6, 2) := by decide +kernel
theorem d_M_build_303 : decode (xC k_M_build) 303 = .ok (.iload_n 1, 1) := by decide +kernel
theorem d_M_build_304 : decode (xC k_M_build) 304 = .ok (.imul, 1) := by decide +kernel
theorem d_M_build_305 : decode (xC k_M_build) 305 = .ok (.aload_n 0, 1) := by decide +kernel
theorem d_M_build_306 : decode (xC k_M_build) 306 = .ok (.getfield 13, 3) := by decide +kernel
theorem d_M_build_309 : decode (xC k_M_build) 309 = .ok (.iload_n 1, 1) := by decide +kernel
theorem d_M_build_310 : decode (xC k_M_build) 310 = .ok (.iaload, 1) := by decide +kernel
theorem d_M_build_311 : decode (xC k_M_build) 311 = .ok (.iadd, 1) := by decide +kernel
theorem d_M_build_312 : decode (xC k_M_build) 312 = .ok (.aload_n 0, 1) := by decide +kernel
theorem d_M_build_313 : decode (xC k_M_build) 313 = .ok (.getfield 19, 3) := by decide +kernel
theorem d_M_build_316 : decode (xC k_M_build) 316 = .ok (.iload_n 1, 1) := by decide +kernel
theorem d_M_build_317 : decode (xC k_M_build) 317 = .ok (.iaload, 1) := by decide +kernel
theorem d_M_build_318 : decode (xC k_M_build) 318 = .ok (.iastore, 1) := by decide +kernel
theorem d_M_build_319 : decode (xC k_M_build) 319 = .ok (.aload_n 0, 1) := by decide +kernel
theorem d_M_build_320 : decode (xC k_M_build) 320 = .ok (.getfield 13, 3) := by decide +kernel
theorem d_M_build_323 : decode (xC k_M_build) 323 = .ok (.iload_n 1, 1) := by decide +kernel
theorem d_M_build_324 : decode (xC k_M_build) 324 = .ok (.dup2, 1) := by decide +kernel
theorem d_M_build_325 : decode (xC k_M_build) 325 = .ok (.iaload, 1) := by decide +kernel
theorem d_M_build_326 : decode (xC k_M_build) 326 = .ok (.iconst 1, 1) := by decide +kernel
theorem d_M_build_327 : decode (xC k_M_build) 327 = .ok (.iadd, 1) := by decide +kernel
theorem d_M_build_328 : decode (xC k_M_build) 328 = .ok (.iastore, 1) := by decide +kernel
theorem d_M_build_329 : decode (xC k_M_build) 329 = .ok (.aload_n 0, 1) := by decide +kernel
theorem d_M_build_330 : decode (xC k_M_build) 330 = .ok (.iload_n 1, 1) := by decide +kernel
theorem d_M_build_331 : decode (xC k_M_build) 331 = .ok (.iconst (-1), 1) := by decide +kernel
theorem d_M_build_332 : decode (xC k_M_build) 332 = .ok (.invokevirtual 131, 3) := by decide +kernel
theorem d_M_build_335 : decode (xC k_M_build) 335 = .ok (.istore_n 2, 1) := by decide +kernel
theorem d_M_build_336 : decode (xC k_M_build) 336 = .ok (.iinc 5 1, 3) := by decide +kernel
theorem d_M_build_339 : decode (xC k_M_build) 339 = .ok (.goto (-300), 3) := by decide +kernel
theorem d_M_build_342 : decode (xC k_M_build) 342 = .ok (.return_, 1) := by decide +kernel
theorem d_M_read_0 : decode (xC k_M_read) 0 = .ok (.aload_n 0, 1) := by decide +kernel
theorem d_M_read_1 : decode (xC k_M_read) 1 = .ok (.aload_n 0, 1) := by decide +kernel
theorem d_M_read_2 : decode (xC k_M_read) 2 = .ok (.getfield 135, 3) := by decide +kernel
theorem d_M_read_5 : decode (xC k_M_read) 5 = .ok (.bipush 8, 2) := by decide +kernel
theorem d_M_read_7 : decode (xC k_M_read) 7 = .ok (.if_icmp .ge 7, 3) := by decide +kernel
theorem d_M_read_10 : decode (xC k_M_read) 10 = .ok (.iconst 1, 1) := by decide +kernel
theorem d_M_read_11 : decode (xC k_M_read) 11 = .ok (.goto 4, 3) := by decide +kernel
theorem d_M_read_14 : decode (xC k_M_read) 14 = .ok (.iconst 0, 1) := by decide +kernel
theorem d_M_read_15 : decode (xC k_M_read) 15 = .ok (.iconst 1, 1) := by decide +kernel
theorem d_M_read_16 : decode (xC k_M_read) 16 = .ok (.iconst 1, 1) := by decide +kernel
theorem d_M_read_17 : decode (xC k_M_read) 17 = .ok (.invokevirtual 116, 3) := by decide +kernel
theorem d_M_read_20 : decode (xC k_M_read) 20 = .ok (.ifCond .ne 5, 3) := by decide +kernel
theorem d_M_read_23 : decode (xC k_M_read) 23 = .ok (.iconst 0, 1) := by decide +kernel
theorem d_M_read_24 : decode (xC k_M_read) 24 = .ok (.ireturn, 1) := by decide +kernel
theorem d_M_read_25 : decode (xC k_M_read) 25 = .ok (.aload_n 0, 1) := by decide +kernel
theorem d_M_read_26 : decode (xC k_M_read) 26 = .ok (.invokevirtual 138, 3) := by decide +kernel
theorem d_M_read_29 : decode (xC k_M_read) 29 = .ok (.istore_n 1, 1) := by decide +kernel
theorem d_M_read_30 : decode (xC k_M_read) 30 = .ok (.iload_n 1, 1) := by decide +kernel
theorem d_M_read_31 : decode (xC k_M_read) 31 = .ok (.iconst (-1), 1) := by decide +kernel
theorem d_M_read_32 : decode (xC k_M_read) 32 = .ok (.if_icmp .ne 21, 3) := by decide +kernel
theorem d_M_read_35 : decode (xC k_M_read) 35 = .ok (.aload_n 0, 1) := by decide +kernel
theorem d_M_read_36 : decode (xC k_M_read) 36 = .ok (.aload_n 0, 1) := by decide +kernel
theorem d_M_read_37 : decode (xC k_M_read) 37 = .ok (.getfield 135, 3) := by decide +kernel
theorem d_M_read_40 : decode (xC k_M_read) 40 = .ok (.invokevirtual 142, 3) := by decide +kernel
theorem d_M_read_43 : decode (xC k_M_read) 43 = .ok (.aload_n 0, 1) := by decide +kernel
theorem d_M_read_44 : decode (xC k_M_read) 44 = .ok (.dup, 1) := by decide +kernel
theorem d_M_read_45 : decode (xC k_M_read) 45 = .ok (.getfield 135, 3) := by decide +kernel
theorem d_M_read_48 : decode (xC k_M_read) 48 = .ok (.iconst 1, 1) := by decide +kernel
theorem d_M_read_49 : decode (xC k_M_read) 49 = .ok (.iadd, 1) := by decide +kernel
theorem d_M_read_50 : decode (xC k_M_read) 50 = .ok (.putfield 135, 3) := by decide +kernel
theorem d_M_read_53 : decode (xC k_M_read) 53 = .ok (.aload_n 0, 1) := by decide +kernel
theorem d_M_read_54 : decode (xC k_M_read) 54 = .ok (.iconst 0, 1) := by decide +kernel
theorem d_M_read_55 : decode (xC k_M_read) 55 = .ok (.putfield 109, 3) := by decide +kernel
theorem d_M_read_58 : decode (xC k_M_read) 58 = .ok (.iload_n 1, 1) := by decide +kernel
theorem d_M_read_59 : decode (xC k_M_read) 59 = .ok (.iconst (-1), 1) := by decide +kernel
theorem d_M_read_60 : decode (xC k_M_read) 60 = .ok (.if_icmp .ne 12, 3) := by decide +kernel
theorem d_M_read_63 : decode (xC k_M_read) 63 = .ok (.aload_n 0, 1) := by decide +kernel
theorem d_M_read_64 : decode (xC k_M_read) 64 = .ok (.getfield 135, 3) := by decide +kernel
theorem d_M_read_67 : decode (xC k_M_read) 67 = .ok (.iconst 1, 1) := by decide +kernel
theorem d_M_read_68 : decode (xC k_M_read) 68 = .ok (.isub, 1) := by decide +kernel
theorem d_M_read_69 : decode (xC k_M_read) 69 = .ok (.goto 6, 3) := by decide +kernel
theorem d_M_read_72 : decode (xC k_M_read) 72 = .ok (.iconst (-1), 1) := by decide +kernel
theorem d_M_read_73 : decode (xC k_M_read) 73 = .ok (.iload_n 1, 1) := by decide +kernel
theorem d_M_read_74 : decode (xC k_M_read) 74 = .ok (.isub, 1) := by decide +kernel
theorem d_M_read_75 : decode (xC k_M_read) 75 = .ok (.ireturn, 1) := by decide +kernel
theorem d_M_isContract_0 : decode (xC k_M_isContract) 0 = .ok (.iload_n 1, 1) := by decide +kernel
theorem d_M_isContract_1 : decode (xC k_M_isContract) 1 = .ok (.ifCond .lt 15, 3) := by decide +kernel
theorem d_M_isContract_4 : decode (xC k_M_isContract) 4 = .ok (.iload_n 1, 1) := by decide +kernel
theorem d_M_isContract_5 : decode (xC k_M_isContract) 5 = .ok (.aload_n 0, 1) := by decide +kernel
theorem d_M_isContract_6 : decode (xC k_M_isContract) 6 = .ok (.getfield 135, 3) := by decide +kernel
theorem d_M_isContract_9 : decode (xC k_M_isContract) 9 = .ok (.if_icmp .ge 7, 3) := by decide +kernel
theorem d_M_isContract_12 : decode (xC k_M_isContract) 12 = .ok (.iconst 1, 1) := by decide +kernel
theorem d_M_isContract_13 : decode (xC k_M_isContract) 13 = .ok (.goto 4, 3) := by decide +kernel
theorem d_M_isContract_16 : decode (xC k_M_isContract) 16 = .ok (.iconst 0, 1) := by decide +kernel
theorem d_M_isContract_17 : decode (xC k_M_isContract) 17 = .ok (.ireturn, 1) := by decide +kernel
theorem d_M_terms_0 : decode (xC k_M_terms) 0 = .ok (.aload_n 0, 1) := by decide +kernel
theorem d_M_terms_1 : decode (xC k_M_terms) 1 = .ok (.aload_n 0, 1) := by decide +kernel
theorem d_M_terms_2 : decode (xC k_M_terms) 2 = .ok (.iload_n 1, 1) := by decide +kernel
theorem d_M_terms_3 : decode (xC k_M_terms) 3 = .ok (.invokevirtual 146, 3) := by decide +kernel
theorem d_M_terms_6 : decode (xC k_M_terms) 6 = .ok (.iconst 1, 1) := by decide +kernel
theorem d_M_terms_7 : decode (xC k_M_terms) 7 = .ok (.iconst 1, 1) := by decide +kernel
theorem d_M_terms_8 : decode (xC k_M_terms) 8 = .ok (.invokevirtual 116, 3) := by decide +kernel
theorem d_M_terms_11 : decode (xC k_M_terms) 11 = .ok (.ifCond .eq 12, 3) := by decide +kernel
theorem d_M_terms_14 : decode (xC k_M_terms) 14 = .ok (.aload_n 0, 1) := by decide +kernel
theorem d_M_terms_15 : decode (xC k_M_terms) 15 = .ok (.getfield 13, 3) := by decide +kernel
theorem d_M_terms_18 : decode (xC k_M_terms) 18 = .ok (.iload_n 1, 1) := by decide +kernel
theorem d_M_terms_19 : decode (xC k_M_terms) 19 = .ok (.iaload, 1) := by decide +kernel
theorem d_M_terms_20 : decode (xC k_M_terms) 20 = .ok (.goto 4, 3) := by decide +kernel
theorem d_M_terms_23 : decode (xC k_M_terms) 23 = .ok (.iconst 0, 1) := by decide +kernel
theorem d_M_terms_24 : decode (xC k_M_terms) 24 = .ok (.ireturn, 1) := by decide +kernel
theorem d_M_put_0 : decode (xC k_M_put) 0 = .ok (.aload_n 0, 1) := by decide +kernel
theorem d_M_put_1 : decode (xC k_M_put) 1 = .ok (.getfield 46, 3) := by decide +kernel
theorem d_M_put_4 : decode (xC k_M_put) 4 = .ok (.aload_n 0, 1) := by decide +kernel
theorem d_M_put_5 : decode (xC k_M_put) 5 = .ok (.getfield 149, 3) := by decide +kernel
theorem d_M_put_8 : decode (xC k_M_put) 8 = .ok (.iload_n 1, 1) := by decide +kernel
theorem d_M_put_9 : decode (xC k_M_put) 9 = .ok (.iastore, 1) := by decide +kernel
theorem d_M_put_10 : decode (xC k_M_put) 10 = .ok (.aload_n 0, 1) := by decide +kernel
theorem d_M_put_11 : decode (xC k_M_put) 11 = .ok (.dup, 1) := by decide +kernel
theorem d_M_put_12 : decode (xC k_M_put) 12 = .ok (.getfield 149, 3) := by decide +kernel
theorem d_M_put_15 : decode (xC k_M_put) 15 = .ok (.iconst 1, 1) := by decide +kernel
theorem d_M_put_16 : decode (xC k_M_put) 16 = .ok (.iadd, 1) := by decide +kernel
theorem d_M_put_17 : decode (xC k_M_put) 17 = .ok (.putfield 149, 3) := by decide +kernel
theorem d_M_put_20 : decode (xC k_M_put) 20 = .ok (.return_, 1) := by decide +kernel
