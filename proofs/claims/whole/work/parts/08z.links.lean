theorem f_0_10 : xfl 0 10 = some (0, 0) := by decide +kernel
theorem f_0_16 : xfl 0 16 = some (0, 1) := by decide +kernel
theorem f_0_21 : xfl 0 21 = some (0, 2) := by decide +kernel
theorem f_0_27 : xfl 0 27 = some (0, 3) := by decide +kernel
theorem f_0_33 : xfl 0 33 = some (0, 4) := by decide +kernel
theorem f_0_39 : xfl 0 39 = some (0, 5) := by decide +kernel
theorem f_0_43 : xfl 0 43 = some (0, 6) := by decide +kernel
theorem f_0_47 : xfl 0 47 = some (0, 7) := by decide +kernel
theorem f_0_50 : xfl 0 50 = some (0, 8) := by decide +kernel
theorem f_0_54 : xfl 0 54 = some (6, 1) := by decide +kernel
theorem f_0_87 : xfl 0 87 = some (5, 1) := by decide +kernel
theorem f_0_94 : xfl 0 94 = some (1, 2) := by decide +kernel
theorem f_0_95 : xfl 0 95 = some (1, 1) := by decide +kernel
theorem f_0_106 : xfl 0 106 = some (2, 2) := by decide +kernel
theorem f_0_125 : xfl 0 125 = some (2, 3) := by decide +kernel
theorem f_0_128 : xfl 0 128 = some (2, 4) := by decide +kernel
theorem f_0_153 : xfl 0 153 = some (3, 5) := by decide +kernel
theorem f_0_160 : xfl 0 160 = some (3, 4) := by decide +kernel
theorem f_0_167 : xfl 0 167 = some (3, 0) := by decide +kernel
theorem f_0_190 : xfl 0 190 = some (3, 6) := by decide +kernel
theorem f_0_195 : xfl 0 195 = some (3, 1) := by decide +kernel
theorem f_0_199 : xfl 0 199 = some (3, 2) := by decide +kernel
theorem f_0_207 : xfl 0 207 = some (7, 2) := by decide +kernel
theorem f_0_210 : xfl 0 210 = some (7, 0) := by decide +kernel
theorem f_0_213 : xfl 0 213 = some (7, 1) := by decide +kernel
theorem f_0_261 : xfl 0 261 = some (4, 0) := by decide +kernel
theorem f_0_266 : xfl 0 266 = some (4, 3) := by decide +kernel
theorem f_0_280 : xfl 0 280 = some (4, 4) := by decide +kernel
theorem f_0_283 : xfl 0 283 = some (4, 1) := by decide +kernel
theorem f_1_11 : xfl 1 11 = some (1, 0) := by decide +kernel
theorem f_1_20 : xfl 1 20 = some (1, 1) := by decide +kernel
theorem f_1_24 : xfl 1 24 = some (1, 2) := by decide +kernel
theorem f_1_36 : xfl 1 36 = some (4, 0) := by decide +kernel
theorem f_1_39 : xfl 1 39 = some (4, 3) := by decide +kernel
theorem f_1_46 : xfl 1 46 = some (4, 1) := by decide +kernel
theorem f_1_49 : xfl 1 49 = some (4, 2) := by decide +kernel
theorem f_1_55 : xfl 1 55 = some (4, 4) := by decide +kernel
theorem f_2_9 : xfl 2 9 = some (2, 0) := by decide +kernel
theorem f_2_15 : xfl 2 15 = some (2, 1) := by decide +kernel
theorem f_2_18 : xfl 2 18 = some (2, 2) := by decide +kernel
theorem f_2_22 : xfl 2 22 = some (2, 3) := by decide +kernel
theorem f_2_25 : xfl 2 25 = some (2, 4) := by decide +kernel
theorem f_3_9 : xfl 3 9 = some (3, 1) := by decide +kernel
theorem f_3_15 : xfl 3 15 = some (3, 2) := by decide +kernel
theorem f_3_18 : xfl 3 18 = some (3, 3) := by decide +kernel
theorem f_3_22 : xfl 3 22 = some (3, 5) := by decide +kernel
theorem f_3_26 : xfl 3 26 = some (3, 6) := by decide +kernel
theorem f_3_30 : xfl 3 30 = some (3, 0) := by decide +kernel
theorem f_3_34 : xfl 3 34 = some (3, 4) := by decide +kernel
theorem f_3_44 : xfl 3 44 = some (1, 2) := by decide +kernel
theorem f_4_9 : xfl 4 9 = some (4, 4) := by decide +kernel
theorem f_4_15 : xfl 4 15 = some (4, 0) := by decide +kernel
theorem f_4_19 : xfl 4 19 = some (4, 1) := by decide +kernel
theorem f_4_22 : xfl 4 22 = some (4, 2) := by decide +kernel
theorem f_4_25 : xfl 4 25 = some (4, 3) := by decide +kernel
theorem f_5_9 : xfl 5 9 = some (5, 1) := by decide +kernel
theorem f_5_15 : xfl 5 15 = some (5, 0) := by decide +kernel
theorem f_5_30 : xfl 5 30 = some (6, 1) := by decide +kernel
theorem f_5_42 : xfl 5 42 = some (4, 4) := by decide +kernel
theorem f_6_9 : xfl 6 9 = some (6, 0) := by decide +kernel
theorem f_6_15 : xfl 6 15 = some (6, 1) := by decide +kernel
theorem f_7_7 : xfl 7 7 = some (7, 0) := by decide +kernel
theorem f_7_13 : xfl 7 13 = some (7, 1) := by decide +kernel
theorem f_7_16 : xfl 7 16 = some (7, 2) := by decide +kernel
theorem f_8_7 : xfl 8 7 = some (8, 2) := by decide +kernel
theorem f_8_13 : xfl 8 13 = some (8, 4) := by decide +kernel
theorem f_8_16 : xfl 8 16 = some (8, 5) := by decide +kernel
theorem f_8_19 : xfl 8 19 = some (8, 6) := by decide +kernel
theorem f_8_22 : xfl 8 22 = some (8, 7) := by decide +kernel
theorem f_8_25 : xfl 8 25 = some (8, 8) := by decide +kernel
theorem f_8_28 : xfl 8 28 = some (8, 9) := by decide +kernel
theorem f_8_31 : xfl 8 31 = some (8, 10) := by decide +kernel
theorem f_8_34 : xfl 8 34 = some (8, 11) := by decide +kernel
theorem f_8_37 : xfl 8 37 = some (8, 12) := by decide +kernel
theorem f_8_40 : xfl 8 40 = some (8, 13) := by decide +kernel
theorem f_8_43 : xfl 8 43 = some (8, 14) := by decide +kernel
theorem f_8_46 : xfl 8 46 = some (8, 16) := by decide +kernel
theorem f_8_49 : xfl 8 49 = some (8, 18) := by decide +kernel
theorem f_8_52 : xfl 8 52 = some (8, 19) := by decide +kernel
theorem f_8_55 : xfl 8 55 = some (8, 20) := by decide +kernel
theorem f_8_58 : xfl 8 58 = some (8, 21) := by decide +kernel
theorem f_8_61 : xfl 8 61 = some (8, 22) := by decide +kernel
theorem f_8_64 : xfl 8 64 = some (8, 24) := by decide +kernel
theorem f_8_67 : xfl 8 67 = some (8, 25) := by decide +kernel
theorem f_8_70 : xfl 8 70 = some (8, 26) := by decide +kernel
theorem f_8_73 : xfl 8 73 = some (8, 27) := by decide +kernel
theorem f_8_76 : xfl 8 76 = some (8, 28) := by decide +kernel
theorem f_8_80 : xfl 8 80 = some (8, 29) := by decide +kernel
theorem f_8_83 : xfl 8 83 = some (8, 30) := by decide +kernel
theorem f_8_86 : xfl 8 86 = some (8, 31) := by decide +kernel
theorem f_8_89 : xfl 8 89 = some (8, 32) := by decide +kernel
theorem f_8_92 : xfl 8 92 = some (8, 34) := by decide +kernel
theorem f_8_95 : xfl 8 95 = some (8, 35) := by decide +kernel
theorem f_8_98 : xfl 8 98 = some (8, 36) := by decide +kernel
theorem f_8_101 : xfl 8 101 = some (8, 0) := by decide +kernel
theorem f_8_105 : xfl 8 105 = some (8, 23) := by decide +kernel
theorem f_8_109 : xfl 8 109 = some (8, 1) := by decide +kernel
theorem f_8_135 : xfl 8 135 = some (8, 3) := by decide +kernel
theorem f_8_149 : xfl 8 149 = some (8, 17) := by decide +kernel
theorem f_8_158 : xfl 8 158 = some (8, 15) := by decide +kernel
theorem f_8_196 : xfl 8 196 = some (8, 33) := by decide +kernel
theorem n_0_7 : xnw 0 7 = some 6 := by decide +kernel
theorem n_0_25 : xnw 0 25 = some 2 := by decide +kernel
theorem n_0_31 : xnw 0 31 = some 3 := by decide +kernel
theorem n_0_37 : xnw 0 37 = some 7 := by decide +kernel
theorem n_0_75 : xnw 0 75 = some 5 := by decide +kernel
theorem n_1_17 : xnw 1 17 = some 6 := by decide +kernel
theorem n_5_19 : xnw 5 19 = some 1 := by decide +kernel
theorem n_5_43 : xnw 5 43 = some 4 := by decide +kernel
theorem a_0_19 : xac 0 19 = some 2 := by decide +kernel
theorem a_0_25 : xac 0 25 = some 3 := by decide +kernel
theorem a_0_31 : xac 0 31 = some 4 := by decide +kernel
theorem a_0_37 : xac 0 37 = some 5 := by decide +kernel
theorem a_1_9 : xac 1 9 = some 6 := by decide +kernel
theorem l_0_117 : xldc 0 117 = some 999999 := by decide +kernel
theorem l_0_255 : xldc 0 255 = some 2400000 := by decide +kernel
theorem l_0_256 : xldc 0 256 = some 100000 := by decide +kernel
theorem l_8_108 : xldc 8 108 = some 100000 := by decide +kernel
theorem l_8_171 : xldc 8 171 = some 2400000 := by decide +kernel
theorem l_8_172 : xldc 8 172 = some 999999 := by decide +kernel
theorem q_0_1 : xca 0 1 = some (3, k_L_init) := rfl
theorem q_0_9 : xca 0 9 = some (4, k_W_init) := rfl
theorem q_0_53 : xca 0 53 = some (4, k_I_init) := rfl
theorem q_0_69 : xca 0 69 = some (1, k_W_add) := rfl
theorem q_0_77 : xca 0 77 = some (2, k_R_init) := rfl
theorem q_0_80 : xca 0 80 = some (1, k_R_readContract) := rfl
theorem q_0_84 : xca 0 84 = some (1, k_W_clear) := rfl
theorem q_0_90 : xca 0 90 = some (1, k_L_contractOf) := rfl
theorem q_0_98 : xca 0 98 = some (0, k_L_signOrSize) := rfl
theorem q_0_102 : xca 0 102 = some (1, k_L_inputOf) := rfl
theorem q_0_109 : xca 0 109 = some (0, k_L_isHour) := rfl
theorem q_0_113 : xca 0 113 = some (1, k_I_lastHour) := rfl
theorem q_0_120 : xca 0 120 = some (1, k_I_add) := rfl
theorem q_0_131 : xca 0 131 = some (0, k_L_refuseNoThing) := rfl
theorem q_0_136 : xca 0 136 = some (0, k_L_refuseNoDays) := rfl
theorem q_0_139 : xca 0 139 = some (2, k_P_init) := rfl
theorem q_0_142 : xca 0 142 = some (1, k_L_clashesWithLoan) := rfl
theorem q_0_146 : xca 0 146 = some (2, k_O_init) := rfl
theorem q_0_149 : xca 0 149 = some (1, k_L_loanOf) := rfl
theorem q_0_157 : xca 0 157 = some (0, k_L_refuseNoHour) := rfl
theorem q_0_164 : xca 0 164 = some (1, k_P_hasDay) := rfl
theorem q_0_171 : xca 0 171 = some (1, k_C_termAt) := rfl
theorem q_0_175 : xca 0 175 = some (1, k_L_stateOf) := rfl
theorem q_0_179 : xca 0 179 = some (1, k_O_forget) := rfl
theorem q_0_182 : xca 0 182 = some (1, k_O_tell) := rfl
theorem q_0_202 : xca 0 202 = some (0, k_L_isDay) := rfl
theorem q_0_218 : xca 0 218 = some (1, k_L_spanAt) := rfl
theorem q_0_222 : xca 0 222 = some (0, k_L_areClashing) := rfl
theorem q_0_226 : xca 0 226 = some (1, k_L_numberAt) := rfl
theorem q_0_230 : xca 0 230 = some (1, k_P_length) := rfl
theorem q_0_233 : xca 0 233 = some (1, k_O_price) := rfl
theorem q_0_236 : xca 0 236 = some (1, k_W_addNumber) := rfl
theorem q_0_239 : xca 0 239 = some (1, k_L_inputRows) := rfl
theorem q_0_252 : xca 0 252 = some (1, k_W_signAt) := rfl
theorem q_0_270 : xca 0 270 = some (0, k_L_turnedRound) := rfl
theorem q_0_273 : xca 0 273 = some (1, k_L_stateOfGroup) := rfl
theorem q_0_276 : xca 0 276 = some (1, k_L_stateOfName) := rfl
theorem q_0_286 : xca 0 286 = some (1, k_N_compared) := rfl
theorem q_0_289 : xca 0 289 = some (1, k_I_valueAt) := rfl
theorem q_1_3 : xca 1 3 = some (3, k_L_init) := rfl
theorem q_1_19 : xca 1 19 = some (4, k_W_init) := rfl
theorem q_1_28 : xca 1 28 = some (1, k_C_write) := rfl
theorem q_1_32 : xca 1 32 = some (1, k_W_add) := rfl
theorem q_1_43 : xca 1 43 = some (1, k_C_writeGroup) := rfl
theorem q_1_52 : xca 1 52 = some (1, k_W_addNumber) := rfl
theorem q_2_3 : xca 2 3 = some (3, k_L_init) := rfl
theorem q_3_3 : xca 3 3 = some (3, k_L_init) := rfl
theorem q_3_38 : xca 3 38 = some (1, k_P_length) := rfl
theorem q_4_3 : xca 4 3 = some (3, k_L_init) := rfl
theorem q_5_3 : xca 5 3 = some (3, k_L_init) := rfl
theorem q_5_21 : xca 5 21 = some (4, k_C_init) := rfl
theorem q_5_22 : xca 5 22 = some (1, k_R_readGroup) := rfl
theorem q_5_26 : xca 5 26 = some (1, k_C_add) := rfl
theorem q_5_35 : xca 5 35 = some (1, k_R_sign) := rfl
theorem q_5_39 : xca 5 39 = some (1, k_R_readItem) := rfl
theorem q_5_48 : xca 5 48 = some (2, k_N_init) := rfl
theorem q_5_51 : xca 5 51 = some (1, k_R_readBit) := rfl
theorem q_5_54 : xca 5 54 = some (1, k_R_readName) := rfl
theorem q_5_58 : xca 5 58 = some (0, k_R_isName) := rfl
theorem q_5_62 : xca 5 62 = some (0, k_R_isDigit) := rfl
theorem q_5_65 : xca 5 65 = some (1, k_R_readNumber) := rfl
theorem q_5_68 : xca 5 68 = some (2, k_N_init2) := rfl
theorem q_5_71 : xca 5 71 = some (1, k_W_signAt) := rfl
theorem q_6_3 : xca 6 3 = some (3, k_L_init) := rfl
theorem q_7_1 : xca 7 1 = some (3, k_L_init) := rfl
theorem q_8_1 : xca 8 1 = some (3, k_L_init) := rfl
theorem q_8_112 : xca 8 112 = some (0, k_M_within) := rfl
theorem q_8_116 : xca 8 116 = some (1, k_M_goes) := rfl
theorem q_8_120 : xca 8 120 = some (0, k_M_isName) := rfl
theorem q_8_124 : xca 8 124 = some (0, k_M_isDigit) := rfl
theorem q_8_127 : xca 8 127 = some (1, k_M_node) := rfl
theorem q_8_131 : xca 8 131 = some (1, k_M_begin) := rfl
theorem q_8_138 : xca 8 138 = some (1, k_M_fault) := rfl
theorem q_8_142 : xca 8 142 = some (1, k_M_build) := rfl
theorem q_8_146 : xca 8 146 = some (1, k_M_isContract) := rfl
theorem q_8_152 : xca 8 152 = some (1, k_M_put) := rfl
theorem q_8_155 : xca 8 155 = some (1, k_M_children) := rfl
theorem q_8_161 : xca 8 161 = some (1, k_M_unfold) := rfl
theorem q_8_165 : xca 8 165 = some (1, k_M_putNumber) := rfl
theorem q_8_168 : xca 8 168 = some (1, k_M_write) := rfl
theorem q_8_173 : xca 8 173 = some (0, k_M_isThing) := rfl
theorem q_8_176 : xca 8 176 = some (0, k_M_areDays) := rfl
theorem q_8_180 : xca 8 180 = some (1, k_M_isOut) := rfl
theorem q_8_184 : xca 8 184 = some (1, k_M_isLoan) := rfl
theorem q_8_187 : xca 8 187 = some (1, k_M_valueAt) := rfl
theorem q_8_190 : xca 8 190 = some (1, k_M_leaf) := rfl
theorem q_8_193 : xca 8 193 = some (1, k_M_work) := rfl
theorem q_8_199 : xca 8 199 = some (1, k_M_isPair) := rfl
theorem q_8_202 : xca 8 202 = some (1, k_M_allDays) := rfl
theorem q_8_206 : xca 8 206 = some (1, k_M_allFee) := rfl
theorem q_8_209 : xca 8 209 = some (1, k_M_writeLetter) := rfl
