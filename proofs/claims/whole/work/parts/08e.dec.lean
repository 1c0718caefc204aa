theorem d_M_ask_0 : decode (xC k_M_ask) 0 = .ok (.aload_n 0, 1) := by decide +kernel
theorem d_M_ask_1 : decode (xC k_M_ask) 1 = .ok (.aload_n 0, 1) := by decide +kernel
theorem d_M_ask_2 : decode (xC k_M_ask) 2 = .ok (.iload_n 1, 1) := by decide +kernel
theorem d_M_ask_3 : decode (xC k_M_ask) 3 = .ok (.invokevirtual 184, 3) := by decide +kernel
theorem d_M_ask_6 : decode (xC k_M_ask) 6 = .ok (.iload_n 2, 1) := by decide +kernel
theorem d_M_ask_7 : decode (xC k_M_ask) 7 = .ok (.iconst 0, 1) := by decide +kernel
theorem d_M_ask_8 : decode (xC k_M_ask) 8 = .ok (.ldc 171, 2) := by decide +kernel
theorem d_M_ask_10 : decode (xC k_M_ask) 10 = .ok (.invokestatic 112, 3) := by decide +kernel
theorem d_M_ask_13 : decode (xC k_M_ask) 13 = .ok (.iconst 1, 1) := by decide +kernel
theorem d_M_ask_14 : decode (xC k_M_ask) 14 = .ok (.invokevirtual 116, 3) := by decide +kernel
theorem d_M_ask_17 : decode (xC k_M_ask) 17 = .ok (.ifCond .ne 5, 3) := by decide +kernel
theorem d_M_ask_20 : decode (xC k_M_ask) 20 = .ok (.iconst 0, 1) := by decide +kernel
theorem d_M_ask_21 : decode (xC k_M_ask) 21 = .ok (.ireturn, 1) := by decide +kernel
theorem d_M_ask_22 : decode (xC k_M_ask) 22 = .ok (.iload_n 2, 1) := by decide +kernel
theorem d_M_ask_23 : decode (xC k_M_ask) 23 = .ok (.bipush 24, 2) := by decide +kernel
theorem d_M_ask_25 : decode (xC k_M_ask) 25 = .ok (.idiv, 1) := by decide +kernel
theorem d_M_ask_26 : decode (xC k_M_ask) 26 = .ok (.aload_n 0, 1) := by decide +kernel
theorem d_M_ask_27 : decode (xC k_M_ask) 27 = .ok (.getfield 70, 3) := by decide +kernel
theorem d_M_ask_30 : decode (xC k_M_ask) 30 = .ok (.iload_n 1, 1) := by decide +kernel
theorem d_M_ask_31 : decode (xC k_M_ask) 31 = .ok (.iaload, 1) := by decide +kernel
theorem d_M_ask_32 : decode (xC k_M_ask) 32 = .ok (.aload_n 0, 1) := by decide +kernel
theorem d_M_ask_33 : decode (xC k_M_ask) 33 = .ok (.getfield 73, 3) := by decide +kernel
theorem d_M_ask_36 : decode (xC k_M_ask) 36 = .ok (.iload_n 1, 1) := by decide +kernel
theorem d_M_ask_37 : decode (xC k_M_ask) 37 = .ok (.iaload, 1) := by decide +kernel
theorem d_M_ask_38 : decode (xC k_M_ask) 38 = .ok (.invokestatic 112, 3) := by decide +kernel
theorem d_M_ask_41 : decode (xC k_M_ask) 41 = .ok (.ifCond .ne 5, 3) := by decide +kernel
theorem d_M_ask_44 : decode (xC k_M_ask) 44 = .ok (.iconst (-1), 1) := by decide +kernel
theorem d_M_ask_45 : decode (xC k_M_ask) 45 = .ok (.ireturn, 1) := by decide +kernel
theorem d_M_ask_46 : decode (xC k_M_ask) 46 = .ok (.aload_n 0, 1) := by decide +kernel
theorem d_M_ask_47 : decode (xC k_M_ask) 47 = .ok (.iload_n 1, 1) := by decide +kernel
theorem d_M_ask_48 : decode (xC k_M_ask) 48 = .ok (.iload_n 2, 1) := by decide +kernel
theorem d_M_ask_49 : decode (xC k_M_ask) 49 = .ok (.invokevirtual 193, 3) := by decide +kernel
theorem d_M_ask_52 : decode (xC k_M_ask) 52 = .ok (.aload_n 0, 1) := by decide +kernel
theorem d_M_ask_53 : decode (xC k_M_ask) 53 = .ok (.getfield 64, 3) := by decide +kernel
theorem d_M_ask_56 : decode (xC k_M_ask) 56 = .ok (.iload_n 1, 1) := by decide +kernel
theorem d_M_ask_57 : decode (xC k_M_ask) 57 = .ok (.iaload, 1) := by decide +kernel
theorem d_M_ask_58 : decode (xC k_M_ask) 58 = .ok (.istore_n 3, 1) := by decide +kernel
theorem d_M_ask_59 : decode (xC k_M_ask) 59 = .ok (.iconst 0, 1) := by decide +kernel
theorem d_M_ask_60 : decode (xC k_M_ask) 60 = .ok (.istore 4, 2) := by decide +kernel
theorem d_M_ask_62 : decode (xC k_M_ask) 62 = .ok (.iconst 0, 1) := by decide +kernel
theorem d_M_ask_63 : decode (xC k_M_ask) 63 = .ok (.istore 5, 2) := by decide +kernel
theorem d_M_ask_65 : decode (xC k_M_ask) 65 = .ok (.iload 5, 2) := by decide +kernel
theorem d_M_ask_67 : decode (xC k_M_ask) 67 = .ok (.aload_n 0, 1) := by decide +kernel
theorem d_M_ask_68 : decode (xC k_M_ask) 68 = .ok (.getfield 13, 3) := by decide +kernel
theorem d_M_ask_71 : decode (xC k_M_ask) 71 = .ok (.iload_n 3, 1) := by decide +kernel
theorem d_M_ask_72 : decode (xC k_M_ask) 72 = .ok (.iaload, 1) := by decide +kernel
theorem d_M_ask_73 : decode (xC k_M_ask) 73 = .ok (.if_icmp .ge 155, 3) := by decide +kernel
theorem d_M_ask_76 : decode (xC k_M_ask) 76 = .ok (.aload_n 0, 1) := by decide +kernel
theorem d_M_ask_77 : decode (xC k_M_ask) 77 = .ok (.getfield 40, 3) := by decide +kernel
theorem d_M_ask_80 : decode (xC k_M_ask) 80 = .ok (.aload_n 0, 1) := by decide +kernel
theorem d_M_ask_81 : decode (xC k_M_ask) 81 = .ok (.getfield 16, 3) := by decide +kernel
theorem d_M_ask_84 : decode (xC k_M_ask) 84 = .ok (.bipush 6, 2) := by decide +kernel
theorem d_M_ask_86 : decode (xC k_M_ask) 86 = .ok (.iload_n 3, 1) := by decide +kernel
theorem d_M_ask_87 : decode (xC k_M_ask) 87 = .ok (.imul, 1) := by decide +kernel
theorem d_M_ask_88 : decode (xC k_M_ask) 88 = .ok (.iload 5, 2) := by decide +kernel
theorem d_M_ask_90 : decode (xC k_M_ask) 90 = .ok (.iadd, 1) := by decide +kernel
theorem d_M_ask_91 : decode (xC k_M_ask) 91 = .ok (.iaload, 1) := by decide +kernel
theorem d_M_ask_92 : decode (xC k_M_ask) 92 = .ok (.iaload, 1) := by decide +kernel
theorem d_M_ask_93 : decode (xC k_M_ask) 93 = .ok (.istore 6, 2) := by decide +kernel
theorem d_M_ask_95 : decode (xC k_M_ask) 95 = .ok (.iload 6, 2) := by decide +kernel
theorem d_M_ask_97 : decode (xC k_M_ask) 97 = .ok (.ifCond .ne 106, 3) := by decide +kernel
theorem d_M_ask_100 : decode (xC k_M_ask) 100 = .ok (.iload 4, 2) := by decide +kernel
theorem d_M_ask_102 : decode (xC k_M_ask) 102 = .ok (.ifCond .ne 10, 3) := by decide +kernel
theorem d_M_ask_105 : decode (xC k_M_ask) 105 = .ok (.iload 5, 2) := by decide +kernel
theorem d_M_ask_107 : decode (xC k_M_ask) 107 = .ok (.iconst 1, 1) := by decide +kernel
theorem d_M_ask_108 : decode (xC k_M_ask) 108 = .ok (.iadd, 1) := by decide +kernel
theorem d_M_ask_109 : decode (xC k_M_ask) 109 = .ok (.goto 5, 3) := by decide +kernel
theorem d_M_ask_112 : decode (xC k_M_ask) 112 = .ok (.iload 4, 2) := by decide +kernel
theorem d_M_ask_114 : decode (xC k_M_ask) 114 = .ok (.istore 4, 2) := by decide +kernel
theorem d_M_ask_116 : decode (xC k_M_ask) 116 = .ok (.aload_n 0, 1) := by decide +kernel
theorem d_M_ask_117 : decode (xC k_M_ask) 117 = .ok (.getfield 80, 3) := by decide +kernel
theorem d_M_ask_120 : decode (xC k_M_ask) 120 = .ok (.bipush 6, 2) := by decide +kernel
theorem d_M_ask_122 : decode (xC k_M_ask) 122 = .ok (.iload_n 1, 1) := by decide +kernel
theorem d_M_ask_123 : decode (xC k_M_ask) 123 = .ok (.imul, 1) := by decide +kernel
theorem d_M_ask_124 : decode (xC k_M_ask) 124 = .ok (.iload 5, 2) := by decide +kernel
theorem d_M_ask_126 : decode (xC k_M_ask) 126 = .ok (.iadd, 1) := by decide +kernel
theorem d_M_ask_127 : decode (xC k_M_ask) 127 = .ok (.baload, 1) := by decide +kernel
theorem d_M_ask_128 : decode (xC k_M_ask) 128 = .ok (.ifCond .ne 94, 3) := by decide +kernel
theorem d_M_ask_131 : decode (xC k_M_ask) 131 = .ok (.aload_n 0, 1) := by decide +kernel
theorem d_M_ask_132 : decode (xC k_M_ask) 132 = .ok (.getfield 83, 3) := by decide +kernel
theorem d_M_ask_135 : decode (xC k_M_ask) 135 = .ok (.iload_n 1, 1) := by decide +kernel
theorem d_M_ask_136 : decode (xC k_M_ask) 136 = .ok (.iaload, 1) := by decide +kernel
theorem d_M_ask_137 : decode (xC k_M_ask) 137 = .ok (.bipush 100, 2) := by decide +kernel
theorem d_M_ask_139 : decode (xC k_M_ask) 139 = .ok (.if_icmp .ge 83, 3) := by decide +kernel
theorem d_M_ask_142 : decode (xC k_M_ask) 142 = .ok (.aload_n 0, 1) := by decide +kernel
theorem d_M_ask_143 : decode (xC k_M_ask) 143 = .ok (.getfield 86, 3) := by decide +kernel
theorem d_M_ask_146 : decode (xC k_M_ask) 146 = .ok (.bipush 100, 2) := by decide +kernel
theorem d_M_ask_148 : decode (xC k_M_ask) 148 = .ok (.iload_n 1, 1) := by decide +kernel
theorem d_M_ask_149 : decode (xC k_M_ask) 149 = .ok (.imul, 1) := by decide +kernel
theorem d_M_ask_150 : decode (xC k_M_ask) 150 = .ok (.aload_n 0, 1) := by decide +kernel
theorem d_M_ask_151 : decode (xC k_M_ask) 151 = .ok (.getfield 83, 3) := by decide +kernel
theorem d_M_ask_154 : decode (xC k_M_ask) 154 = .ok (.iload_n 1, 1) := by decide +kernel
theorem d_M_ask_155 : decode (xC k_M_ask) 155 = .ok (.iaload, 1) := by decide +kernel
theorem d_M_ask_156 : decode (xC k_M_ask) 156 = .ok (.iadd, 1) := by decide +kernel
theorem d_M_ask_157 : decode (xC k_M_ask) 157 = .ok (.iload_n 2, 1) := by decide +kernel
theorem d_M_ask_158 : decode (xC k_M_ask) 158 = .ok (.iastore, 1) := by decide +kernel
theorem d_M_ask_159 : decode (xC k_M_ask) 159 = .ok (.aload_n 0, 1) := by decide +kernel
theorem d_M_ask_160 : decode (xC k_M_ask) 160 = .ok (.getfield 89, 3) := by decide +kernel
theorem d_M_ask_163 : decode (xC k_M_ask) 163 = .ok (.bipush 100, 2) := by decide +kernel
theorem d_M_ask_165 : decode (xC k_M_ask) 165 = .ok (.iload_n 1, 1) := by decide +kernel
theorem d_M_ask_166 : decode (xC k_M_ask) 166 = .ok (.imul, 1) := by decide +kernel
theorem d_M_ask_167 : decode (xC k_M_ask) 167 = .ok (.aload_n 0, 1) := by decide +kernel
theorem d_M_ask_168 : decode (xC k_M_ask) 168 = .ok (.getfield 83, 3) := by decide +kernel
theorem d_M_ask_171 : decode (xC k_M_ask) 171 = .ok (.iload_n 1, 1) := by decide +kernel
theorem d_M_ask_172 : decode (xC k_M_ask) 172 = .ok (.iaload, 1) := by decide +kernel
theorem d_M_ask_173 : decode (xC k_M_ask) 173 = .ok (.iadd, 1) := by decide +kernel
theorem d_M_ask_174 : decode (xC k_M_ask) 174 = .ok (.iload 5, 2) := by decide +kernel
theorem d_M_ask_176 : decode (xC k_M_ask) 176 = .ok (.iastore, 1) := by decide +kernel
theorem d_M_ask_177 : decode (xC k_M_ask) 177 = .ok (.aload_n 0, 1) := by decide +kernel
theorem d_M_ask_178 : decode (xC k_M_ask) 178 = .ok (.getfield 83, 3) := by decide +kernel
theorem d_M_ask_181 : decode (xC k_M_ask) 181 = .ok (.iload_n 1, 1) := by decide +kernel
theorem d_M_ask_182 : decode (xC k_M_ask) 182 = .ok (.dup2, 1) := by decide +kernel
theorem d_M_ask_183 : decode (xC k_M_ask) 183 = .ok (.iaload, 1) := by decide +kernel
theorem d_M_ask_184 : decode (xC k_M_ask) 184 = .ok (.iconst 1, 1) := by decide +kernel
theorem d_M_ask_185 : decode (xC k_M_ask) 185 = .ok (.iadd, 1) := by decide +kernel
theorem d_M_ask_186 : decode (xC k_M_ask) 186 = .ok (.iastore, 1) := by decide +kernel
theorem d_M_ask_187 : decode (xC k_M_ask) 187 = .ok (.aload_n 0, 1) := by decide +kernel
theorem d_M_ask_188 : decode (xC k_M_ask) 188 = .ok (.getfield 80, 3) := by decide +kernel
theorem d_M_ask_191 : decode (xC k_M_ask) 191 = .ok (.bipush 6, 2) := by decide +kernel
theorem d_M_ask_193 : decode (xC k_M_ask) 193 = .ok (.iload_n 1, 1) := by decide +kernel
theorem d_M_ask_194 : decode (xC k_M_ask) 194 = .ok (.imul, 1) := by decide +kernel
theorem d_M_ask_195 : decode (xC k_M_ask) 195 = .ok (.iload 5, 2) := by decide +kernel
theorem d_M_ask_197 : decode (xC k_M_ask) 197 = .ok (.iadd, 1) := by decide +kernel
theorem d_M_ask_198 : decode (xC k_M_ask) 198 = .ok (.iconst 1, 1) := by decide +kernel
theorem d_M_ask_199 : decode (xC k_M_ask) 199 = .ok (.bastore, 1) := by decide +kernel
theorem d_M_ask_200 : decode (xC k_M_ask) 200 = .ok (.goto 22, 3) := by decide +kernel
theorem d_M_ask_203 : decode (xC k_M_ask) 203 = .ok (.iload 6, 2) := by decide +kernel
theorem d_M_ask_205 : decode (xC k_M_ask) 205 = .ok (.iconst 1, 1) := by decide +kernel
theorem d_M_ask_206 : decode (xC k_M_ask) 206 = .ok (.if_icmp .ne 16, 3) := by decide +kernel
theorem d_M_ask_209 : decode (xC k_M_ask) 209 = .ok (.aload_n 0, 1) := by decide +kernel
theorem d_M_ask_210 : decode (xC k_M_ask) 210 = .ok (.getfield 80, 3) := by decide +kernel
theorem d_M_ask_213 : decode (xC k_M_ask) 213 = .ok (.bipush 6, 2) := by decide +kernel
theorem d_M_ask_215 : decode (xC k_M_ask) 215 = .ok (.iload_n 1, 1) := by decide +kernel
theorem d_M_ask_216 : decode (xC k_M_ask) 216 = .ok (.imul, 1) := by decide +kernel
theorem d_M_ask_217 : decode (xC k_M_ask) 217 = .ok (.iload 5, 2) := by decide +kernel
theorem d_M_ask_219 : decode (xC k_M_ask) 219 = .ok (.iadd, 1) := by decide +kernel
theorem d_M_ask_220 : decode (xC k_M_ask) 220 = .ok (.iconst 0, 1) := by decide +kernel
theorem d_M_ask_221 : decode (xC k_M_ask) 221 = .ok (.bastore, 1) := by decide +kernel
theorem d_M_ask_222 : decode (xC k_M_ask) 222 = .ok (.iinc 5 1, 3) := by decide +kernel
theorem d_M_ask_225 : decode (xC k_M_ask) 225 = .ok (.goto (-160), 3) := by decide +kernel
theorem d_M_ask_228 : decode (xC k_M_ask) 228 = .ok (.iload 4, 2) := by decide +kernel
theorem d_M_ask_230 : decode (xC k_M_ask) 230 = .ok (.ireturn, 1) := by decide +kernel
theorem d_M_open_0 : decode (xC k_M_open) 0 = .ok (.aload_n 0, 1) := by decide +kernel
theorem d_M_open_1 : decode (xC k_M_open) 1 = .ok (.aload_n 0, 1) := by decide +kernel
theorem d_M_open_2 : decode (xC k_M_open) 2 = .ok (.iload_n 1, 1) := by decide +kernel
theorem d_M_open_3 : decode (xC k_M_open) 3 = .ok (.invokevirtual 184, 3) := by decide +kernel
theorem d_M_open_6 : decode (xC k_M_open) 6 = .ok (.ifCond .eq 11, 3) := by decide +kernel
theorem d_M_open_9 : decode (xC k_M_open) 9 = .ok (.iload_n 3, 1) := by decide +kernel
theorem d_M_open_10 : decode (xC k_M_open) 10 = .ok (.ifCond .lt 7, 3) := by decide +kernel
theorem d_M_open_13 : decode (xC k_M_open) 13 = .ok (.iconst 1, 1) := by decide +kernel
theorem d_M_open_14 : decode (xC k_M_open) 14 = .ok (.goto 4, 3) := by decide +kernel
theorem d_M_open_17 : decode (xC k_M_open) 17 = .ok (.iconst 0, 1) := by decide +kernel
theorem d_M_open_18 : decode (xC k_M_open) 18 = .ok (.iload_n 2, 1) := by decide +kernel
theorem d_M_open_19 : decode (xC k_M_open) 19 = .ok (.iconst 0, 1) := by decide +kernel
theorem d_M_open_20 : decode (xC k_M_open) 20 = .ok (.ldc 171, 2) := by decide +kernel
theorem d_M_open_22 : decode (xC k_M_open) 22 = .ok (.invokestatic 112, 3) := by decide +kernel
theorem d_M_open_25 : decode (xC k_M_open) 25 = .ok (.iconst 1, 1) := by decide +kernel
theorem d_M_open_26 : decode (xC k_M_open) 26 = .ok (.invokevirtual 116, 3) := by decide +kernel
theorem d_M_open_29 : decode (xC k_M_open) 29 = .ok (.ifCond .ne 5, 3) := by decide +kernel
theorem d_M_open_32 : decode (xC k_M_open) 32 = .ok (.iconst 0, 1) := by decide +kernel
theorem d_M_open_33 : decode (xC k_M_open) 33 = .ok (.ireturn, 1) := by decide +kernel
theorem d_M_open_34 : decode (xC k_M_open) 34 = .ok (.aload_n 0, 1) := by decide +kernel
theorem d_M_open_35 : decode (xC k_M_open) 35 = .ok (.iload_n 1, 1) := by decide +kernel
theorem d_M_open_36 : decode (xC k_M_open) 36 = .ok (.iload_n 2, 1) := by decide +kernel
theorem d_M_open_37 : decode (xC k_M_open) 37 = .ok (.invokevirtual 193, 3) := by decide +kernel
theorem d_M_open_40 : decode (xC k_M_open) 40 = .ok (.aload_n 0, 1) := by decide +kernel
theorem d_M_open_41 : decode (xC k_M_open) 41 = .ok (.getfield 64, 3) := by decide +kernel
theorem d_M_open_44 : decode (xC k_M_open) 44 = .ok (.iload_n 1, 1) := by decide +kernel
theorem d_M_open_45 : decode (xC k_M_open) 45 = .ok (.iaload, 1) := by decide +kernel
theorem d_M_open_46 : decode (xC k_M_open) 46 = .ok (.istore 4, 2) := by decide +kernel
theorem d_M_open_48 : decode (xC k_M_open) 48 = .ok (.iconst 0, 1) := by decide +kernel
theorem d_M_open_49 : decode (xC k_M_open) 49 = .ok (.istore 5, 2) := by decide +kernel
theorem d_M_open_51 : decode (xC k_M_open) 51 = .ok (.iconst 0, 1) := by decide +kernel
theorem d_M_open_52 : decode (xC k_M_open) 52 = .ok (.istore 6, 2) := by decide +kernel
theorem d_M_open_54 : decode (xC k_M_open) 54 = .ok (.iload 6, 2) := by decide +kernel
theorem d_M_open_56 : decode (xC k_M_open) 56 = .ok (.aload_n 0, 1) := by decide +kernel
theorem d_M_open_57 : decode (xC k_M_open) 57 = .ok (.getfield 13, 3) := by decide +kernel
theorem d_M_open_60 : decode (xC k_M_open) 60 = .ok (.iload 4, 2) := by decide +kernel
theorem d_M_open_62 : decode (xC k_M_open) 62 = .ok (.iaload, 1) := by decide +kernel
theorem d_M_open_63 : decode (xC k_M_open) 63 = .ok (.if_icmp .ge 43, 3) := by decide +kernel
theorem d_M_open_66 : decode (xC k_M_open) 66 = .ok (.aload_n 0, 1) := by decide +kernel
theorem d_M_open_67 : decode (xC k_M_open) 67 = .ok (.getfield 40, 3) := by decide +kernel
theorem d_M_open_70 : decode (xC k_M_open) 70 = .ok (.aload_n 0, 1) := by decide +kernel
theorem d_M_open_71 : decode (xC k_M_open) 71 = .ok (.getfield 16, 3) := by decide +kernel
theorem d_M_open_74 : decode (xC k_M_open) 74 = .ok (.bipush 6, 2) := by decide +kernel
theorem d_M_open_76 : decode (xC k_M_open) 76 = .ok (.iload 4, 2) := by decide +kernel
theorem d_M_open_78 : decode (xC k_M_open) 78 = .ok (.imul, 1) := by decide +kernel
theorem d_M_open_79 : decode (xC k_M_open) 79 = .ok (.iload 6, 2) := by decide +kernel
theorem d_M_open_81 : decode (xC k_M_open) 81 = .ok (.iadd, 1) := by decide +kernel
theorem d_M_open_82 : decode (xC k_M_open) 82 = .ok (.iaload, 1) := by decide +kernel
theorem d_M_open_83 : decode (xC k_M_open) 83 = .ok (.iaload, 1) := by decide +kernel
theorem d_M_open_84 : decode (xC k_M_open) 84 = .ok (.iconst 2, 1) := by decide +kernel
theorem d_M_open_85 : decode (xC k_M_open) 85 = .ok (.if_icmp .ne 15, 3) := by decide +kernel
theorem d_M_open_88 : decode (xC k_M_open) 88 = .ok (.iload 5, 2) := by decide +kernel
theorem d_M_open_90 : decode (xC k_M_open) 90 = .ok (.iload_n 3, 1) := by decide +kernel
theorem d_M_open_91 : decode (xC k_M_open) 91 = .ok (.if_icmp .ne 6, 3) := by decide +kernel
theorem d_M_open_94 : decode (xC k_M_open) 94 = .ok (.iload 6, 2) := by decide +kernel
theorem d_M_open_96 : decode (xC k_M_open) 96 = .ok (.ireturn, 1) := by decide +kernel
theorem d_M_open_97 : decode (xC k_M_open) 97 = .ok (.iinc 5 1, 3) := by decide +kernel
theorem d_M_open_100 : decode (xC k_M_open) 100 = .ok (.iinc 6 1, 3) := by decide +kernel
theorem d_M_open_103 : decode (xC k_M_open) 103 = .ok (.goto (-49), 3) := by decide +kernel
theorem d_M_open_106 : decode (xC k_M_open) 106 = .ok (.iconst (-1), 1) := by decide +kernel
theorem d_M_open_107 : decode (xC k_M_open) 107 = .ok (.ireturn, 1) := by decide +kernel
theorem d_M_told_0 : decode (xC k_M_told) 0 = .ok (.aload_n 0, 1) := by decide +kernel
theorem d_M_told_1 : decode (xC k_M_told) 1 = .ok (.iload_n 1, 1) := by decide +kernel
theorem d_M_told_2 : decode (xC k_M_told) 2 = .ok (.invokevirtual 184, 3) := by decide +kernel
theorem d_M_told_5 : decode (xC k_M_told) 5 = .ok (.ifCond .eq 21, 3) := by decide +kernel
theorem d_M_told_8 : decode (xC k_M_told) 8 = .ok (.iload_n 3, 1) := by decide +kernel
theorem d_M_told_9 : decode (xC k_M_told) 9 = .ok (.ifCond .eq 8, 3) := by decide +kernel
theorem d_M_told_12 : decode (xC k_M_told) 12 = .ok (.iload_n 3, 1) := by decide +kernel
theorem d_M_told_13 : decode (xC k_M_told) 13 = .ok (.iconst 1, 1) := by decide +kernel
theorem d_M_told_14 : decode (xC k_M_told) 14 = .ok (.if_icmp .ne 12, 3) := by decide +kernel
theorem d_M_told_17 : decode (xC k_M_told) 17 = .ok (.iload_n 2, 1) := by decide +kernel
theorem d_M_told_18 : decode (xC k_M_told) 18 = .ok (.iconst (-1), 1) := by decide +kernel
theorem d_M_told_19 : decode (xC k_M_told) 19 = .ok (.if_icmp .lt 7, 3) := by decide +kernel
theorem d_M_told_22 : decode (xC k_M_told) 22 = .ok (.iconst 1, 1) := by decide +kernel
theorem d_M_told_23 : decode (xC k_M_told) 23 = .ok (.goto 4, 3) := by decide +kernel
theorem d_M_told_26 : decode (xC k_M_told) 26 = .ok (.iconst 0, 1) := by decide +kernel
theorem d_M_told_27 : decode (xC k_M_told) 27 = .ok (.istore 4, 2) := by decide +kernel
theorem d_M_told_29 : decode (xC k_M_told) 29 = .ok (.aload_n 0, 1) := by decide +kernel
theorem d_M_told_30 : decode (xC k_M_told) 30 = .ok (.iload 4, 2) := by decide +kernel
theorem d_M_told_32 : decode (xC k_M_told) 32 = .ok (.ifCond .eq 17, 3) := by decide +kernel
theorem d_M_told_35 : decode (xC k_M_told) 35 = .ok (.iload_n 2, 1) := by decide +kernel
theorem d_M_told_36 : decode (xC k_M_told) 36 = .ok (.aload_n 0, 1) := by decide +kernel
theorem d_M_told_37 : decode (xC k_M_told) 37 = .ok (.getfield 83, 3) := by decide +kernel
theorem d_M_told_40 : decode (xC k_M_told) 40 = .ok (.iload_n 1, 1) := by decide +kernel
theorem d_M_told_41 : decode (xC k_M_told) 41 = .ok (.iaload, 1) := by decide +kernel
theorem d_M_told_42 : decode (xC k_M_told) 42 = .ok (.if_icmp .ge 7, 3) := by decide +kernel
theorem d_M_told_45 : decode (xC k_M_told) 45 = .ok (.iconst 1, 1) := by decide +kernel
theorem d_M_told_46 : decode (xC k_M_told) 46 = .ok (.goto 4, 3) := by decide +kernel
theorem d_M_told_49 : decode (xC k_M_told) 49 = .ok (.iconst 0, 1) := by decide +kernel
theorem d_M_told_50 : decode (xC k_M_told) 50 = .ok (.iconst 1, 1) := by decide +kernel
theorem d_M_told_51 : decode (xC k_M_told) 51 = .ok (.iconst 1, 1) := by decide +kernel
theorem d_M_told_52 : decode (xC k_M_told) 52 = .ok (.invokevirtual 116, 3) := by decide +kernel
theorem d_M_told_55 : decode (xC k_M_told) 55 = .ok (.ifCond .ne 5, 3) := by decide +kernel
theorem d_M_told_58 : decode (xC k_M_told) 58 = .ok (.iconst 0, 1) := by decide +kernel
theorem d_M_told_59 : decode (xC k_M_told) 59 = .ok (.ireturn, 1) := by decide +kernel
theorem d_M_told_60 : decode (xC k_M_told) 60 = .ok (.iload_n 2, 1) := by decide +kernel
theorem d_M_told_61 : decode (xC k_M_told) 61 = .ok (.iconst (-1), 1) := by decide +kernel
theorem d_M_told_62 : decode (xC k_M_told) 62 = .ok (.if_icmp .ne 12, 3) := by decide +kernel
theorem d_M_told_65 : decode (xC k_M_told) 65 = .ok (.aload_n 0, 1) := by decide +kernel
theorem d_M_told_66 : decode (xC k_M_told) 66 = .ok (.getfield 83, 3) := by decide +kernel
theorem d_M_told_69 : decode (xC k_M_told) 69 = .ok (.iload_n 1, 1) := by decide +kernel
theorem d_M_told_70 : decode (xC k_M_told) 70 = .ok (.iaload, 1) := by decide +kernel
theorem d_M_told_71 : decode (xC k_M_told) 71 = .ok (.goto 32, 3) := by decide +kernel
theorem d_M_told_74 : decode (xC k_M_told) 74 = .ok (.iload_n 3, 1) := by decide +kernel
theorem d_M_told_75 : decode (xC k_M_told) 75 = .ok (.ifCond .ne 17, 3) := by decide +kernel
theorem d_M_told_78 : decode (xC k_M_told) 78 = .ok (.aload_n 0, 1) := by decide +kernel
theorem d_M_told_79 : decode (xC k_M_told) 79 = .ok (.getfield 86, 3) := by decide +kernel
theorem d_M_told_82 : decode (xC k_M_told) 82 = .ok (.bipush 100, 2) := by decide +kernel
theorem d_M_told_84 : decode (xC k_M_told) 84 = .ok (.iload_n 1, 1) := by decide +kernel
theorem d_M_told_85 : decode (xC k_M_told) 85 = .ok (.imul, 1) := by decide +kernel
theorem d_M_told_86 : decode (xC k_M_told) 86 = .ok (.iload_n 2, 1) := by decide +kernel
theorem d_M_told_87 : decode (xC k_M_told) 87 = .ok (.iadd, 1) := by decide +kernel
theorem d_M_told_88 : decode (xC k_M_told) 88 = .ok (.iaload, 1) := by decide +kernel
theorem d_M_told_89 : decode (xC k_M_told) 89 = .ok (.goto 14, 3) := by decide +kernel
theorem d_M_told_92 : decode (xC k_M_told) 92 = .ok (.aload_n 0, 1) := by decide +kernel
theorem d_M_told_93 : decode (xC k_M_told) 93 = .ok (.getfield 89, 3) := by decide +kernel
theorem d_M_told_96 : decode (xC k_M_told) 96 = .ok (.bipush 100, 2) := by decide +kernel
theorem d_M_told_98 : decode (xC k_M_told) 98 = .ok (.iload_n 1, 1) := by decide +kernel
theorem d_M_told_99 : decode (xC k_M_told) 99 = .ok (.imul, 1) := by decide +kernel
theorem d_M_told_100 : decode (xC k_M_told) 100 = .ok (.iload_n 2, 1) := by decide +kernel
theorem d_M_told_101 : decode (xC k_M_told) 101 = .ok (.iadd, 1) := by decide +kernel
theorem d_M_told_102 : decode (xC k_M_told) 102 = .ok (.iaload, 1) := by decide +kernel
theorem d_M_told_103 : decode (xC k_M_told) 103 = .ok (.ireturn, 1) := by decide +kernel
theorem d_M_extend_0 : decode (xC k_M_extend) 0 = .ok (.aload_n 0, 1) := by decide +kernel
theorem d_M_extend_1 : decode (xC k_M_extend) 1 = .ok (.aload_n 0, 1) := by decide +kernel
theorem d_M_extend_2 : decode (xC k_M_extend) 2 = .ok (.iload_n 1, 1) := by decide +kernel
theorem d_M_extend_3 : decode (xC k_M_extend) 3 = .ok (.invokevirtual 184, 3) := by decide +kernel
theorem d_M_extend_6 : decode (xC k_M_extend) 6 = .ok (.iload_n 2, 1) := by decide +kernel
theorem d_M_extend_7 : decode (xC k_M_extend) 7 = .ok (.iconst 0, 1) := by decide +kernel
theorem d_M_extend_8 : decode (xC k_M_extend) 8 = .ok (.ldc 108, 2) := by decide +kernel
theorem d_M_extend_10 : decode (xC k_M_extend) 10 = .ok (.invokestatic 112, 3) := by decide +kernel
theorem d_M_extend_13 : decode (xC k_M_extend) 13 = .ok (.ifCond .eq 17, 3) := by decide +kernel
theorem d_M_extend_16 : decode (xC k_M_extend) 16 = .ok (.iload_n 3, 1) := by decide +kernel
theorem d_M_extend_17 : decode (xC k_M_extend) 17 = .ok (.iconst 0, 1) := by decide +kernel
theorem d_M_extend_18 : decode (xC k_M_extend) 18 = .ok (.ldc 108, 2) := by decide +kernel
theorem d_M_extend_20 : decode (xC k_M_extend) 20 = .ok (.invokestatic 112, 3) := by decide +kernel
theorem d_M_extend_23 : decode (xC k_M_extend) 23 = .ok (.ifCond .eq 7, 3) := by decide +kernel
theorem d_M_extend_26 : decode (xC k_M_extend) 26 = .ok (.iconst 1, 1) := by decide +kernel
theorem d_M_extend_27 : decode (xC k_M_extend) 27 = .ok (.goto 4, 3) := by decide +kernel
theorem d_M_extend_30 : decode (xC k_M_extend) 30 = .ok (.iconst 0, 1) := by decide +kernel
theorem d_M_extend_31 : decode (xC k_M_extend) 31 = .ok (.iconst 1, 1) := by decide +kernel
theorem d_M_extend_32 : decode (xC k_M_extend) 32 = .ok (.invokevirtual 116, 3) := by decide +kernel
theorem d_M_extend_35 : decode (xC k_M_extend) 35 = .ok (.ifCond .ne 5, 3) := by decide +kernel
theorem d_M_extend_38 : decode (xC k_M_extend) 38 = .ok (.iconst 0, 1) := by decide +kernel
theorem d_M_extend_39 : decode (xC k_M_extend) 39 = .ok (.ireturn, 1) := by decide +kernel
theorem d_M_extend_40 : decode (xC k_M_extend) 40 = .ok (.iload_n 3, 1) := by decide +kernel
theorem d_M_extend_41 : decode (xC k_M_extend) 41 = .ok (.aload_n 0, 1) := by decide +kernel
theorem d_M_extend_42 : decode (xC k_M_extend) 42 = .ok (.getfield 73, 3) := by decide +kernel
theorem d_M_extend_45 : decode (xC k_M_extend) 45 = .ok (.iload_n 1, 1) := by decide +kernel
theorem d_M_extend_46 : decode (xC k_M_extend) 46 = .ok (.iaload, 1) := by decide +kernel
theorem d_M_extend_47 : decode (xC k_M_extend) 47 = .ok (.if_icmp .le 5, 3) := by decide +kernel
theorem d_M_extend_50 : decode (xC k_M_extend) 50 = .ok (.iconst 1, 1) := by decide +kernel
theorem d_M_extend_51 : decode (xC k_M_extend) 51 = .ok (.ireturn, 1) := by decide +kernel
theorem d_M_extend_52 : decode (xC k_M_extend) 52 = .ok (.iload_n 2, 1) := by decide +kernel
theorem d_M_extend_53 : decode (xC k_M_extend) 53 = .ok (.aload_n 0, 1) := by decide +kernel
theorem d_M_extend_54 : decode (xC k_M_extend) 54 = .ok (.getfield 73, 3) := by decide +kernel
theorem d_M_extend_57 : decode (xC k_M_extend) 57 = .ok (.iload_n 1, 1) := by decide +kernel
theorem d_M_extend_58 : decode (xC k_M_extend) 58 = .ok (.iaload, 1) := by decide +kernel
theorem d_M_extend_59 : decode (xC k_M_extend) 59 = .ok (.if_icmp .gt 5, 3) := by decide +kernel
theorem d_M_extend_62 : decode (xC k_M_extend) 62 = .ok (.iconst 2, 1) := by decide +kernel
theorem d_M_extend_63 : decode (xC k_M_extend) 63 = .ok (.ireturn, 1) := by decide +kernel
theorem d_M_extend_64 : decode (xC k_M_extend) 64 = .ok (.aload_n 0, 1) := by decide +kernel
theorem d_M_extend_65 : decode (xC k_M_extend) 65 = .ok (.aload_n 0, 1) := by decide +kernel
theorem d_M_extend_66 : decode (xC k_M_extend) 66 = .ok (.getfield 67, 3) := by decide +kernel
theorem d_M_extend_69 : decode (xC k_M_extend) 69 = .ok (.iload_n 1, 1) := by decide +kernel
theorem d_M_extend_70 : decode (xC k_M_extend) 70 = .ok (.iaload, 1) := by decide +kernel
theorem d_M_extend_71 : decode (xC k_M_extend) 71 = .ok (.aload_n 0, 1) := by decide +kernel
theorem d_M_extend_72 : decode (xC k_M_extend) 72 = .ok (.getfield 70, 3) := by decide +kernel
theorem d_M_extend_75 : decode (xC k_M_extend) 75 = .ok (.iload_n 1, 1) := by decide +kernel
theorem d_M_extend_76 : decode (xC k_M_extend) 76 = .ok (.iaload, 1) := by decide +kernel
theorem d_M_extend_77 : decode (xC k_M_extend) 77 = .ok (.iload_n 2, 1) := by decide +kernel
theorem d_M_extend_78 : decode (xC k_M_extend) 78 = .ok (.iload_n 1, 1) := by decide +kernel
theorem d_M_extend_79 : decode (xC k_M_extend) 79 = .ok (.invokevirtual 180, 3) := by decide +kernel
theorem d_M_extend_82 : decode (xC k_M_extend) 82 = .ok (.ifCond .eq 5, 3) := by decide +kernel
theorem d_M_extend_85 : decode (xC k_M_extend) 85 = .ok (.iconst 3, 1) := by decide +kernel
theorem d_M_extend_86 : decode (xC k_M_extend) 86 = .ok (.ireturn, 1) := by decide +kernel
theorem d_M_extend_87 : decode (xC k_M_extend) 87 = .ok (.aload_n 0, 1) := by decide +kernel
theorem d_M_extend_88 : decode (xC k_M_extend) 88 = .ok (.getfield 73, 3) := by decide +kernel
theorem d_M_extend_91 : decode (xC k_M_extend) 91 = .ok (.iload_n 1, 1) := by decide +kernel
theorem d_M_extend_92 : decode (xC k_M_extend) 92 = .ok (.iload_n 2, 1) := by decide +kernel
theorem d_M_extend_93 : decode (xC k_M_extend) 93 = .ok (.iastore, 1) := by decide +kernel
theorem d_M_extend_94 : decode (xC k_M_extend) 94 = .ok (.iconst 0, 1) := by decide +kernel
theorem d_M_extend_95 : decode (xC k_M_extend) 95 = .ok (.ireturn, 1) := by decide +kernel
theorem d_M_request_0 : decode (xC k_M_request) 0 = .ok (.aload_n 0, 1) := by decide +kernel
theorem d_M_request_1 : decode (xC k_M_request) 1 = .ok (.iload_n 1, 1) := by decide +kernel
theorem d_M_request_2 : decode (xC k_M_request) 2 = .ok (.invokestatic 173, 3) := by decide +kernel
theorem d_M_request_5 : decode (xC k_M_request) 5 = .ok (.aload_n 0, 1) := by decide +kernel
theorem d_M_request_6 : decode (xC k_M_request) 6 = .ok (.getfield 196, 3) := by decide +kernel
theorem d_M_request_9 : decode (xC k_M_request) 9 = .ok (.bipush 30, 2) := by decide +kernel
theorem d_M_request_11 : decode (xC k_M_request) 11 = .ok (.if_icmp .ge 7, 3) := by decide +kernel
theorem d_M_request_14 : decode (xC k_M_request) 14 = .ok (.iconst 1, 1) := by decide +kernel
theorem d_M_request_15 : decode (xC k_M_request) 15 = .ok (.goto 4, 3) := by decide +kernel
theorem d_M_request_18 : decode (xC k_M_request) 18 = .ok (.iconst 0, 1) := by decide +kernel
theorem d_M_request_19 : decode (xC k_M_request) 19 = .ok (.iload_n 2, 1) := by decide +kernel
theorem d_M_request_20 : decode (xC k_M_request) 20 = .ok (.iload_n 3, 1) := by decide +kernel
theorem d_M_request_21 : decode (xC k_M_request) 21 = .ok (.invokestatic 176, 3) := by decide +kernel
theorem d_M_request_24 : decode (xC k_M_request) 24 = .ok (.invokevirtual 116, 3) := by decide +kernel
theorem d_M_request_27 : decode (xC k_M_request) 27 = .ok (.ifCond .ne 5, 3) := by decide +kernel
theorem d_M_request_30 : decode (xC k_M_request) 30 = .ok (.iconst 0, 1) := by decide +kernel
theorem d_M_request_31 : decode (xC k_M_request) 31 = .ok (.ireturn, 1) := by decide +kernel
theorem d_M_request_32 : decode (xC k_M_request) 32 = .ok (.aload_n 0, 1) := by decide +kernel
theorem d_M_request_33 : decode (xC k_M_request) 33 = .ok (.getfield 92, 3) := by decide +kernel
theorem d_M_request_36 : decode (xC k_M_request) 36 = .ok (.aload_n 0, 1) := by decide +kernel
theorem d_M_request_37 : decode (xC k_M_request) 37 = .ok (.getfield 196, 3) := by decide +kernel
theorem d_M_request_40 : decode (xC k_M_request) 40 = .ok (.iload_n 1, 1) := by decide +kernel
theorem d_M_request_41 : decode (xC k_M_request) 41 = .ok (.iastore, 1) := by decide +kernel
theorem d_M_request_42 : decode (xC k_M_request) 42 = .ok (.aload_n 0, 1) := by decide +kernel
theorem d_M_request_43 : decode (xC k_M_request) 43 = .ok (.getfield 95, 3) := by decide +kernel
theorem d_M_request_46 : decode (xC k_M_request) 46 = .ok (.aload_n 0, 1) := by decide +kernel
theorem d_M_request_47 : decode (xC k_M_request) 47 = .ok (.getfield 196, 3) := by decide +kernel
theorem d_M_request_50 : decode (xC k_M_request) 50 = .ok (.iload_n 2, 1) := by decide +kernel
theorem d_M_request_51 : decode (xC k_M_request) 51 = .ok (.iastore, 1) := by decide +kernel
theorem d_M_request_52 : decode (xC k_M_request) 52 = .ok (.aload_n 0, 1) := by decide +kernel
theorem d_M_request_53 : decode (xC k_M_request) 53 = .ok (.getfield 98, 3) := by decide +kernel
theorem d_M_request_56 : decode (xC k_M_request) 56 = .ok (.aload_n 0, 1) := by decide +kernel
theorem d_M_request_57 : decode (xC k_M_request) 57 = .ok (.getfield 196, 3) := by decide +kernel
theorem d_M_request_60 : decode (xC k_M_request) 60 = .ok (.iload_n 3, 1) := by decide +kernel
theorem d_M_request_61 : decode (xC k_M_request) 61 = .ok (.iastore, 1) := by decide +kernel
theorem d_M_request_62 : decode (xC k_M_request) 62 = .ok (.aload_n 0, 1) := by decide +kernel
theorem d_M_request_63 : decode (xC k_M_request) 63 = .ok (.dup, 1) := by decide +kernel
theorem d_M_request_64 : decode (xC k_M_request) 64 = .ok (.getfield 196, 3) := by decide +kernel
theorem d_M_request_67 : decode (xC k_M_request) 67 = .ok (.iconst 1, 1) := by decide +kernel
theorem d_M_request_68 : decode (xC k_M_request) 68 = .ok (.iadd, 1) := by decide +kernel
theorem d_M_request_69 : decode (xC k_M_request) 69 = .ok (.putfield 196, 3) := by decide +kernel
theorem d_M_request_72 : decode (xC k_M_request) 72 = .ok (.aload_n 0, 1) := by decide +kernel
theorem d_M_request_73 : decode (xC k_M_request) 73 = .ok (.getfield 196, 3) := by decide +kernel
theorem d_M_request_76 : decode (xC k_M_request) 76 = .ok (.iconst 1, 1) := by decide +kernel
theorem d_M_request_77 : decode (xC k_M_request) 77 = .ok (.isub, 1) := by decide +kernel
theorem d_M_request_78 : decode (xC k_M_request) 78 = .ok (.ireturn, 1) := by decide +kernel
theorem d_M_isPair_0 : decode (xC k_M_isPair) 0 = .ok (.iload_n 2, 1) := by decide +kernel
theorem d_M_isPair_1 : decode (xC k_M_isPair) 1 = .ok (.aload_n 0, 1) := by decide +kernel
theorem d_M_isPair_2 : decode (xC k_M_isPair) 2 = .ok (.getfield 196, 3) := by decide +kernel
theorem d_M_isPair_5 : decode (xC k_M_isPair) 5 = .ok (.if_icmp .ge 7, 3) := by decide +kernel
theorem d_M_isPair_8 : decode (xC k_M_isPair) 8 = .ok (.iconst 1, 1) := by decide +kernel
theorem d_M_isPair_9 : decode (xC k_M_isPair) 9 = .ok (.goto 4, 3) := by decide +kernel
theorem d_M_isPair_12 : decode (xC k_M_isPair) 12 = .ok (.iconst 0, 1) := by decide +kernel
theorem d_M_isPair_13 : decode (xC k_M_isPair) 13 = .ok (.istore_n 3, 1) := by decide +kernel
theorem d_M_isPair_14 : decode (xC k_M_isPair) 14 = .ok (.iload_n 3, 1) := by decide +kernel
theorem d_M_isPair_15 : decode (xC k_M_isPair) 15 = .ok (.ifCond .ne 20, 3) := by decide +kernel
theorem d_M_isPair_18 : decode (xC k_M_isPair) 18 = .ok (.iload_n 2, 1) := by decide +kernel
theorem d_M_isPair_19 : decode (xC k_M_isPair) 19 = .ok (.bipush 100, 2) := by decide +kernel
theorem d_M_isPair_21 : decode (xC k_M_isPair) 21 = .ok (.if_icmp .lt 18, 3) := by decide +kernel
theorem d_M_isPair_24 : decode (xC k_M_isPair) 24 = .ok (.iload_n 2, 1) := by decide +kernel
theorem d_M_isPair_25 : decode (xC k_M_isPair) 25 = .ok (.bipush 100, 2) := by decide +kernel
theorem d_M_isPair_27 : decode (xC k_M_isPair) 27 = .ok (.aload_n 0, 1) := by decide +kernel
theorem d_M_isPair_28 : decode (xC k_M_isPair) 28 = .ok (.getfield 105, 3) := by decide +kernel
theorem d_M_isPair_31 : decode (xC k_M_isPair) 31 = .ok (.iadd, 1) := by decide +kernel
theorem d_M_isPair_32 : decode (xC k_M_isPair) 32 = .ok (.if_icmp .ge 7, 3) := by decide +kernel
theorem d_M_isPair_35 : decode (xC k_M_isPair) 35 = .ok (.iconst 1, 1) := by decide +kernel
theorem d_M_isPair_36 : decode (xC k_M_isPair) 36 = .ok (.goto 4, 3) := by decide +kernel
theorem d_M_isPair_39 : decode (xC k_M_isPair) 39 = .ok (.iconst 0, 1) := by decide +kernel
theorem d_M_isPair_40 : decode (xC k_M_isPair) 40 = .ok (.istore 4, 2) := by decide +kernel
theorem d_M_isPair_42 : decode (xC k_M_isPair) 42 = .ok (.iload 4, 2) := by decide +kernel
theorem d_M_isPair_44 : decode (xC k_M_isPair) 44 = .ok (.ifCond .ne 7, 3) := by decide +kernel
theorem d_M_isPair_47 : decode (xC k_M_isPair) 47 = .ok (.iconst 0, 1) := by decide +kernel
theorem d_M_isPair_48 : decode (xC k_M_isPair) 48 = .ok (.goto 15, 3) := by decide +kernel
theorem d_M_isPair_51 : decode (xC k_M_isPair) 51 = .ok (.iload_n 3, 1) := by decide +kernel
theorem d_M_isPair_52 : decode (xC k_M_isPair) 52 = .ok (.ifCond .eq 7, 3) := by decide +kernel
theorem d_M_isPair_55 : decode (xC k_M_isPair) 55 = .ok (.iload_n 2, 1) := by decide +kernel
theorem d_M_isPair_56 : decode (xC k_M_isPair) 56 = .ok (.goto 7, 3) := by decide +kernel
theorem d_M_isPair_59 : decode (xC k_M_isPair) 59 = .ok (.iload_n 2, 1) := by decide +kernel
theorem d_M_isPair_60 : decode (xC k_M_isPair) 60 = .ok (.bipush 100, 2) := by decide +kernel
theorem d_M_isPair_62 : decode (xC k_M_isPair) 62 = .ok (.isub, 1) := by decide +kernel
theorem d_M_isPair_63 : decode (xC k_M_isPair) 63 = .ok (.istore 5, 2) := by decide +kernel
theorem d_M_isPair_65 : decode (xC k_M_isPair) 65 = .ok (.iload_n 3, 1) := by decide +kernel
theorem d_M_isPair_66 : decode (xC k_M_isPair) 66 = .ok (.ifCond .eq 13, 3) := by decide +kernel
theorem d_M_isPair_69 : decode (xC k_M_isPair) 69 = .ok (.aload_n 0, 1) := by decide +kernel
theorem d_M_isPair_70 : decode (xC k_M_isPair) 70 = .ok (.getfield 92, 3) := by decide +kernel
theorem d_M_isPair_73 : decode (xC k_M_isPair) 73 = .ok (.iload 5, 2) := by decide +kernel
theorem d_M_isPair_75 : decode (xC k_M_isPair) 75 = .ok (.iaload, 1) := by decide +kernel
theorem d_M_isPair_76 : decode (xC k_M_isPair) 76 = .ok (.goto 10, 3) := by decide +kernel
theorem d_M_isPair_79 : decode (xC k_M_isPair) 79 = .ok (.aload_n 0, 1) := by decide +kernel
theorem d_M_isPair_80 : decode (xC k_M_isPair) 80 = .ok (.getfield 67, 3) := by decide +kernel
theorem d_M_isPair_83 : decode (xC k_M_isPair) 83 = .ok (.iload 5, 2) := by decide +kernel
theorem d_M_isPair_85 : decode (xC k_M_isPair) 85 = .ok (.iaload, 1) := by decide +kernel
theorem d_M_isPair_86 : decode (xC k_M_isPair) 86 = .ok (.istore 6, 2) := by decide +kernel
theorem d_M_isPair_88 : decode (xC k_M_isPair) 88 = .ok (.iload_n 3, 1) := by decide +kernel
theorem d_M_isPair_89 : decode (xC k_M_isPair) 89 = .ok (.ifCond .eq 13, 3) := by decide +kernel
theorem d_M_isPair_92 : decode (xC k_M_isPair) 92 = .ok (.aload_n 0, 1) := by decide +kernel
theorem d_M_isPair_93 : decode (xC k_M_isPair) 93 = .ok (.getfield 95, 3) := by decide +kernel
theorem d_M_isPair_96 : decode (xC k_M_isPair) 96 = .ok (.iload 5, 2) := by decide +kernel
theorem d_M_isPair_98 : decode (xC k_M_isPair) 98 = .ok (.iaload, 1) := by decide +kernel
theorem d_M_isPair_99 : decode (xC k_M_isPair) 99 = .ok (.goto 10, 3) := by decide +kernel
theorem d_M_isPair_102 : decode (xC k_M_isPair) 102 = .ok (.aload_n 0, 1) := by decide +kernel
theorem d_M_isPair_103 : decode (xC k_M_isPair) 103 = .ok (.getfield 70, 3) := by decide +kernel
theorem d_M_isPair_106 : decode (xC k_M_isPair) 106 = .ok (.iload 5, 2) := by decide +kernel
theorem d_M_isPair_108 : decode (xC k_M_isPair) 108 = .ok (.iaload, 1) := by decide +kernel
theorem d_M_isPair_109 : decode (xC k_M_isPair) 109 = .ok (.istore 7, 2) := by decide +kernel
theorem d_M_isPair_111 : decode (xC k_M_isPair) 111 = .ok (.iload_n 3, 1) := by decide +kernel
theorem d_M_isPair_112 : decode (xC k_M_isPair) 112 = .ok (.ifCond .eq 13, 3) := by decide +kernel
theorem d_M_isPair_115 : decode (xC k_M_isPair) 115 = .ok (.aload_n 0, 1) := by decide +kernel
theorem d_M_isPair_116 : decode (xC k_M_isPair) 116 = .ok (.getfield 98, 3) := by decide +kernel
theorem d_M_isPair_119 : decode (xC k_M_isPair) 119 = .ok (.iload 5, 2) := by decide +kernel
theorem d_M_isPair_121 : decode (xC k_M_isPair) 121 = .ok (.iaload, 1) := by decide +kernel
theorem d_M_isPair_122 : decode (xC k_M_isPair) 122 = .ok (.goto 10, 3) := by decide +kernel
theorem d_M_isPair_125 : decode (xC k_M_isPair) 125 = .ok (.aload_n 0, 1) := by decide +kernel
theorem d_M_isPair_126 : decode (xC k_M_isPair) 126 = .ok (.getfield 73, 3) := by decide +kernel
theorem d_M_isPair_129 : decode (xC k_M_isPair) 129 = .ok (.iload 5, 2) := by decide +kernel
theorem d_M_isPair_131 : decode (xC k_M_isPair) 131 = .ok (.iaload, 1) := by decide +kernel
theorem d_M_isPair_132 : decode (xC k_M_isPair) 132 = .ok (.istore 8, 2) := by decide +kernel
theorem d_M_isPair_134 : decode (xC k_M_isPair) 134 = .ok (.iload 4, 2) := by decide +kernel
theorem d_M_isPair_136 : decode (xC k_M_isPair) 136 = .ok (.ifCond .eq 40, 3) := by decide +kernel
theorem d_M_isPair_139 : decode (xC k_M_isPair) 139 = .ok (.iload 6, 2) := by decide +kernel
theorem d_M_isPair_141 : decode (xC k_M_isPair) 141 = .ok (.aload_n 0, 1) := by decide +kernel
theorem d_M_isPair_142 : decode (xC k_M_isPair) 142 = .ok (.getfield 92, 3) := by decide +kernel
theorem d_M_isPair_145 : decode (xC k_M_isPair) 145 = .ok (.iload_n 1, 1) := by decide +kernel
theorem d_M_isPair_146 : decode (xC k_M_isPair) 146 = .ok (.iaload, 1) := by decide +kernel
theorem d_M_isPair_147 : decode (xC k_M_isPair) 147 = .ok (.if_icmp .ne 29, 3) := by decide +kernel
theorem d_M_isPair_150 : decode (xC k_M_isPair) 150 = .ok (.iload 7, 2) := by decide +kernel
theorem d_M_isPair_152 : decode (xC k_M_isPair) 152 = .ok (.aload_n 0, 1) := by decide +kernel
theorem d_M_isPair_153 : decode (xC k_M_isPair) 153 = .ok (.getfield 98, 3) := by decide +kernel
theorem d_M_isPair_156 : decode (xC k_M_isPair) 156 = .ok (.iload_n 1, 1) := by decide +kernel
theorem d_M_isPair_157 : decode (xC k_M_isPair) 157 = .ok (.iaload, 1) := by decide +kernel
theorem d_M_isPair_158 : decode (xC k_M_isPair) 158 = .ok (.if_icmp .gt 18, 3) := by decide +kernel
theorem d_M_isPair_161 : decode (xC k_M_isPair) 161 = .ok (.aload_n 0, 1) := by decide +kernel
theorem d_M_isPair_162 : decode (xC k_M_isPair) 162 = .ok (.getfield 95, 3) := by decide +kernel
theorem d_M_isPair_165 : decode (xC k_M_isPair) 165 = .ok (.iload_n 1, 1) := by decide +kernel
theorem d_M_isPair_166 : decode (xC k_M_isPair) 166 = .ok (.iaload, 1) := by decide +kernel
theorem d_M_isPair_167 : decode (xC k_M_isPair) 167 = .ok (.iload 8, 2) := by decide +kernel
theorem d_M_isPair_169 : decode (xC k_M_isPair) 169 = .ok (.if_icmp .gt 7, 3) := by decide +kernel
theorem d_M_isPair_172 : decode (xC k_M_isPair) 172 = .ok (.iconst 1, 1) := by decide +kernel
theorem d_M_isPair_173 : decode (xC k_M_isPair) 173 = .ok (.goto 4, 3) := by decide +kernel
theorem d_M_isPair_176 : decode (xC k_M_isPair) 176 = .ok (.iconst 0, 1) := by decide +kernel
theorem d_M_isPair_177 : decode (xC k_M_isPair) 177 = .ok (.ireturn, 1) := by decide +kernel
theorem d_M_clash_0 : decode (xC k_M_clash) 0 = .ok (.aload_n 0, 1) := by decide +kernel
theorem d_M_clash_1 : decode (xC k_M_clash) 1 = .ok (.iload_n 1, 1) := by decide +kernel
theorem d_M_clash_2 : decode (xC k_M_clash) 2 = .ok (.ifCond .lt 16, 3) := by decide +kernel
theorem d_M_clash_5 : decode (xC k_M_clash) 5 = .ok (.iload_n 2, 1) := by decide +kernel
theorem d_M_clash_6 : decode (xC k_M_clash) 6 = .ok (.ifCond .eq 8, 3) := by decide +kernel
theorem d_M_clash_9 : decode (xC k_M_clash) 9 = .ok (.iload_n 2, 1) := by decide +kernel
theorem d_M_clash_10 : decode (xC k_M_clash) 10 = .ok (.iconst 1, 1) := by decide +kernel
theorem d_M_clash_11 : decode (xC k_M_clash) 11 = .ok (.if_icmp .ne 7, 3) := by decide +kernel
theorem d_M_clash_14 : decode (xC k_M_clash) 14 = .ok (.iconst 1, 1) := by decide +kernel
theorem d_M_clash_15 : decode (xC k_M_clash) 15 = .ok (.goto 4, 3) := by decide +kernel
theorem d_M_clash_18 : decode (xC k_M_clash) 18 = .ok (.iconst 0, 1) := by decide +kernel
theorem d_M_clash_19 : decode (xC k_M_clash) 19 = .ok (.iconst 1, 1) := by decide +kernel
theorem d_M_clash_20 : decode (xC k_M_clash) 20 = .ok (.iconst 1, 1) := by decide +kernel
theorem d_M_clash_21 : decode (xC k_M_clash) 21 = .ok (.invokevirtual 116, 3) := by decide +kernel
theorem d_M_clash_24 : decode (xC k_M_clash) 24 = .ok (.ifCond .ne 5, 3) := by decide +kernel
theorem d_M_clash_27 : decode (xC k_M_clash) 27 = .ok (.iconst 0, 1) := by decide +kernel
theorem d_M_clash_28 : decode (xC k_M_clash) 28 = .ok (.ireturn, 1) := by decide +kernel
theorem d_M_clash_29 : decode (xC k_M_clash) 29 = .ok (.iconst 0, 1) := by decide +kernel
theorem d_M_clash_30 : decode (xC k_M_clash) 30 = .ok (.istore_n 3, 1) := by decide +kernel
theorem d_M_clash_31 : decode (xC k_M_clash) 31 = .ok (.iconst 0, 1) := by decide +kernel
theorem d_M_clash_32 : decode (xC k_M_clash) 32 = .ok (.istore 4, 2) := by decide +kernel
theorem d_M_clash_34 : decode (xC k_M_clash) 34 = .ok (.iload 4, 2) := by decide +kernel
theorem d_M_clash_36 : decode (xC k_M_clash) 36 = .ok (.aload_n 0, 1) := by decide +kernel
theorem d_M_clash_37 : decode (xC k_M_clash) 37 = .ok (.getfield 196, 3) := by decide +kernel
theorem d_M_clash_40 : decode (xC k_M_clash) 40 = .ok (.if_icmp .ge 59, 3) := by decide +kernel
theorem d_M_clash_43 : decode (xC k_M_clash) 43 = .ok (.iload 4, 2) := by decide +kernel
theorem d_M_clash_45 : decode (xC k_M_clash) 45 = .ok (.iconst 1, 1) := by decide +kernel
theorem d_M_clash_46 : decode (xC k_M_clash) 46 = .ok (.iadd, 1) := by decide +kernel
theorem d_M_clash_47 : decode (xC k_M_clash) 47 = .ok (.istore 5, 2) := by decide +kernel
theorem d_M_clash_49 : decode (xC k_M_clash) 49 = .ok (.iload 5, 2) := by decide +kernel
theorem d_M_clash_51 : decode (xC k_M_clash) 51 = .ok (.bipush 120, 2) := by decide +kernel
theorem d_M_clash_53 : decode (xC k_M_clash) 53 = .ok (.if_icmp .ge 40, 3) := by decide +kernel
theorem d_M_clash_56 : decode (xC k_M_clash) 56 = .ok (.aload_n 0, 1) := by decide +kernel
theorem d_M_clash_57 : decode (xC k_M_clash) 57 = .ok (.iload 4, 2) := by decide +kernel
theorem d_M_clash_59 : decode (xC k_M_clash) 59 = .ok (.iload 5, 2) := by decide +kernel
theorem d_M_clash_61 : decode (xC k_M_clash) 61 = .ok (.invokevirtual 199, 3) := by decide +kernel
theorem d_M_clash_64 : decode (xC k_M_clash) 64 = .ok (.ifCond .eq 23, 3) := by decide +kernel
theorem d_M_clash_67 : decode (xC k_M_clash) 67 = .ok (.iload_n 3, 1) := by decide +kernel
theorem d_M_clash_68 : decode (xC k_M_clash) 68 = .ok (.iload_n 1, 1) := by decide +kernel
theorem d_M_clash_69 : decode (xC k_M_clash) 69 = .ok (.if_icmp .ne 15, 3) := by decide +kernel
theorem d_M_clash_72 : decode (xC k_M_clash) 72 = .ok (.iload_n 2, 1) := by decide +kernel
theorem d_M_clash_73 : decode (xC k_M_clash) 73 = .ok (.ifCond .ne 8, 3) := by decide +kernel
theorem d_M_clash_76 : decode (xC k_M_clash) 76 = .ok (.iload 4, 2) := by decide +kernel
theorem d_M_clash_78 : decode (xC k_M_clash) 78 = .ok (.goto 5, 3) := by decide +kernel
theorem d_M_clash_81 : decode (xC k_M_clash) 81 = .ok (.iload 5, 2) := by decide +kernel
theorem d_M_clash_83 : decode (xC k_M_clash) 83 = .ok (.ireturn, 1) := by decide +kernel
theorem d_M_clash_84 : decode (xC k_M_clash) 84 = .ok (.iinc 3 1, 3) := by decide +kernel
theorem d_M_clash_87 : decode (xC k_M_clash) 87 = .ok (.iinc 5 1, 3) := by decide +kernel
theorem d_M_clash_90 : decode (xC k_M_clash) 90 = .ok (.goto (-41), 3) := by decide +kernel
theorem d_M_clash_93 : decode (xC k_M_clash) 93 = .ok (.iinc 4 1, 3) := by decide +kernel
theorem d_M_clash_96 : decode (xC k_M_clash) 96 = .ok (.goto (-62), 3) := by decide +kernel
theorem d_M_clash_99 : decode (xC k_M_clash) 99 = .ok (.iconst (-1), 1) := by decide +kernel
theorem d_M_clash_100 : decode (xC k_M_clash) 100 = .ok (.ireturn, 1) := by decide +kernel
theorem d_M_allDays_0 : decode (xC k_M_allDays) 0 = .ok (.aload_n 0, 1) := by decide +kernel
theorem d_M_allDays_1 : decode (xC k_M_allDays) 1 = .ok (.getfield 73, 3) := by decide +kernel
theorem d_M_allDays_4 : decode (xC k_M_allDays) 4 = .ok (.iload_n 1, 1) := by decide +kernel
theorem d_M_allDays_5 : decode (xC k_M_allDays) 5 = .ok (.iaload, 1) := by decide +kernel
theorem d_M_allDays_6 : decode (xC k_M_allDays) 6 = .ok (.aload_n 0, 1) := by decide +kernel
theorem d_M_allDays_7 : decode (xC k_M_allDays) 7 = .ok (.getfield 70, 3) := by decide +kernel
theorem d_M_allDays_10 : decode (xC k_M_allDays) 10 = .ok (.iload_n 1, 1) := by decide +kernel
theorem d_M_allDays_11 : decode (xC k_M_allDays) 11 = .ok (.iaload, 1) := by decide +kernel
theorem d_M_allDays_12 : decode (xC k_M_allDays) 12 = .ok (.isub, 1) := by decide +kernel
theorem d_M_allDays_13 : decode (xC k_M_allDays) 13 = .ok (.iconst 1, 1) := by decide +kernel
theorem d_M_allDays_14 : decode (xC k_M_allDays) 14 = .ok (.iadd, 1) := by decide +kernel
theorem d_M_allDays_15 : decode (xC k_M_allDays) 15 = .ok (.ireturn, 1) := by decide +kernel
theorem d_M_days_0 : decode (xC k_M_days) 0 = .ok (.aload_n 0, 1) := by decide +kernel
theorem d_M_days_1 : decode (xC k_M_days) 1 = .ok (.aload_n 0, 1) := by decide +kernel
theorem d_M_days_2 : decode (xC k_M_days) 2 = .ok (.iload_n 1, 1) := by decide +kernel
theorem d_M_days_3 : decode (xC k_M_days) 3 = .ok (.invokevirtual 184, 3) := by decide +kernel
theorem d_M_days_6 : decode (xC k_M_days) 6 = .ok (.iconst 1, 1) := by decide +kernel
theorem d_M_days_7 : decode (xC k_M_days) 7 = .ok (.iconst 1, 1) := by decide +kernel
theorem d_M_days_8 : decode (xC k_M_days) 8 = .ok (.invokevirtual 116, 3) := by decide +kernel
theorem d_M_days_11 : decode (xC k_M_days) 11 = .ok (.ifCond .eq 11, 3) := by decide +kernel
theorem d_M_days_14 : decode (xC k_M_days) 14 = .ok (.aload_n 0, 1) := by decide +kernel
theorem d_M_days_15 : decode (xC k_M_days) 15 = .ok (.iload_n 1, 1) := by decide +kernel
theorem d_M_days_16 : decode (xC k_M_days) 16 = .ok (.invokevirtual 202, 3) := by decide +kernel
theorem d_M_days_19 : decode (xC k_M_days) 19 = .ok (.goto 4, 3) := by decide +kernel
theorem d_M_days_22 : decode (xC k_M_days) 22 = .ok (.iconst 0, 1) := by decide +kernel
theorem d_M_days_23 : decode (xC k_M_days) 23 = .ok (.ireturn, 1) := by decide +kernel
theorem d_M_allFee_0 : decode (xC k_M_allFee) 0 = .ok (.iconst 5, 1) := by decide +kernel
theorem d_M_allFee_1 : decode (xC k_M_allFee) 1 = .ok (.aload_n 0, 1) := by decide +kernel
theorem d_M_allFee_2 : decode (xC k_M_allFee) 2 = .ok (.iload_n 1, 1) := by decide +kernel
theorem d_M_allFee_3 : decode (xC k_M_allFee) 3 = .ok (.invokevirtual 202, 3) := by decide +kernel
theorem d_M_allFee_6 : decode (xC k_M_allFee) 6 = .ok (.imul, 1) := by decide +kernel
theorem d_M_allFee_7 : decode (xC k_M_allFee) 7 = .ok (.bipush 20, 2) := by decide +kernel
theorem d_M_allFee_9 : decode (xC k_M_allFee) 9 = .ok (.aload_n 0, 1) := by decide +kernel
theorem d_M_allFee_10 : decode (xC k_M_allFee) 10 = .ok (.getfield 13, 3) := by decide +kernel
theorem d_M_allFee_13 : decode (xC k_M_allFee) 13 = .ok (.aload_n 0, 1) := by decide +kernel
theorem d_M_allFee_14 : decode (xC k_M_allFee) 14 = .ok (.getfield 64, 3) := by decide +kernel
theorem d_M_allFee_17 : decode (xC k_M_allFee) 17 = .ok (.iload_n 1, 1) := by decide +kernel
theorem d_M_allFee_18 : decode (xC k_M_allFee) 18 = .ok (.iaload, 1) := by decide +kernel
theorem d_M_allFee_19 : decode (xC k_M_allFee) 19 = .ok (.iaload, 1) := by decide +kernel
theorem d_M_allFee_20 : decode (xC k_M_allFee) 20 = .ok (.imul, 1) := by decide +kernel
theorem d_M_allFee_21 : decode (xC k_M_allFee) 21 = .ok (.iadd, 1) := by decide +kernel
theorem d_M_allFee_22 : decode (xC k_M_allFee) 22 = .ok (.aload_n 0, 1) := by decide +kernel
theorem d_M_allFee_23 : decode (xC k_M_allFee) 23 = .ok (.getfield 76, 3) := by decide +kernel
theorem d_M_allFee_26 : decode (xC k_M_allFee) 26 = .ok (.iload_n 1, 1) := by decide +kernel
theorem d_M_allFee_27 : decode (xC k_M_allFee) 27 = .ok (.baload, 1) := by decide +kernel
theorem d_M_allFee_28 : decode (xC k_M_allFee) 28 = .ok (.ifCond .eq 7, 3) := by decide +kernel
theorem d_M_allFee_31 : decode (xC k_M_allFee) 31 = .ok (.iconst 0, 1) := by decide +kernel
theorem d_M_allFee_32 : decode (xC k_M_allFee) 32 = .ok (.goto 6, 3) := by decide +kernel
theorem d_M_allFee_35 : decode (xC k_M_allFee) 35 = .ok (.sipush 300, 3) := by decide +kernel
theorem d_M_allFee_38 : decode (xC k_M_allFee) 38 = .ok (.iadd, 1) := by decide +kernel
theorem d_M_allFee_39 : decode (xC k_M_allFee) 39 = .ok (.bipush 50, 2) := by decide +kernel
theorem d_M_allFee_41 : decode (xC k_M_allFee) 41 = .ok (.aload_n 0, 1) := by decide +kernel
theorem d_M_allFee_42 : decode (xC k_M_allFee) 42 = .ok (.getfield 83, 3) := by decide +kernel
theorem d_M_allFee_45 : decode (xC k_M_allFee) 45 = .ok (.iload_n 1, 1) := by decide +kernel
theorem d_M_allFee_46 : decode (xC k_M_allFee) 46 = .ok (.iaload, 1) := by decide +kernel
theorem d_M_allFee_47 : decode (xC k_M_allFee) 47 = .ok (.imul, 1) := by decide +kernel
theorem d_M_allFee_48 : decode (xC k_M_allFee) 48 = .ok (.iadd, 1) := by decide +kernel
theorem d_M_allFee_49 : decode (xC k_M_allFee) 49 = .ok (.ireturn, 1) := by decide +kernel
theorem d_M_fee_0 : decode (xC k_M_fee) 0 = .ok (.aload_n 0, 1) := by decide +kernel
theorem d_M_fee_1 : decode (xC k_M_fee) 1 = .ok (.aload_n 0, 1) := by decide +kernel
theorem d_M_fee_2 : decode (xC k_M_fee) 2 = .ok (.iload_n 1, 1) := by decide +kernel
theorem d_M_fee_3 : decode (xC k_M_fee) 3 = .ok (.invokevirtual 184, 3) := by decide +kernel
theorem d_M_fee_6 : decode (xC k_M_fee) 6 = .ok (.iconst 1, 1) := by decide +kernel
theorem d_M_fee_7 : decode (xC k_M_fee) 7 = .ok (.iconst 1, 1) := by decide +kernel
theorem d_M_fee_8 : decode (xC k_M_fee) 8 = .ok (.invokevirtual 116, 3) := by decide +kernel
theorem d_M_fee_11 : decode (xC k_M_fee) 11 = .ok (.ifCond .eq 11, 3) := by decide +kernel
theorem d_M_fee_14 : decode (xC k_M_fee) 14 = .ok (.aload_n 0, 1) := by decide +kernel
theorem d_M_fee_15 : decode (xC k_M_fee) 15 = .ok (.iload_n 1, 1) := by decide +kernel
theorem d_M_fee_16 : decode (xC k_M_fee) 16 = .ok (.invokevirtual 206, 3) := by decide +kernel
theorem d_M_fee_19 : decode (xC k_M_fee) 19 = .ok (.goto 4, 3) := by decide +kernel
theorem d_M_fee_22 : decode (xC k_M_fee) 22 = .ok (.iconst 0, 1) := by decide +kernel
theorem d_M_fee_23 : decode (xC k_M_fee) 23 = .ok (.ireturn, 1) := by decide +kernel
theorem d_M_writeLetter_0 : decode (xC k_M_writeLetter) 0 = .ok (.aload_n 0, 1) := by decide +kernel
theorem d_M_writeLetter_1 : decode (xC k_M_writeLetter) 1 = .ok (.iconst 0, 1) := by decide +kernel
theorem d_M_writeLetter_2 : decode (xC k_M_writeLetter) 2 = .ok (.putfield 149, 3) := by decide +kernel
theorem d_M_writeLetter_5 : decode (xC k_M_writeLetter) 5 = .ok (.aload_n 0, 1) := by decide +kernel
theorem d_M_writeLetter_6 : decode (xC k_M_writeLetter) 6 = .ok (.bipush 35, 2) := by decide +kernel
theorem d_M_writeLetter_8 : decode (xC k_M_writeLetter) 8 = .ok (.invokevirtual 152, 3) := by decide +kernel
theorem d_M_writeLetter_11 : decode (xC k_M_writeLetter) 11 = .ok (.aload_n 0, 1) := by decide +kernel
theorem d_M_writeLetter_12 : decode (xC k_M_writeLetter) 12 = .ok (.iload_n 1, 1) := by decide +kernel
theorem d_M_writeLetter_13 : decode (xC k_M_writeLetter) 13 = .ok (.invokevirtual 165, 3) := by decide +kernel
theorem d_M_writeLetter_16 : decode (xC k_M_writeLetter) 16 = .ok (.aload_n 0, 1) := by decide +kernel
theorem d_M_writeLetter_17 : decode (xC k_M_writeLetter) 17 = .ok (.bipush 64, 2) := by decide +kernel
theorem d_M_writeLetter_19 : decode (xC k_M_writeLetter) 19 = .ok (.invokevirtual 152, 3) := by decide +kernel
theorem d_M_writeLetter_22 : decode (xC k_M_writeLetter) 22 = .ok (.aload_n 0, 1) := by decide +kernel
theorem d_M_writeLetter_23 : decode (xC k_M_writeLetter) 23 = .ok (.aload_n 0, 1) := by decide +kernel
theorem d_M_writeLetter_24 : decode (xC k_M_writeLetter) 24 = .ok (.getfield 67, 3) := by decide +kernel
theorem d_M_writeLetter_27 : decode (xC k_M_writeLetter) 27 = .ok (.iload_n 1, 1) := by decide +kernel
theorem d_M_writeLetter_28 : decode (xC k_M_writeLetter) 28 = .ok (.iaload, 1) := by decide +kernel
theorem d_M_writeLetter_29 : decode (xC k_M_writeLetter) 29 = .ok (.invokevirtual 165, 3) := by decide +kernel
theorem d_M_writeLetter_32 : decode (xC k_M_writeLetter) 32 = .ok (.aload_n 0, 1) := by decide +kernel
theorem d_M_writeLetter_33 : decode (xC k_M_writeLetter) 33 = .ok (.bipush 58, 2) := by decide +kernel
theorem d_M_writeLetter_35 : decode (xC k_M_writeLetter) 35 = .ok (.invokevirtual 152, 3) := by decide +kernel
theorem d_M_writeLetter_38 : decode (xC k_M_writeLetter) 38 = .ok (.aload_n 0, 1) := by decide +kernel
theorem d_M_writeLetter_39 : decode (xC k_M_writeLetter) 39 = .ok (.aload_n 0, 1) := by decide +kernel
theorem d_M_writeLetter_40 : decode (xC k_M_writeLetter) 40 = .ok (.getfield 70, 3) := by decide +kernel
theorem d_M_writeLetter_43 : decode (xC k_M_writeLetter) 43 = .ok (.iload_n 1, 1) := by decide +kernel
theorem d_M_writeLetter_44 : decode (xC k_M_writeLetter) 44 = .ok (.iaload, 1) := by decide +kernel
theorem d_M_writeLetter_45 : decode (xC k_M_writeLetter) 45 = .ok (.invokevirtual 165, 3) := by decide +kernel
theorem d_M_writeLetter_48 : decode (xC k_M_writeLetter) 48 = .ok (.aload_n 0, 1) := by decide +kernel
theorem d_M_writeLetter_49 : decode (xC k_M_writeLetter) 49 = .ok (.bipush 45, 2) := by decide +kernel
theorem d_M_writeLetter_51 : decode (xC k_M_writeLetter) 51 = .ok (.invokevirtual 152, 3) := by decide +kernel
theorem d_M_writeLetter_54 : decode (xC k_M_writeLetter) 54 = .ok (.aload_n 0, 1) := by decide +kernel
theorem d_M_writeLetter_55 : decode (xC k_M_writeLetter) 55 = .ok (.aload_n 0, 1) := by decide +kernel
theorem d_M_writeLetter_56 : decode (xC k_M_writeLetter) 56 = .ok (.getfield 73, 3) := by decide +kernel
theorem d_M_writeLetter_59 : decode (xC k_M_writeLetter) 59 = .ok (.iload_n 1, 1) := by decide +kernel
theorem d_M_writeLetter_60 : decode (xC k_M_writeLetter) 60 = .ok (.iaload, 1) := by decide +kernel
theorem d_M_writeLetter_61 : decode (xC k_M_writeLetter) 61 = .ok (.invokevirtual 165, 3) := by decide +kernel
theorem d_M_writeLetter_64 : decode (xC k_M_writeLetter) 64 = .ok (.aload_n 0, 1) := by decide +kernel
theorem d_M_writeLetter_65 : decode (xC k_M_writeLetter) 65 = .ok (.bipush 61, 2) := by decide +kernel
theorem d_M_writeLetter_67 : decode (xC k_M_writeLetter) 67 = .ok (.invokevirtual 152, 3) := by decide +kernel
theorem d_M_writeLetter_70 : decode (xC k_M_writeLetter) 70 = .ok (.aload_n 0, 1) := by decide +kernel
theorem d_M_writeLetter_71 : decode (xC k_M_writeLetter) 71 = .ok (.aload_n 0, 1) := by decide +kernel
theorem d_M_writeLetter_72 : decode (xC k_M_writeLetter) 72 = .ok (.iload_n 1, 1) := by decide +kernel
theorem d_M_writeLetter_73 : decode (xC k_M_writeLetter) 73 = .ok (.invokevirtual 206, 3) := by decide +kernel
theorem d_M_writeLetter_76 : decode (xC k_M_writeLetter) 76 = .ok (.invokevirtual 165, 3) := by decide +kernel
theorem d_M_writeLetter_79 : decode (xC k_M_writeLetter) 79 = .ok (.iconst 0, 1) := by decide +kernel
theorem d_M_writeLetter_80 : decode (xC k_M_writeLetter) 80 = .ok (.istore_n 2, 1) := by decide +kernel
theorem d_M_writeLetter_81 : decode (xC k_M_writeLetter) 81 = .ok (.iload_n 2, 1) := by decide +kernel
theorem d_M_writeLetter_82 : decode (xC k_M_writeLetter) 82 = .ok (.aload_n 0, 1) := by decide +kernel
theorem d_M_writeLetter_83 : decode (xC k_M_writeLetter) 83 = .ok (.getfield 83, 3) := by decide +kernel
theorem d_M_writeLetter_86 : decode (xC k_M_writeLetter) 86 = .ok (.iload_n 1, 1) := by decide +kernel
theorem d_M_writeLetter_87 : decode (xC k_M_writeLetter) 87 = .ok (.iaload, 1) := by decide +kernel
theorem d_M_writeLetter_88 : decode (xC k_M_writeLetter) 88 = .ok (.if_icmp .ge 30, 3) := by decide +kernel
theorem d_M_writeLetter_91 : decode (xC k_M_writeLetter) 91 = .ok (.aload_n 0, 1) := by decide +kernel
theorem d_M_writeLetter_92 : decode (xC k_M_writeLetter) 92 = .ok (.bipush 33, 2) := by decide +kernel
theorem d_M_writeLetter_94 : decode (xC k_M_writeLetter) 94 = .ok (.invokevirtual 152, 3) := by decide +kernel
theorem d_M_writeLetter_97 : decode (xC k_M_writeLetter) 97 = .ok (.aload_n 0, 1) := by decide +kernel
theorem d_M_writeLetter_98 : decode (xC k_M_writeLetter) 98 = .ok (.aload_n 0, 1) := by decide +kernel
theorem d_M_writeLetter_99 : decode (xC k_M_writeLetter) 99 = .ok (.getfield 89, 3) := by decide +kernel
theorem d_M_writeLetter_102 : decode (xC k_M_writeLetter) 102 = .ok (.bipush 100, 2) := by decide +kernel
theorem d_M_writeLetter_104 : decode (xC k_M_writeLetter) 104 = .ok (.iload_n 1, 1) := by decide +kernel
theorem d_M_writeLetter_105 : decode (xC k_M_writeLetter) 105 = .ok (.imul, 1) := by decide +kernel
theorem d_M_writeLetter_106 : decode (xC k_M_writeLetter) 106 = .ok (.iload_n 2, 1) := by decide +kernel
theorem d_M_writeLetter_107 : decode (xC k_M_writeLetter) 107 = .ok (.iadd, 1) := by decide +kernel
theorem d_M_writeLetter_108 : decode (xC k_M_writeLetter) 108 = .ok (.iaload, 1) := by decide +kernel
theorem d_M_writeLetter_109 : decode (xC k_M_writeLetter) 109 = .ok (.invokevirtual 165, 3) := by decide +kernel
theorem d_M_writeLetter_112 : decode (xC k_M_writeLetter) 112 = .ok (.iinc 2 1, 3) := by decide +kernel
theorem d_M_writeLetter_115 : decode (xC k_M_writeLetter) 115 = .ok (.goto (-34), 3) := by decide +kernel
theorem d_M_writeLetter_118 : decode (xC k_M_writeLetter) 118 = .ok (.return_, 1) := by decide +kernel
theorem d_M_letter_0 : decode (xC k_M_letter) 0 = .ok (.aload_n 0, 1) := by decide +kernel
theorem d_M_letter_1 : decode (xC k_M_letter) 1 = .ok (.iload_n 1, 1) := by decide +kernel
theorem d_M_letter_2 : decode (xC k_M_letter) 2 = .ok (.invokevirtual 184, 3) := by decide +kernel
theorem d_M_letter_5 : decode (xC k_M_letter) 5 = .ok (.ifCond .eq 12, 3) := by decide +kernel
theorem d_M_letter_8 : decode (xC k_M_letter) 8 = .ok (.iload_n 2, 1) := by decide +kernel
theorem d_M_letter_9 : decode (xC k_M_letter) 9 = .ok (.iconst (-1), 1) := by decide +kernel
theorem d_M_letter_10 : decode (xC k_M_letter) 10 = .ok (.if_icmp .lt 7, 3) := by decide +kernel
theorem d_M_letter_13 : decode (xC k_M_letter) 13 = .ok (.iconst 1, 1) := by decide +kernel
theorem d_M_letter_14 : decode (xC k_M_letter) 14 = .ok (.goto 4, 3) := by decide +kernel
theorem d_M_letter_17 : decode (xC k_M_letter) 17 = .ok (.iconst 0, 1) := by decide +kernel
theorem d_M_letter_18 : decode (xC k_M_letter) 18 = .ok (.istore_n 3, 1) := by decide +kernel
theorem d_M_letter_19 : decode (xC k_M_letter) 19 = .ok (.iload_n 3, 1) := by decide +kernel
theorem d_M_letter_20 : decode (xC k_M_letter) 20 = .ok (.ifCond .eq 8, 3) := by decide +kernel
theorem d_M_letter_23 : decode (xC k_M_letter) 23 = .ok (.aload_n 0, 1) := by decide +kernel
theorem d_M_letter_24 : decode (xC k_M_letter) 24 = .ok (.iload_n 1, 1) := by decide +kernel
theorem d_M_letter_25 : decode (xC k_M_letter) 25 = .ok (.invokevirtual 209, 3) := by decide +kernel
theorem d_M_letter_28 : decode (xC k_M_letter) 28 = .ok (.aload_n 0, 1) := by decide +kernel
theorem d_M_letter_29 : decode (xC k_M_letter) 29 = .ok (.iload_n 3, 1) := by decide +kernel
theorem d_M_letter_30 : decode (xC k_M_letter) 30 = .ok (.ifCond .eq 15, 3) := by decide +kernel
theorem d_M_letter_33 : decode (xC k_M_letter) 33 = .ok (.iload_n 2, 1) := by decide +kernel
theorem d_M_letter_34 : decode (xC k_M_letter) 34 = .ok (.aload_n 0, 1) := by decide +kernel
theorem d_M_letter_35 : decode (xC k_M_letter) 35 = .ok (.getfield 149, 3) := by decide +kernel
theorem d_M_letter_38 : decode (xC k_M_letter) 38 = .ok (.if_icmp .ge 7, 3) := by decide +kernel
theorem d_M_letter_41 : decode (xC k_M_letter) 41 = .ok (.iconst 1, 1) := by decide +kernel
theorem d_M_letter_42 : decode (xC k_M_letter) 42 = .ok (.goto 4, 3) := by decide +kernel
theorem d_M_letter_45 : decode (xC k_M_letter) 45 = .ok (.iconst 0, 1) := by decide +kernel
theorem d_M_letter_46 : decode (xC k_M_letter) 46 = .ok (.iconst 1, 1) := by decide +kernel
theorem d_M_letter_47 : decode (xC k_M_letter) 47 = .ok (.iconst 1, 1) := by decide +kernel
theorem d_M_letter_48 : decode (xC k_M_letter) 48 = .ok (.invokevirtual 116, 3) := by decide +kernel
theorem d_M_letter_51 : decode (xC k_M_letter) 51 = .ok (.ifCond .ne 5, 3) := by decide +kernel
theorem d_M_letter_54 : decode (xC k_M_letter) 54 = .ok (.iconst 0, 1) := by decide +kernel
theorem d_M_letter_55 : decode (xC k_M_letter) 55 = .ok (.ireturn, 1) := by decide +kernel
theorem d_M_letter_56 : decode (xC k_M_letter) 56 = .ok (.iload_n 2, 1) := by decide +kernel
theorem d_M_letter_57 : decode (xC k_M_letter) 57 = .ok (.iconst (-1), 1) := by decide +kernel
theorem d_M_letter_58 : decode (xC k_M_letter) 58 = .ok (.if_icmp .ne 10, 3) := by decide +kernel
theorem d_M_letter_61 : decode (xC k_M_letter) 61 = .ok (.aload_n 0, 1) := by decide +kernel
theorem d_M_letter_62 : decode (xC k_M_letter) 62 = .ok (.getfield 149, 3) := by decide +kernel
theorem d_M_letter_65 : decode (xC k_M_letter) 65 = .ok (.goto 9, 3) := by decide +kernel
theorem d_M_letter_68 : decode (xC k_M_letter) 68 = .ok (.aload_n 0, 1) := by decide +kernel
theorem d_M_letter_69 : decode (xC k_M_letter) 69 = .ok (.getfield 46, 3) := by decide +kernel
theorem d_M_letter_72 : decode (xC k_M_letter) 72 = .ok (.iload_n 2, 1) := by decide +kernel
theorem d_M_letter_73 : decode (xC k_M_letter) 73 = .ok (.iaload, 1) := by decide +kernel
theorem d_M_letter_74 : decode (xC k_M_letter) 74 = .ok (.ireturn, 1) := by decide +kernel
theorem d_M_count_0 : decode (xC k_M_count) 0 = .ok (.aload_n 0, 1) := by decide +kernel
theorem d_M_count_1 : decode (xC k_M_count) 1 = .ok (.iload_n 1, 1) := by decide +kernel
theorem d_M_count_2 : decode (xC k_M_count) 2 = .ok (.iconst 0, 1) := by decide +kernel
theorem d_M_count_3 : decode (xC k_M_count) 3 = .ok (.iconst 4, 1) := by decide +kernel
theorem d_M_count_4 : decode (xC k_M_count) 4 = .ok (.invokestatic 112, 3) := by decide +kernel
theorem d_M_count_7 : decode (xC k_M_count) 7 = .ok (.iconst 1, 1) := by decide +kernel
theorem d_M_count_8 : decode (xC k_M_count) 8 = .ok (.iconst 1, 1) := by decide +kernel
theorem d_M_count_9 : decode (xC k_M_count) 9 = .ok (.invokevirtual 116, 3) := by decide +kernel
theorem d_M_count_12 : decode (xC k_M_count) 12 = .ok (.ifCond .ne 5, 3) := by decide +kernel
theorem d_M_count_15 : decode (xC k_M_count) 15 = .ok (.iconst 0, 1) := by decide +kernel
theorem d_M_count_16 : decode (xC k_M_count) 16 = .ok (.ireturn, 1) := by decide +kernel
theorem d_M_count_17 : decode (xC k_M_count) 17 = .ok (.iconst 0, 1) := by decide +kernel
theorem d_M_count_18 : decode (xC k_M_count) 18 = .ok (.istore_n 2, 1) := by decide +kernel
theorem d_M_count_19 : decode (xC k_M_count) 19 = .ok (.iconst 0, 1) := by decide +kernel
theorem d_M_count_20 : decode (xC k_M_count) 20 = .ok (.istore_n 3, 1) := by decide +kernel
theorem d_M_count_21 : decode (xC k_M_count) 21 = .ok (.iload_n 3, 1) := by decide +kernel
theorem d_M_count_22 : decode (xC k_M_count) 22 = .ok (.bipush 8, 2) := by decide +kernel
theorem d_M_count_24 : decode (xC k_M_count) 24 = .ok (.if_icmp .ge 18, 3) := by decide +kernel
theorem d_M_count_27 : decode (xC k_M_count) 27 = .ok (.iload_n 2, 1) := by decide +kernel
theorem d_M_count_28 : decode (xC k_M_count) 28 = .ok (.aload_n 0, 1) := by decide +kernel
theorem d_M_count_29 : decode (xC k_M_count) 29 = .ok (.getfield 49, 3) := by decide +kernel
theorem d_M_count_32 : decode (xC k_M_count) 32 = .ok (.iload_n 3, 1) := by decide +kernel
theorem d_M_count_33 : decode (xC k_M_count) 33 = .ok (.iaload, 1) := by decide +kernel
theorem d_M_count_34 : decode (xC k_M_count) 34 = .ok (.iadd, 1) := by decide +kernel
theorem d_M_count_35 : decode (xC k_M_count) 35 = .ok (.istore_n 2, 1) := by decide +kernel
theorem d_M_count_36 : decode (xC k_M_count) 36 = .ok (.iinc 3 1, 3) := by decide +kernel
theorem d_M_count_39 : decode (xC k_M_count) 39 = .ok (.goto (-18), 3) := by decide +kernel
theorem d_M_count_42 : decode (xC k_M_count) 42 = .ok (.iload_n 1, 1) := by decide +kernel
theorem d_M_count_43 : decode (xC k_M_count) 43 = .ok (.ifCond .ne 10, 3) := by decide +kernel
theorem d_M_count_46 : decode (xC k_M_count) 46 = .ok (.aload_n 0, 1) := by decide +kernel
theorem d_M_count_47 : decode (xC k_M_count) 47 = .ok (.getfield 109, 3) := by decide +kernel
theorem d_M_count_50 : decode (xC k_M_count) 50 = .ok (.goto 40, 3) := by decide +kernel
theorem d_M_count_53 : decode (xC k_M_count) 53 = .ok (.iload_n 1, 1) := by decide +kernel
theorem d_M_count_54 : decode (xC k_M_count) 54 = .ok (.iconst 1, 1) := by decide +kernel
theorem d_M_count_55 : decode (xC k_M_count) 55 = .ok (.if_icmp .ne 10, 3) := by decide +kernel
theorem d_M_count_58 : decode (xC k_M_count) 58 = .ok (.aload_n 0, 1) := by decide +kernel
theorem d_M_count_59 : decode (xC k_M_count) 59 = .ok (.getfield 135, 3) := by decide +kernel
theorem d_M_count_62 : decode (xC k_M_count) 62 = .ok (.goto 28, 3) := by decide +kernel
theorem d_M_count_65 : decode (xC k_M_count) 65 = .ok (.iload_n 1, 1) := by decide +kernel
theorem d_M_count_66 : decode (xC k_M_count) 66 = .ok (.iconst 2, 1) := by decide +kernel
theorem d_M_count_67 : decode (xC k_M_count) 67 = .ok (.if_icmp .ne 10, 3) := by decide +kernel
theorem d_M_count_70 : decode (xC k_M_count) 70 = .ok (.aload_n 0, 1) := by decide +kernel
theorem d_M_count_71 : decode (xC k_M_count) 71 = .ok (.getfield 105, 3) := by decide +kernel
theorem d_M_count_74 : decode (xC k_M_count) 74 = .ok (.goto 16, 3) := by decide +kernel
theorem d_M_count_77 : decode (xC k_M_count) 77 = .ok (.iload_n 1, 1) := by decide +kernel
theorem d_M_count_78 : decode (xC k_M_count) 78 = .ok (.iconst 3, 1) := by decide +kernel
theorem d_M_count_79 : decode (xC k_M_count) 79 = .ok (.if_icmp .ne 10, 3) := by decide +kernel
theorem d_M_count_82 : decode (xC k_M_count) 82 = .ok (.aload_n 0, 1) := by decide +kernel
theorem d_M_count_83 : decode (xC k_M_count) 83 = .ok (.getfield 196, 3) := by decide +kernel
theorem d_M_count_86 : decode (xC k_M_count) 86 = .ok (.goto 4, 3) := by decide +kernel
theorem d_M_count_89 : decode (xC k_M_count) 89 = .ok (.iload_n 2, 1) := by decide +kernel
theorem d_M_count_90 : decode (xC k_M_count) 90 = .ok (.ireturn, 1) := by decide +kernel
