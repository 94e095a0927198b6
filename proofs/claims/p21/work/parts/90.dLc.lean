theorem dL_isCone_26 : decode cL_isCone 26 = .ok (.iload_n 2, 1) := by decide +kernel
theorem dL_isCone_27 : decode cL_isCone 27 = .ok (.invokestatic 82, 3) := by decide +kernel
theorem dL_isCone_30 : decode cL_isCone 30 = .ok (.istore 6, 2) := by decide +kernel
theorem dL_isCone_32 : decode cL_isCone 32 = .ok (.iload_n 3, 1) := by decide +kernel
theorem dL_isCone_33 : decode cL_isCone 33 = .ok (.iload 4, 2) := by decide +kernel
theorem dL_isCone_35 : decode cL_isCone 35 = .ok (.invokestatic 82, 3) := by decide +kernel
theorem dL_isCone_38 : decode cL_isCone 38 = .ok (.istore 7, 2) := by decide +kernel
theorem dL_isCone_40 : decode cL_isCone 40 = .ok (.iload_n 1, 1) := by decide +kernel
theorem dL_isCone_41 : decode cL_isCone 41 = .ok (.iload 4, 2) := by decide +kernel
theorem dL_isCone_43 : decode cL_isCone 43 = .ok (.imul, 1) := by decide +kernel
theorem dL_isCone_44 : decode cL_isCone 44 = .ok (.iload_n 2, 1) := by decide +kernel
theorem dL_isCone_45 : decode cL_isCone 45 = .ok (.iload_n 3, 1) := by decide +kernel
theorem dL_isCone_46 : decode cL_isCone 46 = .ok (.imul, 1) := by decide +kernel
theorem dL_isCone_47 : decode cL_isCone 47 = .ok (.isub, 1) := by decide +kernel
theorem dL_isCone_48 : decode cL_isCone 48 = .ok (.iload 6, 2) := by decide +kernel
theorem dL_isCone_50 : decode cL_isCone 50 = .ok (.idiv, 1) := by decide +kernel
theorem dL_isCone_51 : decode cL_isCone 51 = .ok (.iload 7, 2) := by decide +kernel
theorem dL_isCone_53 : decode cL_isCone 53 = .ok (.idiv, 1) := by decide +kernel
theorem dL_isCone_54 : decode cL_isCone 54 = .ok (.istore 8, 2) := by decide +kernel
theorem dL_isCone_56 : decode cL_isCone 56 = .ok (.iload 8, 2) := by decide +kernel
theorem dL_isCone_58 : decode cL_isCone 58 = .ok (.ifCond .ge 7, 3) := by decide +kernel
theorem dL_isCone_61 : decode cL_isCone 61 = .ok (.iconst (-1), 1) := by decide +kernel
theorem dL_isCone_62 : decode cL_isCone 62 = .ok (.goto 4, 3) := by decide +kernel
theorem dL_isCone_65 : decode cL_isCone 65 = .ok (.iconst 1, 1) := by decide +kernel
theorem dL_isCone_66 : decode cL_isCone 66 = .ok (.istore 9, 2) := by decide +kernel
theorem dL_isCone_68 : decode cL_isCone 68 = .ok (.iload 5, 2) := by decide +kernel
theorem dL_isCone_70 : decode cL_isCone 70 = .ok (.iconst 2, 1) := by decide +kernel
theorem dL_isCone_71 : decode cL_isCone 71 = .ok (.if_icmp .lt 119, 3) := by decide +kernel
theorem dL_isCone_74 : decode cL_isCone 74 = .ok (.aload_n 0, 1) := by decide +kernel
theorem dL_isCone_75 : decode cL_isCone 75 = .ok (.iload_n 1, 1) := by decide +kernel
theorem dL_isCone_76 : decode cL_isCone 76 = .ok (.iload_n 2, 1) := by decide +kernel
theorem dL_isCone_77 : decode cL_isCone 77 = .ok (.iload_n 3, 1) := by decide +kernel
theorem dL_isCone_78 : decode cL_isCone 78 = .ok (.iload 4, 2) := by decide +kernel
theorem dL_isCone_80 : decode cL_isCone 80 = .ok (.invokevirtual 85, 3) := by decide +kernel
theorem dL_isCone_83 : decode cL_isCone 83 = .ok (.iload 9, 2) := by decide +kernel
theorem dL_isCone_85 : decode cL_isCone 85 = .ok (.iload 8, 2) := by decide +kernel
theorem dL_isCone_87 : decode cL_isCone 87 = .ok (.imul, 1) := by decide +kernel
theorem dL_isCone_88 : decode cL_isCone 88 = .ok (.if_icmp .ne 102, 3) := by decide +kernel
theorem dL_isCone_91 : decode cL_isCone 91 = .ok (.aload_n 0, 1) := by decide +kernel
theorem dL_isCone_92 : decode cL_isCone 92 = .ok (.iload_n 1, 1) := by decide +kernel
theorem dL_isCone_93 : decode cL_isCone 93 = .ok (.iload_n 2, 1) := by decide +kernel
theorem dL_isCone_94 : decode cL_isCone 94 = .ok (.iload_n 3, 1) := by decide +kernel
theorem dL_isCone_95 : decode cL_isCone 95 = .ok (.iload 4, 2) := by decide +kernel
theorem dL_isCone_97 : decode cL_isCone 97 = .ok (.iconst (-1), 1) := by decide +kernel
theorem dL_isCone_98 : decode cL_isCone 98 = .ok (.iconst 0, 1) := by decide +kernel
theorem dL_isCone_99 : decode cL_isCone 99 = .ok (.invokevirtual 89, 3) := by decide +kernel
theorem dL_isCone_102 : decode cL_isCone 102 = .ok (.iload 5, 2) := by decide +kernel
theorem dL_isCone_104 : decode cL_isCone 104 = .ok (.if_icmp .ne 86, 3) := by decide +kernel
theorem dL_isCone_107 : decode cL_isCone 107 = .ok (.aload_n 0, 1) := by decide +kernel
theorem dL_isCone_108 : decode cL_isCone 108 = .ok (.iload_n 1, 1) := by decide +kernel
theorem dL_isCone_109 : decode cL_isCone 109 = .ok (.iload_n 2, 1) := by decide +kernel
theorem dL_isCone_110 : decode cL_isCone 110 = .ok (.iload_n 3, 1) := by decide +kernel
theorem dL_isCone_111 : decode cL_isCone 111 = .ok (.iload 4, 2) := by decide +kernel
theorem dL_isCone_113 : decode cL_isCone 113 = .ok (.iconst 0, 1) := by decide +kernel
theorem dL_isCone_114 : decode cL_isCone 114 = .ok (.iconst 1, 1) := by decide +kernel
theorem dL_isCone_115 : decode cL_isCone 115 = .ok (.invokevirtual 78, 3) := by decide +kernel
theorem dL_isCone_118 : decode cL_isCone 118 = .ok (.iload_n 1, 1) := by decide +kernel
theorem dL_isCone_119 : decode cL_isCone 119 = .ok (.iload 6, 2) := by decide +kernel
theorem dL_isCone_121 : decode cL_isCone 121 = .ok (.idiv, 1) := by decide +kernel
theorem dL_isCone_122 : decode cL_isCone 122 = .ok (.if_icmp .ne 68, 3) := by decide +kernel
theorem dL_isCone_125 : decode cL_isCone 125 = .ok (.aload_n 0, 1) := by decide +kernel
theorem dL_isCone_126 : decode cL_isCone 126 = .ok (.iload_n 1, 1) := by decide +kernel
theorem dL_isCone_127 : decode cL_isCone 127 = .ok (.iload_n 2, 1) := by decide +kernel
theorem dL_isCone_128 : decode cL_isCone 128 = .ok (.iload_n 3, 1) := by decide +kernel
theorem dL_isCone_129 : decode cL_isCone 129 = .ok (.iload 4, 2) := by decide +kernel
theorem dL_isCone_131 : decode cL_isCone 131 = .ok (.iconst 0, 1) := by decide +kernel
theorem dL_isCone_132 : decode cL_isCone 132 = .ok (.iconst 0, 1) := by decide +kernel
theorem dL_isCone_133 : decode cL_isCone 133 = .ok (.invokevirtual 78, 3) := by decide +kernel
theorem dL_isCone_136 : decode cL_isCone 136 = .ok (.iload_n 2, 1) := by decide +kernel
theorem dL_isCone_137 : decode cL_isCone 137 = .ok (.iload 6, 2) := by decide +kernel
theorem dL_isCone_139 : decode cL_isCone 139 = .ok (.idiv, 1) := by decide +kernel
theorem dL_isCone_140 : decode cL_isCone 140 = .ok (.if_icmp .ne 50, 3) := by decide +kernel
theorem dL_isCone_143 : decode cL_isCone 143 = .ok (.aload_n 0, 1) := by decide +kernel
theorem dL_isCone_144 : decode cL_isCone 144 = .ok (.iload_n 1, 1) := by decide +kernel
theorem dL_isCone_145 : decode cL_isCone 145 = .ok (.iload_n 2, 1) := by decide +kernel
theorem dL_isCone_146 : decode cL_isCone 146 = .ok (.iload_n 3, 1) := by decide +kernel
theorem dL_isCone_147 : decode cL_isCone 147 = .ok (.iload 4, 2) := by decide +kernel
theorem dL_isCone_149 : decode cL_isCone 149 = .ok (.iload 5, 2) := by decide +kernel
theorem dL_isCone_151 : decode cL_isCone 151 = .ok (.iconst 1, 1) := by decide +kernel
theorem dL_isCone_152 : decode cL_isCone 152 = .ok (.isub, 1) := by decide +kernel
theorem dL_isCone_153 : decode cL_isCone 153 = .ok (.iconst 1, 1) := by decide +kernel
theorem dL_isCone_154 : decode cL_isCone 154 = .ok (.invokevirtual 78, 3) := by decide +kernel
theorem dL_isCone_157 : decode cL_isCone 157 = .ok (.iload_n 3, 1) := by decide +kernel
theorem dL_isCone_158 : decode cL_isCone 158 = .ok (.iload 7, 2) := by decide +kernel
theorem dL_isCone_160 : decode cL_isCone 160 = .ok (.idiv, 1) := by decide +kernel
theorem dL_isCone_161 : decode cL_isCone 161 = .ok (.if_icmp .ne 29, 3) := by decide +kernel
theorem dL_isCone_164 : decode cL_isCone 164 = .ok (.aload_n 0, 1) := by decide +kernel
theorem dL_isCone_165 : decode cL_isCone 165 = .ok (.iload_n 1, 1) := by decide +kernel
theorem dL_isCone_166 : decode cL_isCone 166 = .ok (.iload_n 2, 1) := by decide +kernel
theorem dL_isCone_167 : decode cL_isCone 167 = .ok (.iload_n 3, 1) := by decide +kernel
theorem dL_isCone_168 : decode cL_isCone 168 = .ok (.iload 4, 2) := by decide +kernel
theorem dL_isCone_170 : decode cL_isCone 170 = .ok (.iload 5, 2) := by decide +kernel
theorem dL_isCone_172 : decode cL_isCone 172 = .ok (.iconst 1, 1) := by decide +kernel
theorem dL_isCone_173 : decode cL_isCone 173 = .ok (.isub, 1) := by decide +kernel
theorem dL_isCone_174 : decode cL_isCone 174 = .ok (.iconst 0, 1) := by decide +kernel
theorem dL_isCone_175 : decode cL_isCone 175 = .ok (.invokevirtual 78, 3) := by decide +kernel
theorem dL_isCone_178 : decode cL_isCone 178 = .ok (.iload 4, 2) := by decide +kernel
theorem dL_isCone_180 : decode cL_isCone 180 = .ok (.iload 7, 2) := by decide +kernel
theorem dL_isCone_182 : decode cL_isCone 182 = .ok (.idiv, 1) := by decide +kernel
theorem dL_isCone_183 : decode cL_isCone 183 = .ok (.if_icmp .ne 7, 3) := by decide +kernel
theorem dL_isCone_186 : decode cL_isCone 186 = .ok (.iconst 1, 1) := by decide +kernel
theorem dL_isCone_187 : decode cL_isCone 187 = .ok (.goto 4, 3) := by decide +kernel
theorem dL_isCone_190 : decode cL_isCone 190 = .ok (.iconst 0, 1) := by decide +kernel
theorem dL_isCone_191 : decode cL_isCone 191 = .ok (.istore 10, 2) := by decide +kernel
theorem dL_isCone_193 : decode cL_isCone 193 = .ok (.iconst 0, 1) := by decide +kernel
theorem dL_isCone_194 : decode cL_isCone 194 = .ok (.istore 11, 2) := by decide +kernel
theorem dL_isCone_196 : decode cL_isCone 196 = .ok (.iconst 0, 1) := by decide +kernel
theorem dL_isCone_197 : decode cL_isCone 197 = .ok (.istore 12, 2) := by decide +kernel
theorem dL_isCone_199 : decode cL_isCone 199 = .ok (.iconst 0, 1) := by decide +kernel
theorem dL_isCone_200 : decode cL_isCone 200 = .ok (.istore 13, 2) := by decide +kernel
theorem dL_isCone_202 : decode cL_isCone 202 = .ok (.iload 13, 2) := by decide +kernel
theorem dL_isCone_204 : decode cL_isCone 204 = .ok (.iload 5, 2) := by decide +kernel
theorem dL_isCone_206 : decode cL_isCone 206 = .ok (.if_icmp .ge 130, 3) := by decide +kernel
theorem dL_isCone_209 : decode cL_isCone 209 = .ok (.iload 10, 2) := by decide +kernel
theorem dL_isCone_211 : decode cL_isCone 211 = .ok (.ifCond .eq 125, 3) := by decide +kernel
theorem dL_isCone_214 : decode cL_isCone 214 = .ok (.aload_n 0, 1) := by decide +kernel
theorem dL_isCone_215 : decode cL_isCone 215 = .ok (.iload_n 1, 1) := by decide +kernel
theorem dL_isCone_216 : decode cL_isCone 216 = .ok (.iload_n 2, 1) := by decide +kernel
theorem dL_isCone_217 : decode cL_isCone 217 = .ok (.iload_n 3, 1) := by decide +kernel
theorem dL_isCone_218 : decode cL_isCone 218 = .ok (.iload 4, 2) := by decide +kernel
theorem dL_isCone_220 : decode cL_isCone 220 = .ok (.iload 13, 2) := by decide +kernel
theorem dL_isCone_222 : decode cL_isCone 222 = .ok (.iconst 1, 1) := by decide +kernel
theorem dL_isCone_223 : decode cL_isCone 223 = .ok (.invokevirtual 78, 3) := by decide +kernel
theorem dL_isCone_226 : decode cL_isCone 226 = .ok (.istore 14, 2) := by decide +kernel
theorem dL_isCone_228 : decode cL_isCone 228 = .ok (.aload_n 0, 1) := by decide +kernel
theorem dL_isCone_229 : decode cL_isCone 229 = .ok (.iload_n 1, 1) := by decide +kernel
theorem dL_isCone_230 : decode cL_isCone 230 = .ok (.iload_n 2, 1) := by decide +kernel
theorem dL_isCone_231 : decode cL_isCone 231 = .ok (.iload_n 3, 1) := by decide +kernel
theorem dL_isCone_232 : decode cL_isCone 232 = .ok (.iload 4, 2) := by decide +kernel
theorem dL_isCone_234 : decode cL_isCone 234 = .ok (.iload 13, 2) := by decide +kernel
theorem dL_isCone_236 : decode cL_isCone 236 = .ok (.iconst 0, 1) := by decide +kernel
theorem dL_isCone_237 : decode cL_isCone 237 = .ok (.invokevirtual 78, 3) := by decide +kernel
theorem dL_isCone_240 : decode cL_isCone 240 = .ok (.istore 15, 2) := by decide +kernel
theorem dL_isCone_242 : decode cL_isCone 242 = .ok (.aload_n 0, 1) := by decide +kernel
theorem dL_isCone_243 : decode cL_isCone 243 = .ok (.iload_n 1, 1) := by decide +kernel
theorem dL_isCone_244 : decode cL_isCone 244 = .ok (.iload_n 2, 1) := by decide +kernel
theorem dL_isCone_245 : decode cL_isCone 245 = .ok (.iload_n 3, 1) := by decide +kernel
theorem dL_isCone_246 : decode cL_isCone 246 = .ok (.iload 4, 2) := by decide +kernel
theorem dL_isCone_248 : decode cL_isCone 248 = .ok (.iload 13, 2) := by decide +kernel
theorem dL_isCone_250 : decode cL_isCone 250 = .ok (.iconst 1, 1) := by decide +kernel
theorem dL_isCone_251 : decode cL_isCone 251 = .ok (.invokevirtual 89, 3) := by decide +kernel
theorem dL_isCone_254 : decode cL_isCone 254 = .ok (.iload 14, 2) := by decide +kernel
theorem dL_isCone_256 : decode cL_isCone 256 = .ok (.if_icmp .ne 63, 3) := by decide +kernel
theorem dL_isCone_259 : decode cL_isCone 259 = .ok (.aload_n 0, 1) := by decide +kernel
theorem dL_isCone_260 : decode cL_isCone 260 = .ok (.iload_n 1, 1) := by decide +kernel
theorem dL_isCone_261 : decode cL_isCone 261 = .ok (.iload_n 2, 1) := by decide +kernel
theorem dL_isCone_262 : decode cL_isCone 262 = .ok (.iload_n 3, 1) := by decide +kernel
theorem dL_isCone_263 : decode cL_isCone 263 = .ok (.iload 4, 2) := by decide +kernel
theorem dL_isCone_265 : decode cL_isCone 265 = .ok (.iload 13, 2) := by decide +kernel
theorem dL_isCone_267 : decode cL_isCone 267 = .ok (.iconst 0, 1) := by decide +kernel
theorem dL_isCone_268 : decode cL_isCone 268 = .ok (.invokevirtual 89, 3) := by decide +kernel
theorem dL_isCone_271 : decode cL_isCone 271 = .ok (.iload 15, 2) := by decide +kernel
theorem dL_isCone_273 : decode cL_isCone 273 = .ok (.if_icmp .ne 46, 3) := by decide +kernel
theorem dL_isCone_276 : decode cL_isCone 276 = .ok (.iload 13, 2) := by decide +kernel
theorem dL_isCone_278 : decode cL_isCone 278 = .ok (.ifCond .eq 21, 3) := by decide +kernel
theorem dL_isCone_281 : decode cL_isCone 281 = .ok (.iload 9, 2) := by decide +kernel
theorem dL_isCone_283 : decode cL_isCone 283 = .ok (.iload 11, 2) := by decide +kernel
theorem dL_isCone_285 : decode cL_isCone 285 = .ok (.iload 15, 2) := by decide +kernel
theorem dL_isCone_287 : decode cL_isCone 287 = .ok (.imul, 1) := by decide +kernel
theorem dL_isCone_288 : decode cL_isCone 288 = .ok (.iload 12, 2) := by decide +kernel
theorem dL_isCone_290 : decode cL_isCone 290 = .ok (.iload 14, 2) := by decide +kernel
theorem dL_isCone_292 : decode cL_isCone 292 = .ok (.imul, 1) := by decide +kernel
theorem dL_isCone_293 : decode cL_isCone 293 = .ok (.isub, 1) := by decide +kernel
theorem dL_isCone_294 : decode cL_isCone 294 = .ok (.imul, 1) := by decide +kernel
theorem dL_isCone_295 : decode cL_isCone 295 = .ok (.iconst 1, 1) := by decide +kernel
theorem dL_isCone_296 : decode cL_isCone 296 = .ok (.if_icmp .ne 23, 3) := by decide +kernel
theorem dL_isCone_299 : decode cL_isCone 299 = .ok (.aload_n 0, 1) := by decide +kernel
theorem dL_isCone_300 : decode cL_isCone 300 = .ok (.iload_n 1, 1) := by decide +kernel
theorem dL_isCone_301 : decode cL_isCone 301 = .ok (.iload_n 2, 1) := by decide +kernel
theorem dL_isCone_302 : decode cL_isCone 302 = .ok (.iload_n 3, 1) := by decide +kernel
theorem dL_isCone_303 : decode cL_isCone 303 = .ok (.iload 4, 2) := by decide +kernel
theorem dL_isCone_305 : decode cL_isCone 305 = .ok (.invokevirtual 85, 3) := by decide +kernel
theorem dL_isCone_308 : decode cL_isCone 308 = .ok (.iconst 1, 1) := by decide +kernel
theorem dL_isCone_309 : decode cL_isCone 309 = .ok (.iadd, 1) := by decide +kernel
theorem dL_isCone_310 : decode cL_isCone 310 = .ok (.iload 5, 2) := by decide +kernel
theorem dL_isCone_312 : decode cL_isCone 312 = .ok (.if_icmp .lt 7, 3) := by decide +kernel
theorem dL_isCone_315 : decode cL_isCone 315 = .ok (.iconst 1, 1) := by decide +kernel
theorem dL_isCone_316 : decode cL_isCone 316 = .ok (.goto 4, 3) := by decide +kernel
theorem dL_isCone_319 : decode cL_isCone 319 = .ok (.iconst 0, 1) := by decide +kernel
theorem dL_isCone_320 : decode cL_isCone 320 = .ok (.istore 10, 2) := by decide +kernel
theorem dL_isCone_322 : decode cL_isCone 322 = .ok (.iload 14, 2) := by decide +kernel
theorem dL_isCone_324 : decode cL_isCone 324 = .ok (.istore 11, 2) := by decide +kernel
theorem dL_isCone_326 : decode cL_isCone 326 = .ok (.iload 15, 2) := by decide +kernel
theorem dL_isCone_328 : decode cL_isCone 328 = .ok (.istore 12, 2) := by decide +kernel
theorem dL_isCone_330 : decode cL_isCone 330 = .ok (.iinc 13 1, 3) := by decide +kernel
theorem dL_isCone_333 : decode cL_isCone 333 = .ok (.goto (-131), 3) := by decide +kernel
theorem dL_isCone_336 : decode cL_isCone 336 = .ok (.iload 10, 2) := by decide +kernel
theorem dL_isCone_338 : decode cL_isCone 338 = .ok (.ireturn, 1) := by decide +kernel
theorem dL_areCoins_0 : decode cL_areCoins 0 = .ok (.aload_n 0, 1) := by decide +kernel
theorem dL_areCoins_1 : decode cL_areCoins 1 = .ok (.invokestatic 92, 3) := by decide +kernel
theorem dL_areCoins_4 : decode cL_areCoins 4 = .ok (.istore_n 1, 1) := by decide +kernel
theorem dL_areCoins_5 : decode cL_areCoins 5 = .ok (.iconst 0, 1) := by decide +kernel
theorem dL_areCoins_6 : decode cL_areCoins 6 = .ok (.istore_n 2, 1) := by decide +kernel
theorem dL_areCoins_7 : decode cL_areCoins 7 = .ok (.iconst 0, 1) := by decide +kernel
theorem dL_areCoins_8 : decode cL_areCoins 8 = .ok (.istore_n 3, 1) := by decide +kernel
theorem dL_areCoins_9 : decode cL_areCoins 9 = .ok (.iload_n 3, 1) := by decide +kernel
theorem dL_areCoins_10 : decode cL_areCoins 10 = .ok (.sipush 200, 3) := by decide +kernel
theorem dL_areCoins_13 : decode cL_areCoins 13 = .ok (.if_icmp .gt 27, 3) := by decide +kernel
theorem dL_areCoins_16 : decode cL_areCoins 16 = .ok (.iload_n 2, 1) := by decide +kernel
theorem dL_areCoins_17 : decode cL_areCoins 17 = .ok (.aload_n 0, 1) := by decide +kernel
theorem dL_areCoins_18 : decode cL_areCoins 18 = .ok (.iload_n 3, 1) := by decide +kernel
theorem dL_areCoins_19 : decode cL_areCoins 19 = .ok (.invokevirtual 96, 3) := by decide +kernel
theorem dL_areCoins_22 : decode cL_areCoins 22 = .ok (.lconst 0, 1) := by decide +kernel
theorem dL_areCoins_23 : decode cL_areCoins 23 = .ok (.lcmp, 1) := by decide +kernel
theorem dL_areCoins_24 : decode cL_areCoins 24 = .ok (.ifCond .ne 7, 3) := by decide +kernel
theorem dL_areCoins_27 : decode cL_areCoins 27 = .ok (.iconst 1, 1) := by decide +kernel
theorem dL_areCoins_28 : decode cL_areCoins 28 = .ok (.goto 4, 3) := by decide +kernel
theorem dL_areCoins_31 : decode cL_areCoins 31 = .ok (.iconst 0, 1) := by decide +kernel
theorem dL_areCoins_32 : decode cL_areCoins 32 = .ok (.iadd, 1) := by decide +kernel
theorem dL_areCoins_33 : decode cL_areCoins 33 = .ok (.istore_n 2, 1) := by decide +kernel
theorem dL_areCoins_34 : decode cL_areCoins 34 = .ok (.iinc 3 1, 3) := by decide +kernel
theorem dL_areCoins_37 : decode cL_areCoins 37 = .ok (.goto (-28), 3) := by decide +kernel
theorem dL_areCoins_40 : decode cL_areCoins 40 = .ok (.iload_n 1, 1) := by decide +kernel
theorem dL_areCoins_41 : decode cL_areCoins 41 = .ok (.ifCond .ge 23, 3) := by decide +kernel
theorem dL_areCoins_44 : decode cL_areCoins 44 = .ok (.iload_n 2, 1) := by decide +kernel
theorem dL_areCoins_45 : decode cL_areCoins 45 = .ok (.ifCond .le 17, 3) := by decide +kernel
theorem dL_areCoins_48 : decode cL_areCoins 48 = .ok (.aload_n 0, 1) := by decide +kernel
theorem dL_areCoins_49 : decode cL_areCoins 49 = .ok (.iconst 0, 1) := by decide +kernel
theorem dL_areCoins_50 : decode cL_areCoins 50 = .ok (.invokevirtual 96, 3) := by decide +kernel
theorem dL_areCoins_53 : decode cL_areCoins 53 = .ok (.lconst 1, 1) := by decide +kernel
theorem dL_areCoins_54 : decode cL_areCoins 54 = .ok (.lcmp, 1) := by decide +kernel
theorem dL_areCoins_55 : decode cL_areCoins 55 = .ok (.ifCond .ne 7, 3) := by decide +kernel
theorem dL_areCoins_58 : decode cL_areCoins 58 = .ok (.iconst 1, 1) := by decide +kernel
theorem dL_areCoins_59 : decode cL_areCoins 59 = .ok (.goto 4, 3) := by decide +kernel
theorem dL_areCoins_62 : decode cL_areCoins 62 = .ok (.iconst 0, 1) := by decide +kernel
theorem dL_areCoins_63 : decode cL_areCoins 63 = .ok (.ireturn, 1) := by decide +kernel
theorem dL_areCoins_64 : decode cL_areCoins 64 = .ok (.aload_n 0, 1) := by decide +kernel
theorem dL_areCoins_65 : decode cL_areCoins 65 = .ok (.invokevirtual 100, 3) := by decide +kernel
theorem dL_areCoins_68 : decode cL_areCoins 68 = .ok (.iload_n 1, 1) := by decide +kernel
theorem dL_areCoins_69 : decode cL_areCoins 69 = .ok (.ifCond .ne 7, 3) := by decide +kernel
theorem dL_areCoins_72 : decode cL_areCoins 72 = .ok (.iconst (-1), 1) := by decide +kernel
theorem dL_areCoins_73 : decode cL_areCoins 73 = .ok (.goto 10, 3) := by decide +kernel
theorem dL_areCoins_76 : decode cL_areCoins 76 = .ok (.aload_n 0, 1) := by decide +kernel
theorem dL_areCoins_77 : decode cL_areCoins 77 = .ok (.iload_n 1, 1) := by decide +kernel
theorem dL_areCoins_78 : decode cL_areCoins 78 = .ok (.iconst 1, 1) := by decide +kernel
theorem dL_areCoins_79 : decode cL_areCoins 79 = .ok (.isub, 1) := by decide +kernel
theorem dL_areCoins_80 : decode cL_areCoins 80 = .ok (.invokevirtual 25, 3) := by decide +kernel
theorem dL_areCoins_83 : decode cL_areCoins 83 = .ok (.if_icmp .ne 7, 3) := by decide +kernel
theorem dL_areCoins_86 : decode cL_areCoins 86 = .ok (.iconst 1, 1) := by decide +kernel
theorem dL_areCoins_87 : decode cL_areCoins 87 = .ok (.goto 4, 3) := by decide +kernel
theorem dL_areCoins_90 : decode cL_areCoins 90 = .ok (.iconst 0, 1) := by decide +kernel
theorem dL_areCoins_91 : decode cL_areCoins 91 = .ok (.istore_n 3, 1) := by decide +kernel
theorem dL_areCoins_92 : decode cL_areCoins 92 = .ok (.iconst 0, 1) := by decide +kernel
theorem dL_areCoins_93 : decode cL_areCoins 93 = .ok (.istore 4, 2) := by decide +kernel
theorem dL_areCoins_95 : decode cL_areCoins 95 = .ok (.iconst 0, 1) := by decide +kernel
theorem dL_areCoins_96 : decode cL_areCoins 96 = .ok (.istore 5, 2) := by decide +kernel
theorem dL_areCoins_98 : decode cL_areCoins 98 = .ok (.iconst 0, 1) := by decide +kernel
theorem dL_areCoins_99 : decode cL_areCoins 99 = .ok (.istore 6, 2) := by decide +kernel
theorem dL_areCoins_101 : decode cL_areCoins 101 = .ok (.iload 6, 2) := by decide +kernel
theorem dL_areCoins_103 : decode cL_areCoins 103 = .ok (.iload_n 1, 1) := by decide +kernel
theorem dL_areCoins_104 : decode cL_areCoins 104 = .ok (.if_icmp .ge 82, 3) := by decide +kernel
theorem dL_areCoins_107 : decode cL_areCoins 107 = .ok (.iload 6, 2) := by decide +kernel
theorem dL_areCoins_109 : decode cL_areCoins 109 = .ok (.bipush 60, 2) := by decide +kernel
theorem dL_areCoins_111 : decode cL_areCoins 111 = .ok (.if_icmp .ge 75, 3) := by decide +kernel
theorem dL_areCoins_114 : decode cL_areCoins 114 = .ok (.iload_n 3, 1) := by decide +kernel
theorem dL_areCoins_115 : decode cL_areCoins 115 = .ok (.ifCond .eq 71, 3) := by decide +kernel
theorem dL_areCoins_118 : decode cL_areCoins 118 = .ok (.aload_n 0, 1) := by decide +kernel
theorem dL_areCoins_119 : decode cL_areCoins 119 = .ok (.iload 6, 2) := by decide +kernel
theorem dL_areCoins_121 : decode cL_areCoins 121 = .ok (.invokevirtual 25, 3) := by decide +kernel
theorem dL_areCoins_124 : decode cL_areCoins 124 = .ok (.istore 7, 2) := by decide +kernel
theorem dL_areCoins_126 : decode cL_areCoins 126 = .ok (.iload 7, 2) := by decide +kernel
theorem dL_areCoins_128 : decode cL_areCoins 128 = .ok (.iload 4, 2) := by decide +kernel
theorem dL_areCoins_130 : decode cL_areCoins 130 = .ok (.if_icmp .le 26, 3) := by decide +kernel
theorem dL_areCoins_133 : decode cL_areCoins 133 = .ok (.iload 7, 2) := by decide +kernel
theorem dL_areCoins_135 : decode cL_areCoins 135 = .ok (.sipush 1000, 3) := by decide +kernel
theorem dL_areCoins_138 : decode cL_areCoins 138 = .ok (.if_icmp .gt 14, 3) := by decide +kernel
theorem dL_areCoins_141 : decode cL_areCoins 141 = .ok (.aload_n 0, 1) := by decide +kernel
theorem dL_areCoins_142 : decode cL_areCoins 142 = .ok (.iload 7, 2) := by decide +kernel
theorem dL_areCoins_144 : decode cL_areCoins 144 = .ok (.invokevirtual 96, 3) := by decide +kernel
theorem dL_areCoins_147 : decode cL_areCoins 147 = .ok (.lconst 0, 1) := by decide +kernel
theorem dL_areCoins_148 : decode cL_areCoins 148 = .ok (.lcmp, 1) := by decide +kernel
theorem dL_areCoins_149 : decode cL_areCoins 149 = .ok (.ifCond .ne 7, 3) := by decide +kernel
theorem dL_areCoins_152 : decode cL_areCoins 152 = .ok (.iconst 1, 1) := by decide +kernel
theorem dL_areCoins_153 : decode cL_areCoins 153 = .ok (.goto 4, 3) := by decide +kernel
theorem dL_areCoins_156 : decode cL_areCoins 156 = .ok (.iconst 0, 1) := by decide +kernel
theorem dL_areCoins_157 : decode cL_areCoins 157 = .ok (.istore_n 3, 1) := by decide +kernel
theorem dL_areCoins_158 : decode cL_areCoins 158 = .ok (.iload 5, 2) := by decide +kernel
theorem dL_areCoins_160 : decode cL_areCoins 160 = .ok (.iload 7, 2) := by decide +kernel
theorem dL_areCoins_162 : decode cL_areCoins 162 = .ok (.sipush 200, 3) := by decide +kernel
theorem dL_areCoins_165 : decode cL_areCoins 165 = .ok (.if_icmp .gt 7, 3) := by decide +kernel
theorem dL_areCoins_168 : decode cL_areCoins 168 = .ok (.iconst 1, 1) := by decide +kernel
theorem dL_areCoins_169 : decode cL_areCoins 169 = .ok (.goto 4, 3) := by decide +kernel
theorem dL_areCoins_172 : decode cL_areCoins 172 = .ok (.iconst 0, 1) := by decide +kernel
theorem dL_areCoins_173 : decode cL_areCoins 173 = .ok (.iadd, 1) := by decide +kernel
theorem dL_areCoins_174 : decode cL_areCoins 174 = .ok (.istore 5, 2) := by decide +kernel
theorem dL_areCoins_176 : decode cL_areCoins 176 = .ok (.iload 7, 2) := by decide +kernel
theorem dL_areCoins_178 : decode cL_areCoins 178 = .ok (.istore 4, 2) := by decide +kernel
theorem dL_areCoins_180 : decode cL_areCoins 180 = .ok (.iinc 6 1, 3) := by decide +kernel
theorem dL_areCoins_183 : decode cL_areCoins 183 = .ok (.goto (-82), 3) := by decide +kernel
theorem dL_areCoins_186 : decode cL_areCoins 186 = .ok (.iload_n 3, 1) := by decide +kernel
theorem dL_areCoins_187 : decode cL_areCoins 187 = .ok (.ifCond .eq 19, 3) := by decide +kernel
theorem dL_areCoins_190 : decode cL_areCoins 190 = .ok (.iload_n 1, 1) := by decide +kernel
theorem dL_areCoins_191 : decode cL_areCoins 191 = .ok (.bipush 60, 2) := by decide +kernel
theorem dL_areCoins_193 : decode cL_areCoins 193 = .ok (.if_icmp .gt 9, 3) := by decide +kernel
theorem dL_areCoins_196 : decode cL_areCoins 196 = .ok (.iload 5, 2) := by decide +kernel
theorem dL_areCoins_198 : decode cL_areCoins 198 = .ok (.iload_n 2, 1) := by decide +kernel
theorem dL_areCoins_199 : decode cL_areCoins 199 = .ok (.if_icmp .ne 7, 3) := by decide +kernel
theorem dL_areCoins_202 : decode cL_areCoins 202 = .ok (.iconst 1, 1) := by decide +kernel
theorem dL_areCoins_203 : decode cL_areCoins 203 = .ok (.goto 4, 3) := by decide +kernel
theorem dL_areCoins_206 : decode cL_areCoins 206 = .ok (.iconst 0, 1) := by decide +kernel
