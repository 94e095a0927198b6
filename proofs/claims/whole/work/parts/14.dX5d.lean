theorem dX5_generates_108 : decode cX5_generates 108 = .ok (.iaload, 1) := by decide +kernel
theorem dX5_generates_109 : decode cX5_generates 109 = .ok (.iload 10, 2) := by decide +kernel
theorem dX5_generates_111 : decode cX5_generates 111 = .ok (.imul, 1) := by decide +kernel
theorem dX5_generates_112 : decode cX5_generates 112 = .ok (.isub, 1) := by decide +kernel
theorem dX5_generates_113 : decode cX5_generates 113 = .ok (.imul, 1) := by decide +kernel
theorem dX5_generates_114 : decode cX5_generates 114 = .ok (.iconst 1, 1) := by decide +kernel
theorem dX5_generates_115 : decode cX5_generates 115 = .ok (.if_icmp .ne 55, 3) := by decide +kernel
theorem dX5_generates_118 : decode cX5_generates 118 = .ok (.iload 7, 2) := by decide +kernel
theorem dX5_generates_120 : decode cX5_generates 120 = .ok (.iload 10, 2) := by decide +kernel
theorem dX5_generates_122 : decode cX5_generates 122 = .ok (.iload 9, 2) := by decide +kernel
theorem dX5_generates_124 : decode cX5_generates 124 = .ok (.imul, 1) := by decide +kernel
theorem dX5_generates_125 : decode cX5_generates 125 = .ok (.iload 11, 2) := by decide +kernel
theorem dX5_generates_127 : decode cX5_generates 127 = .ok (.iload 8, 2) := by decide +kernel
theorem dX5_generates_129 : decode cX5_generates 129 = .ok (.imul, 1) := by decide +kernel
theorem dX5_generates_130 : decode cX5_generates 130 = .ok (.isub, 1) := by decide +kernel
theorem dX5_generates_131 : decode cX5_generates 131 = .ok (.imul, 1) := by decide +kernel
theorem dX5_generates_132 : decode cX5_generates 132 = .ok (.ifCond .lt 38, 3) := by decide +kernel
theorem dX5_generates_135 : decode cX5_generates 135 = .ok (.iload 7, 2) := by decide +kernel
theorem dX5_generates_137 : decode cX5_generates 137 = .ok (.iload 10, 2) := by decide +kernel
theorem dX5_generates_139 : decode cX5_generates 139 = .ok (.aload_n 0, 1) := by decide +kernel
theorem dX5_generates_140 : decode cX5_generates 140 = .ok (.getfield 45, 3) := by decide +kernel
theorem dX5_generates_143 : decode cX5_generates 143 = .ok (.iconst 0, 1) := by decide +kernel
theorem dX5_generates_144 : decode cX5_generates 144 = .ok (.iaload, 1) := by decide +kernel
theorem dX5_generates_145 : decode cX5_generates 145 = .ok (.isub, 1) := by decide +kernel
theorem dX5_generates_146 : decode cX5_generates 146 = .ok (.iload 9, 2) := by decide +kernel
theorem dX5_generates_148 : decode cX5_generates 148 = .ok (.imul, 1) := by decide +kernel
theorem dX5_generates_149 : decode cX5_generates 149 = .ok (.iload 11, 2) := by decide +kernel
theorem dX5_generates_151 : decode cX5_generates 151 = .ok (.aload_n 0, 1) := by decide +kernel
theorem dX5_generates_152 : decode cX5_generates 152 = .ok (.getfield 48, 3) := by decide +kernel
theorem dX5_generates_155 : decode cX5_generates 155 = .ok (.iconst 0, 1) := by decide +kernel
theorem dX5_generates_156 : decode cX5_generates 156 = .ok (.iaload, 1) := by decide +kernel
theorem dX5_generates_157 : decode cX5_generates 157 = .ok (.isub, 1) := by decide +kernel
theorem dX5_generates_158 : decode cX5_generates 158 = .ok (.iload 8, 2) := by decide +kernel
theorem dX5_generates_160 : decode cX5_generates 160 = .ok (.imul, 1) := by decide +kernel
theorem dX5_generates_161 : decode cX5_generates 161 = .ok (.isub, 1) := by decide +kernel
theorem dX5_generates_162 : decode cX5_generates 162 = .ok (.imul, 1) := by decide +kernel
theorem dX5_generates_163 : decode cX5_generates 163 = .ok (.ifCond .ge 7, 3) := by decide +kernel
theorem dX5_generates_166 : decode cX5_generates 166 = .ok (.iconst 1, 1) := by decide +kernel
theorem dX5_generates_167 : decode cX5_generates 167 = .ok (.goto 4, 3) := by decide +kernel
theorem dX5_generates_170 : decode cX5_generates 170 = .ok (.iconst 0, 1) := by decide +kernel
theorem dX5_generates_171 : decode cX5_generates 171 = .ok (.istore 12, 2) := by decide +kernel
theorem dX5_generates_173 : decode cX5_generates 173 = .ok (.aload_n 0, 1) := by decide +kernel
theorem dX5_generates_174 : decode cX5_generates 174 = .ok (.getfield 45, 3) := by decide +kernel
theorem dX5_generates_177 : decode cX5_generates 177 = .ok (.iconst 1, 1) := by decide +kernel
theorem dX5_generates_178 : decode cX5_generates 178 = .ok (.iload 12, 2) := by decide +kernel
theorem dX5_generates_180 : decode cX5_generates 180 = .ok (.ifCond .eq 8, 3) := by decide +kernel
theorem dX5_generates_183 : decode cX5_generates 183 = .ok (.iload 10, 2) := by decide +kernel
theorem dX5_generates_185 : decode cX5_generates 185 = .ok (.goto 9, 3) := by decide +kernel
theorem dX5_generates_188 : decode cX5_generates 188 = .ok (.aload_n 0, 1) := by decide +kernel
theorem dX5_generates_189 : decode cX5_generates 189 = .ok (.getfield 45, 3) := by decide +kernel
theorem dX5_generates_192 : decode cX5_generates 192 = .ok (.iconst 1, 1) := by decide +kernel
theorem dX5_generates_193 : decode cX5_generates 193 = .ok (.iaload, 1) := by decide +kernel
theorem dX5_generates_194 : decode cX5_generates 194 = .ok (.iastore, 1) := by decide +kernel
theorem dX5_generates_195 : decode cX5_generates 195 = .ok (.aload_n 0, 1) := by decide +kernel
theorem dX5_generates_196 : decode cX5_generates 196 = .ok (.getfield 48, 3) := by decide +kernel
theorem dX5_generates_199 : decode cX5_generates 199 = .ok (.iconst 1, 1) := by decide +kernel
theorem dX5_generates_200 : decode cX5_generates 200 = .ok (.iload 12, 2) := by decide +kernel
theorem dX5_generates_202 : decode cX5_generates 202 = .ok (.ifCond .eq 8, 3) := by decide +kernel
theorem dX5_generates_205 : decode cX5_generates 205 = .ok (.iload 11, 2) := by decide +kernel
theorem dX5_generates_207 : decode cX5_generates 207 = .ok (.goto 9, 3) := by decide +kernel
theorem dX5_generates_210 : decode cX5_generates 210 = .ok (.aload_n 0, 1) := by decide +kernel
theorem dX5_generates_211 : decode cX5_generates 211 = .ok (.getfield 48, 3) := by decide +kernel
theorem dX5_generates_214 : decode cX5_generates 214 = .ok (.iconst 1, 1) := by decide +kernel
theorem dX5_generates_215 : decode cX5_generates 215 = .ok (.iaload, 1) := by decide +kernel
theorem dX5_generates_216 : decode cX5_generates 216 = .ok (.iastore, 1) := by decide +kernel
theorem dX5_generates_217 : decode cX5_generates 217 = .ok (.iinc 11 1, 3) := by decide +kernel
theorem dX5_generates_220 : decode cX5_generates 220 = .ok (.goto (-135), 3) := by decide +kernel
theorem dX5_generates_223 : decode cX5_generates 223 = .ok (.iinc 10 1, 3) := by decide +kernel
theorem dX5_generates_226 : decode cX5_generates 226 = .ok (.goto (-152), 3) := by decide +kernel
theorem dX5_generates_229 : decode cX5_generates 229 = .ok (.iconst 1, 1) := by decide +kernel
theorem dX5_generates_230 : decode cX5_generates 230 = .ok (.istore 10, 2) := by decide +kernel
theorem dX5_generates_232 : decode cX5_generates 232 = .ok (.aload_n 0, 1) := by decide +kernel
theorem dX5_generates_233 : decode cX5_generates 233 = .ok (.getfield 45, 3) := by decide +kernel
theorem dX5_generates_236 : decode cX5_generates 236 = .ok (.iload 10, 2) := by decide +kernel
theorem dX5_generates_238 : decode cX5_generates 238 = .ok (.iaload, 1) := by decide +kernel
theorem dX5_generates_239 : decode cX5_generates 239 = .ok (.iload 8, 2) := by decide +kernel
theorem dX5_generates_241 : decode cX5_generates 241 = .ok (.if_icmp .ne 15, 3) := by decide +kernel
theorem dX5_generates_244 : decode cX5_generates 244 = .ok (.aload_n 0, 1) := by decide +kernel
theorem dX5_generates_245 : decode cX5_generates 245 = .ok (.getfield 48, 3) := by decide +kernel
theorem dX5_generates_248 : decode cX5_generates 248 = .ok (.iload 10, 2) := by decide +kernel
theorem dX5_generates_250 : decode cX5_generates 250 = .ok (.iaload, 1) := by decide +kernel
theorem dX5_generates_251 : decode cX5_generates 251 = .ok (.iload 9, 2) := by decide +kernel
theorem dX5_generates_253 : decode cX5_generates 253 = .ok (.if_icmp .eq 135, 3) := by decide +kernel
theorem dX5_generates_256 : decode cX5_generates 256 = .ok (.iload 7, 2) := by decide +kernel
theorem dX5_generates_258 : decode cX5_generates 258 = .ok (.aload_n 0, 1) := by decide +kernel
theorem dX5_generates_259 : decode cX5_generates 259 = .ok (.getfield 45, 3) := by decide +kernel
theorem dX5_generates_262 : decode cX5_generates 262 = .ok (.iload 10, 2) := by decide +kernel
theorem dX5_generates_264 : decode cX5_generates 264 = .ok (.iconst 1, 1) := by decide +kernel
theorem dX5_generates_265 : decode cX5_generates 265 = .ok (.isub, 1) := by decide +kernel
theorem dX5_generates_266 : decode cX5_generates 266 = .ok (.iaload, 1) := by decide +kernel
theorem dX5_generates_267 : decode cX5_generates 267 = .ok (.iload 9, 2) := by decide +kernel
theorem dX5_generates_269 : decode cX5_generates 269 = .ok (.imul, 1) := by decide +kernel
theorem dX5_generates_270 : decode cX5_generates 270 = .ok (.aload_n 0, 1) := by decide +kernel
theorem dX5_generates_271 : decode cX5_generates 271 = .ok (.getfield 48, 3) := by decide +kernel
theorem dX5_generates_274 : decode cX5_generates 274 = .ok (.iload 10, 2) := by decide +kernel
theorem dX5_generates_276 : decode cX5_generates 276 = .ok (.iconst 1, 1) := by decide +kernel
theorem dX5_generates_277 : decode cX5_generates 277 = .ok (.isub, 1) := by decide +kernel
theorem dX5_generates_278 : decode cX5_generates 278 = .ok (.iaload, 1) := by decide +kernel
theorem dX5_generates_279 : decode cX5_generates 279 = .ok (.iload 8, 2) := by decide +kernel
theorem dX5_generates_281 : decode cX5_generates 281 = .ok (.imul, 1) := by decide +kernel
theorem dX5_generates_282 : decode cX5_generates 282 = .ok (.isub, 1) := by decide +kernel
theorem dX5_generates_283 : decode cX5_generates 283 = .ok (.imul, 1) := by decide +kernel
theorem dX5_generates_284 : decode cX5_generates 284 = .ok (.istore 11, 2) := by decide +kernel
theorem dX5_generates_286 : decode cX5_generates 286 = .ok (.iload 7, 2) := by decide +kernel
theorem dX5_generates_288 : decode cX5_generates 288 = .ok (.aload_n 0, 1) := by decide +kernel
theorem dX5_generates_289 : decode cX5_generates 289 = .ok (.getfield 45, 3) := by decide +kernel
theorem dX5_generates_292 : decode cX5_generates 292 = .ok (.iload 10, 2) := by decide +kernel
theorem dX5_generates_294 : decode cX5_generates 294 = .ok (.iaload, 1) := by decide +kernel
theorem dX5_generates_295 : decode cX5_generates 295 = .ok (.iload 9, 2) := by decide +kernel
theorem dX5_generates_297 : decode cX5_generates 297 = .ok (.imul, 1) := by decide +kernel
theorem dX5_generates_298 : decode cX5_generates 298 = .ok (.aload_n 0, 1) := by decide +kernel
theorem dX5_generates_299 : decode cX5_generates 299 = .ok (.getfield 48, 3) := by decide +kernel
theorem dX5_generates_302 : decode cX5_generates 302 = .ok (.iload 10, 2) := by decide +kernel
theorem dX5_generates_304 : decode cX5_generates 304 = .ok (.iaload, 1) := by decide +kernel
theorem dX5_generates_305 : decode cX5_generates 305 = .ok (.iload 8, 2) := by decide +kernel
theorem dX5_generates_307 : decode cX5_generates 307 = .ok (.imul, 1) := by decide +kernel
theorem dX5_generates_308 : decode cX5_generates 308 = .ok (.isub, 1) := by decide +kernel
theorem dX5_generates_309 : decode cX5_generates 309 = .ok (.imul, 1) := by decide +kernel
theorem dX5_generates_310 : decode cX5_generates 310 = .ok (.istore 12, 2) := by decide +kernel
theorem dX5_generates_312 : decode cX5_generates 312 = .ok (.iload 11, 2) := by decide +kernel
theorem dX5_generates_314 : decode cX5_generates 314 = .ok (.iload 12, 2) := by decide +kernel
theorem dX5_generates_316 : decode cX5_generates 316 = .ok (.iadd, 1) := by decide +kernel
theorem dX5_generates_317 : decode cX5_generates 317 = .ok (.iconst 1, 1) := by decide +kernel
theorem dX5_generates_318 : decode cX5_generates 318 = .ok (.isub, 1) := by decide +kernel
theorem dX5_generates_319 : decode cX5_generates 319 = .ok (.iload 12, 2) := by decide +kernel
theorem dX5_generates_321 : decode cX5_generates 321 = .ok (.idiv, 1) := by decide +kernel
theorem dX5_generates_322 : decode cX5_generates 322 = .ok (.istore 13, 2) := by decide +kernel
theorem dX5_generates_324 : decode cX5_generates 324 = .ok (.aload_n 0, 1) := by decide +kernel
theorem dX5_generates_325 : decode cX5_generates 325 = .ok (.getfield 45, 3) := by decide +kernel
theorem dX5_generates_328 : decode cX5_generates 328 = .ok (.iload 10, 2) := by decide +kernel
theorem dX5_generates_330 : decode cX5_generates 330 = .ok (.iconst 1, 1) := by decide +kernel
theorem dX5_generates_331 : decode cX5_generates 331 = .ok (.iadd, 1) := by decide +kernel
theorem dX5_generates_332 : decode cX5_generates 332 = .ok (.iload 13, 2) := by decide +kernel
theorem dX5_generates_334 : decode cX5_generates 334 = .ok (.aload_n 0, 1) := by decide +kernel
theorem dX5_generates_335 : decode cX5_generates 335 = .ok (.getfield 45, 3) := by decide +kernel
theorem dX5_generates_338 : decode cX5_generates 338 = .ok (.iload 10, 2) := by decide +kernel
theorem dX5_generates_340 : decode cX5_generates 340 = .ok (.iaload, 1) := by decide +kernel
theorem dX5_generates_341 : decode cX5_generates 341 = .ok (.imul, 1) := by decide +kernel
theorem dX5_generates_342 : decode cX5_generates 342 = .ok (.aload_n 0, 1) := by decide +kernel
theorem dX5_generates_343 : decode cX5_generates 343 = .ok (.getfield 45, 3) := by decide +kernel
theorem dX5_generates_346 : decode cX5_generates 346 = .ok (.iload 10, 2) := by decide +kernel
theorem dX5_generates_348 : decode cX5_generates 348 = .ok (.iconst 1, 1) := by decide +kernel
theorem dX5_generates_349 : decode cX5_generates 349 = .ok (.isub, 1) := by decide +kernel
theorem dX5_generates_350 : decode cX5_generates 350 = .ok (.iaload, 1) := by decide +kernel
theorem dX5_generates_351 : decode cX5_generates 351 = .ok (.isub, 1) := by decide +kernel
theorem dX5_generates_352 : decode cX5_generates 352 = .ok (.iastore, 1) := by decide +kernel
theorem dX5_generates_353 : decode cX5_generates 353 = .ok (.aload_n 0, 1) := by decide +kernel
theorem dX5_generates_354 : decode cX5_generates 354 = .ok (.getfield 48, 3) := by decide +kernel
theorem dX5_generates_357 : decode cX5_generates 357 = .ok (.iload 10, 2) := by decide +kernel
theorem dX5_generates_359 : decode cX5_generates 359 = .ok (.iconst 1, 1) := by decide +kernel
theorem dX5_generates_360 : decode cX5_generates 360 = .ok (.iadd, 1) := by decide +kernel
theorem dX5_generates_361 : decode cX5_generates 361 = .ok (.iload 13, 2) := by decide +kernel
theorem dX5_generates_363 : decode cX5_generates 363 = .ok (.aload_n 0, 1) := by decide +kernel
theorem dX5_generates_364 : decode cX5_generates 364 = .ok (.getfield 48, 3) := by decide +kernel
theorem dX5_generates_367 : decode cX5_generates 367 = .ok (.iload 10, 2) := by decide +kernel
theorem dX5_generates_369 : decode cX5_generates 369 = .ok (.iaload, 1) := by decide +kernel
theorem dX5_generates_370 : decode cX5_generates 370 = .ok (.imul, 1) := by decide +kernel
theorem dX5_generates_371 : decode cX5_generates 371 = .ok (.aload_n 0, 1) := by decide +kernel
theorem dX5_generates_372 : decode cX5_generates 372 = .ok (.getfield 48, 3) := by decide +kernel
theorem dX5_generates_375 : decode cX5_generates 375 = .ok (.iload 10, 2) := by decide +kernel
theorem dX5_generates_377 : decode cX5_generates 377 = .ok (.iconst 1, 1) := by decide +kernel
theorem dX5_generates_378 : decode cX5_generates 378 = .ok (.isub, 1) := by decide +kernel
theorem dX5_generates_379 : decode cX5_generates 379 = .ok (.iaload, 1) := by decide +kernel
theorem dX5_generates_380 : decode cX5_generates 380 = .ok (.isub, 1) := by decide +kernel
theorem dX5_generates_381 : decode cX5_generates 381 = .ok (.iastore, 1) := by decide +kernel
theorem dX5_generates_382 : decode cX5_generates 382 = .ok (.iinc 10 1, 3) := by decide +kernel
theorem dX5_generates_385 : decode cX5_generates 385 = .ok (.goto (-153), 3) := by decide +kernel
theorem dX5_generates_388 : decode cX5_generates 388 = .ok (.aload_n 0, 1) := by decide +kernel
theorem dX5_generates_389 : decode cX5_generates 389 = .ok (.iload 10, 2) := by decide +kernel
theorem dX5_generates_391 : decode cX5_generates 391 = .ok (.iconst 1, 1) := by decide +kernel
theorem dX5_generates_392 : decode cX5_generates 392 = .ok (.iadd, 1) := by decide +kernel
theorem dX5_generates_393 : decode cX5_generates 393 = .ok (.putfield 134, 3) := by decide +kernel
theorem dX5_generates_396 : decode cX5_generates 396 = .ok (.return_, 1) := by decide +kernel
theorem dX5_generated_0 : decode cX5_generated 0 = .ok (.iload_n 1, 1) := by decide +kernel
theorem dX5_generated_1 : decode cX5_generated 1 = .ok (.iload_n 2, 1) := by decide +kernel
theorem dX5_generated_2 : decode cX5_generated 2 = .ok (.iload_n 3, 1) := by decide +kernel
theorem dX5_generated_3 : decode cX5_generated 3 = .ok (.iload 4, 2) := by decide +kernel
theorem dX5_generated_5 : decode cX5_generated 5 = .ok (.invokestatic 126, 3) := by decide +kernel
theorem dX5_generated_8 : decode cX5_generated 8 = .ok (.istore 7, 2) := by decide +kernel
theorem dX5_generated_10 : decode cX5_generated 10 = .ok (.iload 7, 2) := by decide +kernel
theorem dX5_generated_12 : decode cX5_generated 12 = .ok (.ifCond .eq 12, 3) := by decide +kernel
theorem dX5_generated_15 : decode cX5_generated 15 = .ok (.aload_n 0, 1) := by decide +kernel
theorem dX5_generated_16 : decode cX5_generated 16 = .ok (.iload_n 1, 1) := by decide +kernel
theorem dX5_generated_17 : decode cX5_generated 17 = .ok (.iload_n 2, 1) := by decide +kernel
theorem dX5_generated_18 : decode cX5_generated 18 = .ok (.iload_n 3, 1) := by decide +kernel
theorem dX5_generated_19 : decode cX5_generated 19 = .ok (.iload 4, 2) := by decide +kernel
theorem dX5_generated_21 : decode cX5_generated 21 = .ok (.invokevirtual 137, 3) := by decide +kernel
theorem dX5_generated_24 : decode cX5_generated 24 = .ok (.aload_n 0, 1) := by decide +kernel
theorem dX5_generated_25 : decode cX5_generated 25 = .ok (.iload 5, 2) := by decide +kernel
theorem dX5_generated_27 : decode cX5_generated 27 = .ok (.iconst (-1), 1) := by decide +kernel
theorem dX5_generated_28 : decode cX5_generated 28 = .ok (.if_icmp .lt 17, 3) := by decide +kernel
theorem dX5_generated_31 : decode cX5_generated 31 = .ok (.iload 7, 2) := by decide +kernel
theorem dX5_generated_33 : decode cX5_generated 33 = .ok (.ifCond .eq 16, 3) := by decide +kernel
theorem dX5_generated_36 : decode cX5_generated 36 = .ok (.iload 5, 2) := by decide +kernel
theorem dX5_generated_38 : decode cX5_generated 38 = .ok (.aload_n 0, 1) := by decide +kernel
theorem dX5_generated_39 : decode cX5_generated 39 = .ok (.getfield 134, 3) := by decide +kernel
theorem dX5_generated_42 : decode cX5_generated 42 = .ok (.if_icmp .lt 7, 3) := by decide +kernel
theorem dX5_generated_45 : decode cX5_generated 45 = .ok (.iconst 1, 1) := by decide +kernel
theorem dX5_generated_46 : decode cX5_generated 46 = .ok (.goto 13, 3) := by decide +kernel
theorem dX5_generated_49 : decode cX5_generated 49 = .ok (.iload 7, 2) := by decide +kernel
theorem dX5_generated_51 : decode cX5_generated 51 = .ok (.ifCond .ne 7, 3) := by decide +kernel
theorem dX5_generated_54 : decode cX5_generated 54 = .ok (.iconst 2, 1) := by decide +kernel
theorem dX5_generated_55 : decode cX5_generated 55 = .ok (.goto 4, 3) := by decide +kernel
theorem dX5_generated_58 : decode cX5_generated 58 = .ok (.iconst 0, 1) := by decide +kernel
theorem dX5_generated_59 : decode cX5_generated 59 = .ok (.putfield 51, 3) := by decide +kernel
theorem dX5_generated_62 : decode cX5_generated 62 = .ok (.aload_n 0, 1) := by decide +kernel
theorem dX5_generated_63 : decode cX5_generated 63 = .ok (.getfield 51, 3) := by decide +kernel
theorem dX5_generated_66 : decode cX5_generated 66 = .ok (.ifCond .eq 5, 3) := by decide +kernel
theorem dX5_generated_69 : decode cX5_generated 69 = .ok (.iconst 0, 1) := by decide +kernel
theorem dX5_generated_70 : decode cX5_generated 70 = .ok (.ireturn, 1) := by decide +kernel
theorem dX5_generated_71 : decode cX5_generated 71 = .ok (.iload 5, 2) := by decide +kernel
theorem dX5_generated_73 : decode cX5_generated 73 = .ok (.iconst (-1), 1) := by decide +kernel
theorem dX5_generated_74 : decode cX5_generated 74 = .ok (.if_icmp .ne 10, 3) := by decide +kernel
theorem dX5_generated_77 : decode cX5_generated 77 = .ok (.aload_n 0, 1) := by decide +kernel
theorem dX5_generated_78 : decode cX5_generated 78 = .ok (.getfield 134, 3) := by decide +kernel
theorem dX5_generated_81 : decode cX5_generated 81 = .ok (.goto 25, 3) := by decide +kernel
theorem dX5_generated_84 : decode cX5_generated 84 = .ok (.iload 6, 2) := by decide +kernel
theorem dX5_generated_86 : decode cX5_generated 86 = .ok (.ifCond .eq 13, 3) := by decide +kernel
theorem dX5_generated_89 : decode cX5_generated 89 = .ok (.aload_n 0, 1) := by decide +kernel
theorem dX5_generated_90 : decode cX5_generated 90 = .ok (.getfield 45, 3) := by decide +kernel
theorem dX5_generated_93 : decode cX5_generated 93 = .ok (.iload 5, 2) := by decide +kernel
theorem dX5_generated_95 : decode cX5_generated 95 = .ok (.iaload, 1) := by decide +kernel
theorem dX5_generated_96 : decode cX5_generated 96 = .ok (.goto 10, 3) := by decide +kernel
theorem dX5_generated_99 : decode cX5_generated 99 = .ok (.aload_n 0, 1) := by decide +kernel
theorem dX5_generated_100 : decode cX5_generated 100 = .ok (.getfield 48, 3) := by decide +kernel
theorem dX5_generated_103 : decode cX5_generated 103 = .ok (.iload 5, 2) := by decide +kernel
theorem dX5_generated_105 : decode cX5_generated 105 = .ok (.iaload, 1) := by decide +kernel
theorem dX5_generated_106 : decode cX5_generated 106 = .ok (.ireturn, 1) := by decide +kernel
theorem dX5_generator_0 : decode cX5_generator 0 = .ok (.aload_n 0, 1) := by decide +kernel
theorem dX5_generator_1 : decode cX5_generator 1 = .ok (.iload_n 1, 1) := by decide +kernel
theorem dX5_generator_2 : decode cX5_generator 2 = .ok (.iload_n 2, 1) := by decide +kernel
theorem dX5_generator_3 : decode cX5_generator 3 = .ok (.iload_n 3, 1) := by decide +kernel
theorem dX5_generator_4 : decode cX5_generator 4 = .ok (.iload 4, 2) := by decide +kernel
theorem dX5_generator_6 : decode cX5_generator 6 = .ok (.iload 5, 2) := by decide +kernel
theorem dX5_generator_8 : decode cX5_generator 8 = .ok (.iload 6, 2) := by decide +kernel
theorem dX5_generator_10 : decode cX5_generator 10 = .ok (.invokevirtual 141, 3) := by decide +kernel
theorem dX5_generator_13 : decode cX5_generator 13 = .ok (.ireturn, 1) := by decide +kernel
theorem dX5_generatorAnew_0 : decode cX5_generatorAnew 0 = .ok (.aload_n 0, 1) := by decide +kernel
theorem dX5_generatorAnew_1 : decode cX5_generatorAnew 1 = .ok (.iload_n 1, 1) := by decide +kernel
theorem dX5_generatorAnew_2 : decode cX5_generatorAnew 2 = .ok (.iload_n 2, 1) := by decide +kernel
theorem dX5_generatorAnew_3 : decode cX5_generatorAnew 3 = .ok (.iload_n 3, 1) := by decide +kernel
theorem dX5_generatorAnew_4 : decode cX5_generatorAnew 4 = .ok (.iload 4, 2) := by decide +kernel
theorem dX5_generatorAnew_6 : decode cX5_generatorAnew 6 = .ok (.iload 5, 2) := by decide +kernel
theorem dX5_generatorAnew_8 : decode cX5_generatorAnew 8 = .ok (.iload 6, 2) := by decide +kernel
theorem dX5_generatorAnew_10 : decode cX5_generatorAnew 10 = .ok (.invokevirtual 141, 3) := by decide +kernel
theorem dX5_generatorAnew_13 : decode cX5_generatorAnew 13 = .ok (.ireturn, 1) := by decide +kernel
theorem dX5_coin_0 : decode cX5_coin 0 = .ok (.aload_n 0, 1) := by decide +kernel
theorem dX5_coin_1 : decode cX5_coin 1 = .ok (.iload_n 1, 1) := by decide +kernel
theorem dX5_coin_2 : decode cX5_coin 2 = .ok (.iconst 1, 1) := by decide +kernel
theorem dX5_coin_3 : decode cX5_coin 3 = .ok (.bipush 60, 2) := by decide +kernel
theorem dX5_coin_5 : decode cX5_coin 5 = .ok (.invokestatic 58, 3) := by decide +kernel
theorem dX5_coin_8 : decode cX5_coin 8 = .ok (.ifCond .ne 7, 3) := by decide +kernel
theorem dX5_coin_11 : decode cX5_coin 11 = .ok (.iconst 1, 1) := by decide +kernel
theorem dX5_coin_12 : decode cX5_coin 12 = .ok (.goto 26, 3) := by decide +kernel
theorem dX5_coin_15 : decode cX5_coin 15 = .ok (.aload_n 0, 1) := by decide +kernel
theorem dX5_coin_16 : decode cX5_coin 16 = .ok (.getfield 35, 3) := by decide +kernel
theorem dX5_coin_19 : decode cX5_coin 19 = .ok (.iload_n 1, 1) := by decide +kernel
theorem dX5_coin_20 : decode cX5_coin 20 = .ok (.baload, 1) := by decide +kernel
theorem dX5_coin_21 : decode cX5_coin 21 = .ok (.ifCond .ne 16, 3) := by decide +kernel
theorem dX5_coin_24 : decode cX5_coin 24 = .ok (.aload_n 0, 1) := by decide +kernel
theorem dX5_coin_25 : decode cX5_coin 25 = .ok (.getfield 145, 3) := by decide +kernel
theorem dX5_coin_28 : decode cX5_coin 28 = .ok (.bipush 6, 2) := by decide +kernel
theorem dX5_coin_30 : decode cX5_coin 30 = .ok (.if_icmp .ne 7, 3) := by decide +kernel
theorem dX5_coin_33 : decode cX5_coin 33 = .ok (.iconst 2, 1) := by decide +kernel
theorem dX5_coin_34 : decode cX5_coin 34 = .ok (.goto 4, 3) := by decide +kernel
theorem dX5_coin_37 : decode cX5_coin 37 = .ok (.iconst 0, 1) := by decide +kernel
theorem dX5_coin_38 : decode cX5_coin 38 = .ok (.putfield 51, 3) := by decide +kernel
theorem dX5_coin_41 : decode cX5_coin 41 = .ok (.aload_n 0, 1) := by decide +kernel
theorem dX5_coin_42 : decode cX5_coin 42 = .ok (.getfield 51, 3) := by decide +kernel
theorem dX5_coin_45 : decode cX5_coin 45 = .ok (.ifCond .eq 5, 3) := by decide +kernel
theorem dX5_coin_48 : decode cX5_coin 48 = .ok (.iconst 0, 1) := by decide +kernel
theorem dX5_coin_49 : decode cX5_coin 49 = .ok (.ireturn, 1) := by decide +kernel
theorem dX5_coin_50 : decode cX5_coin 50 = .ok (.aload_n 0, 1) := by decide +kernel
theorem dX5_coin_51 : decode cX5_coin 51 = .ok (.dup, 1) := by decide +kernel
theorem dX5_coin_52 : decode cX5_coin 52 = .ok (.getfield 145, 3) := by decide +kernel
theorem dX5_coin_55 : decode cX5_coin 55 = .ok (.aload_n 0, 1) := by decide +kernel
theorem dX5_coin_56 : decode cX5_coin 56 = .ok (.getfield 35, 3) := by decide +kernel
theorem dX5_coin_59 : decode cX5_coin 59 = .ok (.iload_n 1, 1) := by decide +kernel
theorem dX5_coin_60 : decode cX5_coin 60 = .ok (.baload, 1) := by decide +kernel
theorem dX5_coin_61 : decode cX5_coin 61 = .ok (.ifCond .eq 7, 3) := by decide +kernel
theorem dX5_coin_64 : decode cX5_coin 64 = .ok (.iconst (-1), 1) := by decide +kernel
theorem dX5_coin_65 : decode cX5_coin 65 = .ok (.goto 4, 3) := by decide +kernel
theorem dX5_coin_68 : decode cX5_coin 68 = .ok (.iconst 1, 1) := by decide +kernel
theorem dX5_coin_69 : decode cX5_coin 69 = .ok (.iadd, 1) := by decide +kernel
theorem dX5_coin_70 : decode cX5_coin 70 = .ok (.putfield 145, 3) := by decide +kernel
theorem dX5_coin_73 : decode cX5_coin 73 = .ok (.aload_n 0, 1) := by decide +kernel
theorem dX5_coin_74 : decode cX5_coin 74 = .ok (.getfield 35, 3) := by decide +kernel
theorem dX5_coin_77 : decode cX5_coin 77 = .ok (.iload_n 1, 1) := by decide +kernel
theorem dX5_coin_78 : decode cX5_coin 78 = .ok (.aload_n 0, 1) := by decide +kernel
theorem dX5_coin_79 : decode cX5_coin 79 = .ok (.getfield 35, 3) := by decide +kernel
theorem dX5_coin_82 : decode cX5_coin 82 = .ok (.iload_n 1, 1) := by decide +kernel
theorem dX5_coin_83 : decode cX5_coin 83 = .ok (.baload, 1) := by decide +kernel
theorem dX5_coin_84 : decode cX5_coin 84 = .ok (.ifCond .ne 7, 3) := by decide +kernel
theorem dX5_coin_87 : decode cX5_coin 87 = .ok (.iconst 1, 1) := by decide +kernel
theorem dX5_coin_88 : decode cX5_coin 88 = .ok (.goto 4, 3) := by decide +kernel
theorem dX5_coin_91 : decode cX5_coin 91 = .ok (.iconst 0, 1) := by decide +kernel
theorem dX5_coin_92 : decode cX5_coin 92 = .ok (.bastore, 1) := by decide +kernel
theorem dX5_coin_93 : decode cX5_coin 93 = .ok (.aload_n 0, 1) := by decide +kernel
theorem dX5_coin_94 : decode cX5_coin 94 = .ok (.getfield 145, 3) := by decide +kernel
theorem dX5_coin_97 : decode cX5_coin 97 = .ok (.ireturn, 1) := by decide +kernel
theorem dX5_ways_0 : decode cX5_ways 0 = .ok (.aload_n 0, 1) := by decide +kernel
theorem dX5_ways_1 : decode cX5_ways 1 = .ok (.iload_n 1, 1) := by decide +kernel
theorem dX5_ways_2 : decode cX5_ways 2 = .ok (.iconst 0, 1) := by decide +kernel
theorem dX5_ways_3 : decode cX5_ways 3 = .ok (.sipush 1000, 3) := by decide +kernel
theorem dX5_ways_6 : decode cX5_ways 6 = .ok (.invokestatic 58, 3) := by decide +kernel
theorem dX5_ways_9 : decode cX5_ways 9 = .ok (.ifCond .eq 7, 3) := by decide +kernel
theorem dX5_ways_12 : decode cX5_ways 12 = .ok (.iconst 0, 1) := by decide +kernel
theorem dX5_ways_13 : decode cX5_ways 13 = .ok (.goto 4, 3) := by decide +kernel
theorem dX5_ways_16 : decode cX5_ways 16 = .ok (.iconst 1, 1) := by decide +kernel
theorem dX5_ways_17 : decode cX5_ways 17 = .ok (.putfield 51, 3) := by decide +kernel
theorem dX5_ways_20 : decode cX5_ways 20 = .ok (.aload_n 0, 1) := by decide +kernel
theorem dX5_ways_21 : decode cX5_ways 21 = .ok (.getfield 51, 3) := by decide +kernel
theorem dX5_ways_24 : decode cX5_ways 24 = .ok (.ifCond .eq 5, 3) := by decide +kernel
theorem dX5_ways_27 : decode cX5_ways 27 = .ok (.lconst 0, 1) := by decide +kernel
theorem dX5_ways_28 : decode cX5_ways 28 = .ok (.lreturn, 1) := by decide +kernel
theorem dX5_ways_29 : decode cX5_ways 29 = .ok (.iconst 0, 1) := by decide +kernel
theorem dX5_ways_30 : decode cX5_ways 30 = .ok (.istore_n 2, 1) := by decide +kernel
theorem dX5_ways_31 : decode cX5_ways 31 = .ok (.iload_n 2, 1) := by decide +kernel
theorem dX5_ways_32 : decode cX5_ways 32 = .ok (.iload_n 1, 1) := by decide +kernel
theorem dX5_ways_33 : decode cX5_ways 33 = .ok (.if_icmp .gt 24, 3) := by decide +kernel
theorem dX5_ways_36 : decode cX5_ways 36 = .ok (.aload_n 0, 1) := by decide +kernel
theorem dX5_ways_37 : decode cX5_ways 37 = .ok (.getfield 39, 3) := by decide +kernel
theorem dX5_ways_40 : decode cX5_ways 40 = .ok (.iload_n 2, 1) := by decide +kernel
theorem dX5_ways_41 : decode cX5_ways 41 = .ok (.iload_n 2, 1) := by decide +kernel
theorem dX5_ways_42 : decode cX5_ways 42 = .ok (.ifCond .ne 7, 3) := by decide +kernel
theorem dX5_ways_45 : decode cX5_ways 45 = .ok (.lconst 1, 1) := by decide +kernel
theorem dX5_ways_46 : decode cX5_ways 46 = .ok (.goto 4, 3) := by decide +kernel
theorem dX5_ways_49 : decode cX5_ways 49 = .ok (.lconst 0, 1) := by decide +kernel
theorem dX5_ways_50 : decode cX5_ways 50 = .ok (.lastore, 1) := by decide +kernel
theorem dX5_ways_51 : decode cX5_ways 51 = .ok (.iinc 2 1, 3) := by decide +kernel
theorem dX5_ways_54 : decode cX5_ways 54 = .ok (.goto (-23), 3) := by decide +kernel
theorem dX5_ways_57 : decode cX5_ways 57 = .ok (.iconst 1, 1) := by decide +kernel
theorem dX5_ways_58 : decode cX5_ways 58 = .ok (.istore_n 2, 1) := by decide +kernel
theorem dX5_ways_59 : decode cX5_ways 59 = .ok (.iload_n 2, 1) := by decide +kernel
theorem dX5_ways_60 : decode cX5_ways 60 = .ok (.bipush 60, 2) := by decide +kernel
theorem dX5_ways_62 : decode cX5_ways 62 = .ok (.if_icmp .gt 48, 3) := by decide +kernel
theorem dX5_ways_65 : decode cX5_ways 65 = .ok (.iload_n 2, 1) := by decide +kernel
theorem dX5_ways_66 : decode cX5_ways 66 = .ok (.istore_n 3, 1) := by decide +kernel
theorem dX5_ways_67 : decode cX5_ways 67 = .ok (.iload_n 3, 1) := by decide +kernel
theorem dX5_ways_68 : decode cX5_ways 68 = .ok (.iload_n 1, 1) := by decide +kernel
theorem dX5_ways_69 : decode cX5_ways 69 = .ok (.if_icmp .gt 35, 3) := by decide +kernel
theorem dX5_ways_72 : decode cX5_ways 72 = .ok (.aload_n 0, 1) := by decide +kernel
theorem dX5_ways_73 : decode cX5_ways 73 = .ok (.getfield 35, 3) := by decide +kernel
theorem dX5_ways_76 : decode cX5_ways 76 = .ok (.iload_n 2, 1) := by decide +kernel
theorem dX5_ways_77 : decode cX5_ways 77 = .ok (.baload, 1) := by decide +kernel
theorem dX5_ways_78 : decode cX5_ways 78 = .ok (.ifCond .eq 26, 3) := by decide +kernel
theorem dX5_ways_81 : decode cX5_ways 81 = .ok (.aload_n 0, 1) := by decide +kernel
theorem dX5_ways_82 : decode cX5_ways 82 = .ok (.getfield 39, 3) := by decide +kernel
theorem dX5_ways_85 : decode cX5_ways 85 = .ok (.iload_n 3, 1) := by decide +kernel
theorem dX5_ways_86 : decode cX5_ways 86 = .ok (.dup2, 1) := by decide +kernel
theorem dX5_ways_87 : decode cX5_ways 87 = .ok (.laload, 1) := by decide +kernel
theorem dX5_ways_88 : decode cX5_ways 88 = .ok (.aload_n 0, 1) := by decide +kernel
theorem dX5_ways_89 : decode cX5_ways 89 = .ok (.getfield 39, 3) := by decide +kernel
theorem dX5_ways_92 : decode cX5_ways 92 = .ok (.iload_n 3, 1) := by decide +kernel
theorem dX5_ways_93 : decode cX5_ways 93 = .ok (.iload_n 2, 1) := by decide +kernel
theorem dX5_ways_94 : decode cX5_ways 94 = .ok (.isub, 1) := by decide +kernel
theorem dX5_ways_95 : decode cX5_ways 95 = .ok (.laload, 1) := by decide +kernel
theorem dX5_ways_96 : decode cX5_ways 96 = .ok (.ladd, 1) := by decide +kernel
theorem dX5_ways_97 : decode cX5_ways 97 = .ok (.lastore, 1) := by decide +kernel
theorem dX5_ways_98 : decode cX5_ways 98 = .ok (.iinc 3 1, 3) := by decide +kernel
theorem dX5_ways_101 : decode cX5_ways 101 = .ok (.goto (-34), 3) := by decide +kernel
theorem dX5_ways_104 : decode cX5_ways 104 = .ok (.iinc 2 1, 3) := by decide +kernel
theorem dX5_ways_107 : decode cX5_ways 107 = .ok (.goto (-48), 3) := by decide +kernel
theorem dX5_ways_110 : decode cX5_ways 110 = .ok (.aload_n 0, 1) := by decide +kernel
theorem dX5_ways_111 : decode cX5_ways 111 = .ok (.getfield 39, 3) := by decide +kernel
theorem dX5_ways_114 : decode cX5_ways 114 = .ok (.iload_n 1, 1) := by decide +kernel
theorem dX5_ways_115 : decode cX5_ways 115 = .ok (.laload, 1) := by decide +kernel
theorem dX5_ways_116 : decode cX5_ways 116 = .ok (.lreturn, 1) := by decide +kernel
theorem dX5_hasEnd_0 : decode cX5_hasEnd 0 = .ok (.iconst 0, 1) := by decide +kernel
theorem dX5_hasEnd_1 : decode cX5_hasEnd 1 = .ok (.istore_n 1, 1) := by decide +kernel
theorem dX5_hasEnd_2 : decode cX5_hasEnd 2 = .ok (.iconst 1, 1) := by decide +kernel
theorem dX5_hasEnd_3 : decode cX5_hasEnd 3 = .ok (.istore_n 2, 1) := by decide +kernel
theorem dX5_hasEnd_4 : decode cX5_hasEnd 4 = .ok (.iload_n 2, 1) := by decide +kernel
theorem dX5_hasEnd_5 : decode cX5_hasEnd 5 = .ok (.bipush 60, 2) := by decide +kernel
theorem dX5_hasEnd_7 : decode cX5_hasEnd 7 = .ok (.if_icmp .gt 28, 3) := by decide +kernel
theorem dX5_hasEnd_10 : decode cX5_hasEnd 10 = .ok (.aload_n 0, 1) := by decide +kernel
theorem dX5_hasEnd_11 : decode cX5_hasEnd 11 = .ok (.getfield 35, 3) := by decide +kernel
theorem dX5_hasEnd_14 : decode cX5_hasEnd 14 = .ok (.iload_n 2, 1) := by decide +kernel
theorem dX5_hasEnd_15 : decode cX5_hasEnd 15 = .ok (.baload, 1) := by decide +kernel
theorem dX5_hasEnd_16 : decode cX5_hasEnd 16 = .ok (.ifCond .eq 11, 3) := by decide +kernel
theorem dX5_hasEnd_19 : decode cX5_hasEnd 19 = .ok (.iload_n 1, 1) := by decide +kernel
theorem dX5_hasEnd_20 : decode cX5_hasEnd 20 = .ok (.iload_n 2, 1) := by decide +kernel
theorem dX5_hasEnd_21 : decode cX5_hasEnd 21 = .ok (.invokestatic 130, 3) := by decide +kernel
theorem dX5_hasEnd_24 : decode cX5_hasEnd 24 = .ok (.goto 4, 3) := by decide +kernel
theorem dX5_hasEnd_27 : decode cX5_hasEnd 27 = .ok (.iload_n 1, 1) := by decide +kernel
theorem dX5_hasEnd_28 : decode cX5_hasEnd 28 = .ok (.istore_n 1, 1) := by decide +kernel
theorem dX5_hasEnd_29 : decode cX5_hasEnd 29 = .ok (.iinc 2 1, 3) := by decide +kernel
theorem dX5_hasEnd_32 : decode cX5_hasEnd 32 = .ok (.goto (-28), 3) := by decide +kernel
theorem dX5_hasEnd_35 : decode cX5_hasEnd 35 = .ok (.iload_n 1, 1) := by decide +kernel
theorem dX5_hasEnd_36 : decode cX5_hasEnd 36 = .ok (.iconst 1, 1) := by decide +kernel
theorem dX5_hasEnd_37 : decode cX5_hasEnd 37 = .ok (.if_icmp .ne 7, 3) := by decide +kernel
theorem dX5_hasEnd_40 : decode cX5_hasEnd 40 = .ok (.iconst 1, 1) := by decide +kernel
theorem dX5_hasEnd_41 : decode cX5_hasEnd 41 = .ok (.goto 4, 3) := by decide +kernel
theorem dX5_hasEnd_44 : decode cX5_hasEnd 44 = .ok (.iconst 0, 1) := by decide +kernel
theorem dX5_hasEnd_45 : decode cX5_hasEnd 45 = .ok (.ireturn, 1) := by decide +kernel
theorem dX5_pays_0 : decode cX5_pays 0 = .ok (.iconst 0, 1) := by decide +kernel
theorem dX5_pays_1 : decode cX5_pays 1 = .ok (.istore_n 1, 1) := by decide +kernel
theorem dX5_pays_2 : decode cX5_pays 2 = .ok (.iload_n 1, 1) := by decide +kernel
theorem dX5_pays_3 : decode cX5_pays 3 = .ok (.sipush 3600, 3) := by decide +kernel
theorem dX5_pays_6 : decode cX5_pays 6 = .ok (.if_icmp .gt 83, 3) := by decide +kernel
theorem dX5_pays_9 : decode cX5_pays 9 = .ok (.aload_n 0, 1) := by decide +kernel
theorem dX5_pays_10 : decode cX5_pays 10 = .ok (.getfield 42, 3) := by decide +kernel
theorem dX5_pays_13 : decode cX5_pays 13 = .ok (.iload_n 1, 1) := by decide +kernel
theorem dX5_pays_14 : decode cX5_pays 14 = .ok (.iload_n 1, 1) := by decide +kernel
theorem dX5_pays_15 : decode cX5_pays 15 = .ok (.ifCond .ne 7, 3) := by decide +kernel
theorem dX5_pays_18 : decode cX5_pays 18 = .ok (.iconst 1, 1) := by decide +kernel
theorem dX5_pays_19 : decode cX5_pays 19 = .ok (.goto 4, 3) := by decide +kernel
theorem dX5_pays_22 : decode cX5_pays 22 = .ok (.iconst 0, 1) := by decide +kernel
theorem dX5_pays_23 : decode cX5_pays 23 = .ok (.bastore, 1) := by decide +kernel
theorem dX5_pays_24 : decode cX5_pays 24 = .ok (.iconst 1, 1) := by decide +kernel
theorem dX5_pays_25 : decode cX5_pays 25 = .ok (.istore_n 2, 1) := by decide +kernel
theorem dX5_pays_26 : decode cX5_pays 26 = .ok (.iload_n 2, 1) := by decide +kernel
theorem dX5_pays_27 : decode cX5_pays 27 = .ok (.bipush 60, 2) := by decide +kernel
theorem dX5_pays_29 : decode cX5_pays 29 = .ok (.if_icmp .gt 54, 3) := by decide +kernel
theorem dX5_pays_32 : decode cX5_pays 32 = .ok (.iload_n 2, 1) := by decide +kernel
theorem dX5_pays_33 : decode cX5_pays 33 = .ok (.iload_n 1, 1) := by decide +kernel
theorem dX5_pays_34 : decode cX5_pays 34 = .ok (.if_icmp .gt 49, 3) := by decide +kernel
theorem dX5_pays_37 : decode cX5_pays 37 = .ok (.aload_n 0, 1) := by decide +kernel
theorem dX5_pays_38 : decode cX5_pays 38 = .ok (.getfield 42, 3) := by decide +kernel
theorem dX5_pays_41 : decode cX5_pays 41 = .ok (.iload_n 1, 1) := by decide +kernel
theorem dX5_pays_42 : decode cX5_pays 42 = .ok (.aload_n 0, 1) := by decide +kernel
theorem dX5_pays_43 : decode cX5_pays 43 = .ok (.getfield 42, 3) := by decide +kernel
theorem dX5_pays_46 : decode cX5_pays 46 = .ok (.iload_n 1, 1) := by decide +kernel
theorem dX5_pays_47 : decode cX5_pays 47 = .ok (.baload, 1) := by decide +kernel
theorem dX5_pays_48 : decode cX5_pays 48 = .ok (.ifCond .ne 23, 3) := by decide +kernel
theorem dX5_pays_51 : decode cX5_pays 51 = .ok (.aload_n 0, 1) := by decide +kernel
theorem dX5_pays_52 : decode cX5_pays 52 = .ok (.getfield 35, 3) := by decide +kernel
theorem dX5_pays_55 : decode cX5_pays 55 = .ok (.iload_n 2, 1) := by decide +kernel
theorem dX5_pays_56 : decode cX5_pays 56 = .ok (.baload, 1) := by decide +kernel
theorem dX5_pays_57 : decode cX5_pays 57 = .ok (.ifCond .eq 18, 3) := by decide +kernel
theorem dX5_pays_60 : decode cX5_pays 60 = .ok (.aload_n 0, 1) := by decide +kernel
theorem dX5_pays_61 : decode cX5_pays 61 = .ok (.getfield 42, 3) := by decide +kernel
theorem dX5_pays_64 : decode cX5_pays 64 = .ok (.iload_n 1, 1) := by decide +kernel
theorem dX5_pays_65 : decode cX5_pays 65 = .ok (.iload_n 2, 1) := by decide +kernel
theorem dX5_pays_66 : decode cX5_pays 66 = .ok (.isub, 1) := by decide +kernel
theorem dX5_pays_67 : decode cX5_pays 67 = .ok (.baload, 1) := by decide +kernel
theorem dX5_pays_68 : decode cX5_pays 68 = .ok (.ifCond .eq 7, 3) := by decide +kernel
theorem dX5_pays_71 : decode cX5_pays 71 = .ok (.iconst 1, 1) := by decide +kernel
theorem dX5_pays_72 : decode cX5_pays 72 = .ok (.goto 4, 3) := by decide +kernel
theorem dX5_pays_75 : decode cX5_pays 75 = .ok (.iconst 0, 1) := by decide +kernel
theorem dX5_pays_76 : decode cX5_pays 76 = .ok (.bastore, 1) := by decide +kernel
theorem dX5_pays_77 : decode cX5_pays 77 = .ok (.iinc 2 1, 3) := by decide +kernel
theorem dX5_pays_80 : decode cX5_pays 80 = .ok (.goto (-54), 3) := by decide +kernel
theorem dX5_pays_83 : decode cX5_pays 83 = .ok (.iinc 1 1, 3) := by decide +kernel
theorem dX5_pays_86 : decode cX5_pays 86 = .ok (.goto (-84), 3) := by decide +kernel
theorem dX5_pays_89 : decode cX5_pays 89 = .ok (.return_, 1) := by decide +kernel
theorem dX5_gap_0 : decode cX5_gap 0 = .ok (.iload_n 1, 1) := by decide +kernel
theorem dX5_gap_1 : decode cX5_gap 1 = .ok (.iconst (-1), 1) := by decide +kernel
theorem dX5_gap_2 : decode cX5_gap 2 = .ok (.if_icmp .lt 10, 3) := by decide +kernel
theorem dX5_gap_5 : decode cX5_gap 5 = .ok (.aload_n 0, 1) := by decide +kernel
theorem dX5_gap_6 : decode cX5_gap 6 = .ok (.invokevirtual 148, 3) := by decide +kernel
theorem dX5_gap_9 : decode cX5_gap 9 = .ok (.ifCond .ne 19, 3) := by decide +kernel
theorem dX5_gap_12 : decode cX5_gap 12 = .ok (.aload_n 0, 1) := by decide +kernel
theorem dX5_gap_13 : decode cX5_gap 13 = .ok (.iload_n 1, 1) := by decide +kernel
theorem dX5_gap_14 : decode cX5_gap 14 = .ok (.iconst (-1), 1) := by decide +kernel
theorem dX5_gap_15 : decode cX5_gap 15 = .ok (.if_icmp .ge 7, 3) := by decide +kernel
theorem dX5_gap_18 : decode cX5_gap 18 = .ok (.iconst 1, 1) := by decide +kernel
theorem dX5_gap_19 : decode cX5_gap 19 = .ok (.goto 4, 3) := by decide +kernel
theorem dX5_gap_22 : decode cX5_gap 22 = .ok (.iconst 2, 1) := by decide +kernel
theorem dX5_gap_23 : decode cX5_gap 23 = .ok (.putfield 51, 3) := by decide +kernel
theorem dX5_gap_26 : decode cX5_gap 26 = .ok (.iconst 0, 1) := by decide +kernel
theorem dX5_gap_27 : decode cX5_gap 27 = .ok (.ireturn, 1) := by decide +kernel
theorem dX5_gap_28 : decode cX5_gap 28 = .ok (.aload_n 0, 1) := by decide +kernel
theorem dX5_gap_29 : decode cX5_gap 29 = .ok (.invokevirtual 152, 3) := by decide +kernel
theorem dX5_gap_32 : decode cX5_gap 32 = .ok (.iconst 0, 1) := by decide +kernel
theorem dX5_gap_33 : decode cX5_gap 33 = .ok (.istore_n 2, 1) := by decide +kernel
theorem dX5_gap_34 : decode cX5_gap 34 = .ok (.iconst 0, 1) := by decide +kernel
theorem dX5_gap_35 : decode cX5_gap 35 = .ok (.istore_n 3, 1) := by decide +kernel
theorem dX5_gap_36 : decode cX5_gap 36 = .ok (.iload_n 3, 1) := by decide +kernel
theorem dX5_gap_37 : decode cX5_gap 37 = .ok (.sipush 3600, 3) := by decide +kernel
theorem dX5_gap_40 : decode cX5_gap 40 = .ok (.if_icmp .gt 33, 3) := by decide +kernel
theorem dX5_gap_43 : decode cX5_gap 43 = .ok (.aload_n 0, 1) := by decide +kernel
theorem dX5_gap_44 : decode cX5_gap 44 = .ok (.getfield 42, 3) := by decide +kernel
theorem dX5_gap_47 : decode cX5_gap 47 = .ok (.iload_n 3, 1) := by decide +kernel
theorem dX5_gap_48 : decode cX5_gap 48 = .ok (.baload, 1) := by decide +kernel
theorem dX5_gap_49 : decode cX5_gap 49 = .ok (.ifCond .ne 18, 3) := by decide +kernel
theorem dX5_gap_52 : decode cX5_gap 52 = .ok (.iload_n 2, 1) := by decide +kernel
theorem dX5_gap_53 : decode cX5_gap 53 = .ok (.iload_n 1, 1) := by decide +kernel
theorem dX5_gap_54 : decode cX5_gap 54 = .ok (.if_icmp .ne 10, 3) := by decide +kernel
theorem dX5_gap_57 : decode cX5_gap 57 = .ok (.aload_n 0, 1) := by decide +kernel
theorem dX5_gap_58 : decode cX5_gap 58 = .ok (.iconst 0, 1) := by decide +kernel
theorem dX5_gap_59 : decode cX5_gap 59 = .ok (.putfield 51, 3) := by decide +kernel
theorem dX5_gap_62 : decode cX5_gap 62 = .ok (.iload_n 3, 1) := by decide +kernel
theorem dX5_gap_63 : decode cX5_gap 63 = .ok (.ireturn, 1) := by decide +kernel
theorem dX5_gap_64 : decode cX5_gap 64 = .ok (.iinc 2 1, 3) := by decide +kernel
theorem dX5_gap_67 : decode cX5_gap 67 = .ok (.iinc 3 1, 3) := by decide +kernel
theorem dX5_gap_70 : decode cX5_gap 70 = .ok (.goto (-34), 3) := by decide +kernel
theorem dX5_gap_73 : decode cX5_gap 73 = .ok (.aload_n 0, 1) := by decide +kernel
theorem dX5_gap_74 : decode cX5_gap 74 = .ok (.iload_n 1, 1) := by decide +kernel
theorem dX5_gap_75 : decode cX5_gap 75 = .ok (.iconst (-1), 1) := by decide +kernel
theorem dX5_gap_76 : decode cX5_gap 76 = .ok (.if_icmp .ne 7, 3) := by decide +kernel
theorem dX5_gap_79 : decode cX5_gap 79 = .ok (.iconst 0, 1) := by decide +kernel
theorem dX5_gap_80 : decode cX5_gap 80 = .ok (.goto 4, 3) := by decide +kernel
theorem dX5_gap_83 : decode cX5_gap 83 = .ok (.iconst 1, 1) := by decide +kernel
theorem dX5_gap_84 : decode cX5_gap 84 = .ok (.putfield 51, 3) := by decide +kernel
theorem dX5_gap_87 : decode cX5_gap 87 = .ok (.aload_n 0, 1) := by decide +kernel
theorem dX5_gap_88 : decode cX5_gap 88 = .ok (.getfield 51, 3) := by decide +kernel
theorem dX5_gap_91 : decode cX5_gap 91 = .ok (.ifCond .eq 7, 3) := by decide +kernel
theorem dX5_gap_94 : decode cX5_gap 94 = .ok (.iconst 0, 1) := by decide +kernel
theorem dX5_gap_95 : decode cX5_gap 95 = .ok (.goto 4, 3) := by decide +kernel
