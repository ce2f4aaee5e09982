theorem d_L_isStation_0 : decode b_L_isStation 0 = .ok (.iconst 0, 1) := by decide +kernel
theorem d_L_isStation_1 : decode b_L_isStation 1 = .ok (.istore_n 1, 1) := by decide +kernel
theorem d_L_isStation_2 : decode b_L_isStation 2 = .ok (.iconst 0, 1) := by decide +kernel
theorem d_L_isStation_3 : decode b_L_isStation 3 = .ok (.istore_n 2, 1) := by decide +kernel
theorem d_L_isStation_4 : decode b_L_isStation 4 = .ok (.iconst 0, 1) := by decide +kernel
theorem d_L_isStation_5 : decode b_L_isStation 5 = .ok (.istore_n 3, 1) := by decide +kernel
theorem d_L_isStation_6 : decode b_L_isStation 6 = .ok (.iload_n 3, 1) := by decide +kernel
theorem d_L_isStation_7 : decode b_L_isStation 7 = .ok (.aload_n 0, 1) := by decide +kernel
theorem d_L_isStation_8 : decode b_L_isStation 8 = .ok (.invokevirtual 36, 3) := by decide +kernel
theorem d_L_isStation_11 : decode b_L_isStation 11 = .ok (.if_icmp .ge 27, 3) := by decide +kernel
theorem d_L_isStation_14 : decode b_L_isStation 14 = .ok (.iload_n 1, 1) := by decide +kernel
theorem d_L_isStation_15 : decode b_L_isStation 15 = .ok (.aload_n 0, 1) := by decide +kernel
theorem d_L_isStation_16 : decode b_L_isStation 16 = .ok (.iload_n 3, 1) := by decide +kernel
theorem d_L_isStation_17 : decode b_L_isStation 17 = .ok (.invokevirtual 91, 3) := by decide +kernel
theorem d_L_isStation_20 : decode b_L_isStation 20 = .ok (.iadd, 1) := by decide +kernel
theorem d_L_isStation_21 : decode b_L_isStation 21 = .ok (.istore_n 1, 1) := by decide +kernel
theorem d_L_isStation_22 : decode b_L_isStation 22 = .ok (.iload_n 2, 1) := by decide +kernel
theorem d_L_isStation_23 : decode b_L_isStation 23 = .ok (.aload_n 0, 1) := by decide +kernel
theorem d_L_isStation_24 : decode b_L_isStation 24 = .ok (.iload_n 3, 1) := by decide +kernel
theorem d_L_isStation_25 : decode b_L_isStation 25 = .ok (.invokevirtual 91, 3) := by decide +kernel
theorem d_L_isStation_28 : decode b_L_isStation 28 = .ok (.invokestatic 113, 3) := by decide +kernel
theorem d_L_isStation_31 : decode b_L_isStation 31 = .ok (.istore_n 2, 1) := by decide +kernel
theorem d_L_isStation_32 : decode b_L_isStation 32 = .ok (.iinc 3 1, 3) := by decide +kernel
theorem d_L_isStation_35 : decode b_L_isStation 35 = .ok (.goto (-29), 3) := by decide +kernel
theorem d_L_isStation_38 : decode b_L_isStation 38 = .ok (.iconst (-1), 1) := by decide +kernel
theorem d_L_isStation_39 : decode b_L_isStation 39 = .ok (.istore_n 3, 1) := by decide +kernel
theorem d_L_isStation_40 : decode b_L_isStation 40 = .ok (.iconst 0, 1) := by decide +kernel
theorem d_L_isStation_41 : decode b_L_isStation 41 = .ok (.istore 4, 2) := by decide +kernel
theorem d_L_isStation_43 : decode b_L_isStation 43 = .ok (.iload 4, 2) := by decide +kernel
theorem d_L_isStation_45 : decode b_L_isStation 45 = .ok (.aload_n 0, 1) := by decide +kernel
theorem d_L_isStation_46 : decode b_L_isStation 46 = .ok (.invokevirtual 33, 3) := by decide +kernel
theorem d_L_isStation_49 : decode b_L_isStation 49 = .ok (.if_icmp .ge 79, 3) := by decide +kernel
theorem d_L_isStation_52 : decode b_L_isStation 52 = .ok (.aload_n 0, 1) := by decide +kernel
theorem d_L_isStation_53 : decode b_L_isStation 53 = .ok (.iload 4, 2) := by decide +kernel
theorem d_L_isStation_55 : decode b_L_isStation 55 = .ok (.invokevirtual 104, 3) := by decide +kernel
theorem d_L_isStation_58 : decode b_L_isStation 58 = .ok (.iload_n 3, 1) := by decide +kernel
theorem d_L_isStation_59 : decode b_L_isStation 59 = .ok (.if_icmp .le 54, 3) := by decide +kernel
theorem d_L_isStation_62 : decode b_L_isStation 62 = .ok (.aload_n 0, 1) := by decide +kernel
theorem d_L_isStation_63 : decode b_L_isStation 63 = .ok (.aload_n 0, 1) := by decide +kernel
theorem d_L_isStation_64 : decode b_L_isStation 64 = .ok (.iload 4, 2) := by decide +kernel
theorem d_L_isStation_66 : decode b_L_isStation 66 = .ok (.invokevirtual 104, 3) := by decide +kernel
theorem d_L_isStation_69 : decode b_L_isStation 69 = .ok (.invokevirtual 119, 3) := by decide +kernel
theorem d_L_isStation_72 : decode b_L_isStation 72 = .ok (.iload 4, 2) := by decide +kernel
theorem d_L_isStation_74 : decode b_L_isStation 74 = .ok (.if_icmp .ne 39, 3) := by decide +kernel
theorem d_L_isStation_77 : decode b_L_isStation 77 = .ok (.aload_n 0, 1) := by decide +kernel
theorem d_L_isStation_78 : decode b_L_isStation 78 = .ok (.aload_n 0, 1) := by decide +kernel
theorem d_L_isStation_79 : decode b_L_isStation 79 = .ok (.iload 4, 2) := by decide +kernel
theorem d_L_isStation_81 : decode b_L_isStation 81 = .ok (.invokevirtual 104, 3) := by decide +kernel
theorem d_L_isStation_84 : decode b_L_isStation 84 = .ok (.iconst 1, 1) := by decide +kernel
theorem d_L_isStation_85 : decode b_L_isStation 85 = .ok (.isub, 1) := by decide +kernel
theorem d_L_isStation_86 : decode b_L_isStation 86 = .ok (.invokevirtual 119, 3) := by decide +kernel
theorem d_L_isStation_89 : decode b_L_isStation 89 = .ok (.iload 4, 2) := by decide +kernel
theorem d_L_isStation_91 : decode b_L_isStation 91 = .ok (.iconst 1, 1) := by decide +kernel
theorem d_L_isStation_92 : decode b_L_isStation 92 = .ok (.isub, 1) := by decide +kernel
theorem d_L_isStation_93 : decode b_L_isStation 93 = .ok (.if_icmp .ne 20, 3) := by decide +kernel
theorem d_L_isStation_96 : decode b_L_isStation 96 = .ok (.aload_n 0, 1) := by decide +kernel
theorem d_L_isStation_97 : decode b_L_isStation 97 = .ok (.iload 4, 2) := by decide +kernel
theorem d_L_isStation_99 : decode b_L_isStation 99 = .ok (.invokevirtual 107, 3) := by decide +kernel
theorem d_L_isStation_102 : decode b_L_isStation 102 = .ok (.aload_n 0, 1) := by decide +kernel
theorem d_L_isStation_103 : decode b_L_isStation 103 = .ok (.aload_n 0, 1) := by decide +kernel
theorem d_L_isStation_104 : decode b_L_isStation 104 = .ok (.invokevirtual 122, 3) := by decide +kernel
theorem d_L_isStation_107 : decode b_L_isStation 107 = .ok (.invokevirtual 107, 3) := by decide +kernel
theorem d_L_isStation_110 : decode b_L_isStation 110 = .ok (.if_icmp .le 5, 3) := by decide +kernel
theorem d_L_isStation_113 : decode b_L_isStation 113 = .ok (.iconst 0, 1) := by decide +kernel
theorem d_L_isStation_114 : decode b_L_isStation 114 = .ok (.ireturn, 1) := by decide +kernel
theorem d_L_isStation_115 : decode b_L_isStation 115 = .ok (.aload_n 0, 1) := by decide +kernel
theorem d_L_isStation_116 : decode b_L_isStation 116 = .ok (.iload 4, 2) := by decide +kernel
theorem d_L_isStation_118 : decode b_L_isStation 118 = .ok (.invokevirtual 104, 3) := by decide +kernel
theorem d_L_isStation_121 : decode b_L_isStation 121 = .ok (.istore_n 3, 1) := by decide +kernel
theorem d_L_isStation_122 : decode b_L_isStation 122 = .ok (.iinc 4 1, 3) := by decide +kernel
theorem d_L_isStation_125 : decode b_L_isStation 125 = .ok (.goto (-82), 3) := by decide +kernel
theorem d_L_isStation_128 : decode b_L_isStation 128 = .ok (.iconst 0, 1) := by decide +kernel
theorem d_L_isStation_129 : decode b_L_isStation 129 = .ok (.istore 4, 2) := by decide +kernel
theorem d_L_isStation_131 : decode b_L_isStation 131 = .ok (.iload 4, 2) := by decide +kernel
theorem d_L_isStation_133 : decode b_L_isStation 133 = .ok (.aload_n 0, 1) := by decide +kernel
theorem d_L_isStation_134 : decode b_L_isStation 134 = .ok (.invokevirtual 30, 3) := by decide +kernel
theorem d_L_isStation_137 : decode b_L_isStation 137 = .ok (.if_icmp .ge 74, 3) := by decide +kernel
theorem d_L_isStation_140 : decode b_L_isStation 140 = .ok (.aload_n 0, 1) := by decide +kernel
theorem d_L_isStation_141 : decode b_L_isStation 141 = .ok (.iload 4, 2) := by decide +kernel
theorem d_L_isStation_143 : decode b_L_isStation 143 = .ok (.invokevirtual 95, 3) := by decide +kernel
theorem d_L_isStation_146 : decode b_L_isStation 146 = .ok (.iload_n 3, 1) := by decide +kernel
theorem d_L_isStation_147 : decode b_L_isStation 147 = .ok (.if_icmp .le 49, 3) := by decide +kernel
theorem d_L_isStation_150 : decode b_L_isStation 150 = .ok (.aload_n 0, 1) := by decide +kernel
theorem d_L_isStation_151 : decode b_L_isStation 151 = .ok (.iload 4, 2) := by decide +kernel
theorem d_L_isStation_153 : decode b_L_isStation 153 = .ok (.invokevirtual 95, 3) := by decide +kernel
theorem d_L_isStation_156 : decode b_L_isStation 156 = .ok (.aload_n 0, 1) := by decide +kernel
theorem d_L_isStation_157 : decode b_L_isStation 157 = .ok (.invokevirtual 39, 3) := by decide +kernel
theorem d_L_isStation_160 : decode b_L_isStation 160 = .ok (.if_icmp .ge 36, 3) := by decide +kernel
theorem d_L_isStation_163 : decode b_L_isStation 163 = .ok (.aload_n 0, 1) := by decide +kernel
theorem d_L_isStation_164 : decode b_L_isStation 164 = .ok (.iload 4, 2) := by decide +kernel
theorem d_L_isStation_166 : decode b_L_isStation 166 = .ok (.invokevirtual 98, 3) := by decide +kernel
theorem d_L_isStation_169 : decode b_L_isStation 169 = .ok (.iconst 1, 1) := by decide +kernel
theorem d_L_isStation_170 : decode b_L_isStation 170 = .ok (.if_icmp .lt 26, 3) := by decide +kernel
theorem d_L_isStation_173 : decode b_L_isStation 173 = .ok (.aload_n 0, 1) := by decide +kernel
theorem d_L_isStation_174 : decode b_L_isStation 174 = .ok (.iload 4, 2) := by decide +kernel
theorem d_L_isStation_176 : decode b_L_isStation 176 = .ok (.invokevirtual 98, 3) := by decide +kernel
theorem d_L_isStation_179 : decode b_L_isStation 179 = .ok (.sipush 600, 3) := by decide +kernel
theorem d_L_isStation_182 : decode b_L_isStation 182 = .ok (.if_icmp .gt 14, 3) := by decide +kernel
theorem d_L_isStation_185 : decode b_L_isStation 185 = .ok (.aload_n 0, 1) := by decide +kernel
theorem d_L_isStation_186 : decode b_L_isStation 186 = .ok (.iload 4, 2) := by decide +kernel
theorem d_L_isStation_188 : decode b_L_isStation 188 = .ok (.invokevirtual 101, 3) := by decide +kernel
theorem d_L_isStation_191 : decode b_L_isStation 191 = .ok (.bipush 36, 2) := by decide +kernel
theorem d_L_isStation_193 : decode b_L_isStation 193 = .ok (.if_icmp .le 5, 3) := by decide +kernel
theorem d_L_isStation_196 : decode b_L_isStation 196 = .ok (.iconst 0, 1) := by decide +kernel
theorem d_L_isStation_197 : decode b_L_isStation 197 = .ok (.ireturn, 1) := by decide +kernel
theorem d_L_isStation_198 : decode b_L_isStation 198 = .ok (.aload_n 0, 1) := by decide +kernel
theorem d_L_isStation_199 : decode b_L_isStation 199 = .ok (.iload 4, 2) := by decide +kernel
theorem d_L_isStation_201 : decode b_L_isStation 201 = .ok (.invokevirtual 95, 3) := by decide +kernel
theorem d_L_isStation_204 : decode b_L_isStation 204 = .ok (.istore_n 3, 1) := by decide +kernel
theorem d_L_isStation_205 : decode b_L_isStation 205 = .ok (.iinc 4 1, 3) := by decide +kernel
theorem d_L_isStation_208 : decode b_L_isStation 208 = .ok (.goto (-77), 3) := by decide +kernel
theorem d_L_isStation_211 : decode b_L_isStation 211 = .ok (.iconst 0, 1) := by decide +kernel
theorem d_L_isStation_212 : decode b_L_isStation 212 = .ok (.istore 4, 2) := by decide +kernel
theorem d_L_isStation_214 : decode b_L_isStation 214 = .ok (.iconst 0, 1) := by decide +kernel
theorem d_L_isStation_215 : decode b_L_isStation 215 = .ok (.istore 5, 2) := by decide +kernel
theorem d_L_isStation_217 : decode b_L_isStation 217 = .ok (.iload 5, 2) := by decide +kernel
theorem d_L_isStation_219 : decode b_L_isStation 219 = .ok (.bipush 7, 2) := by decide +kernel
theorem d_L_isStation_221 : decode b_L_isStation 221 = .ok (.if_icmp .ge 77, 3) := by decide +kernel
theorem d_L_isStation_224 : decode b_L_isStation 224 = .ok (.aload_n 0, 1) := by decide +kernel
theorem d_L_isStation_225 : decode b_L_isStation 225 = .ok (.bipush 100, 2) := by decide +kernel
theorem d_L_isStation_227 : decode b_L_isStation 227 = .ok (.iload 5, 2) := by decide +kernel
theorem d_L_isStation_229 : decode b_L_isStation 229 = .ok (.imul, 1) := by decide +kernel
theorem d_L_isStation_230 : decode b_L_isStation 230 = .ok (.bipush 100, 2) := by decide +kernel
theorem d_L_isStation_232 : decode b_L_isStation 232 = .ok (.iload 5, 2) := by decide +kernel
theorem d_L_isStation_234 : decode b_L_isStation 234 = .ok (.imul, 1) := by decide +kernel
theorem d_L_isStation_235 : decode b_L_isStation 235 = .ok (.bipush 99, 2) := by decide +kernel
theorem d_L_isStation_237 : decode b_L_isStation 237 = .ok (.iadd, 1) := by decide +kernel
theorem d_L_isStation_238 : decode b_L_isStation 238 = .ok (.invokevirtual 125, 3) := by decide +kernel
theorem d_L_isStation_241 : decode b_L_isStation 241 = .ok (.istore 6, 2) := by decide +kernel
theorem d_L_isStation_243 : decode b_L_isStation 243 = .ok (.iload 4, 2) := by decide +kernel
theorem d_L_isStation_245 : decode b_L_isStation 245 = .ok (.iload 6, 2) := by decide +kernel
theorem d_L_isStation_247 : decode b_L_isStation 247 = .ok (.iadd, 1) := by decide +kernel
theorem d_L_isStation_248 : decode b_L_isStation 248 = .ok (.istore 4, 2) := by decide +kernel
theorem d_L_isStation_250 : decode b_L_isStation 250 = .ok (.iload 6, 2) := by decide +kernel
theorem d_L_isStation_252 : decode b_L_isStation 252 = .ok (.ifCond .ne 14, 3) := by decide +kernel
theorem d_L_isStation_255 : decode b_L_isStation 255 = .ok (.aload_n 0, 1) := by decide +kernel
theorem d_L_isStation_256 : decode b_L_isStation 256 = .ok (.iload 5, 2) := by decide +kernel
theorem d_L_isStation_258 : decode b_L_isStation 258 = .ok (.invokevirtual 128, 3) := by decide +kernel
theorem d_L_isStation_261 : decode b_L_isStation 261 = .ok (.dconst 0, 1) := by decide +kernel
theorem d_L_isStation_262 : decode b_L_isStation 262 = .ok (.dcmp .l, 1) := by decide +kernel
theorem d_L_isStation_263 : decode b_L_isStation 263 = .ok (.ifCond .ne 27, 3) := by decide +kernel
theorem d_L_isStation_266 : decode b_L_isStation 266 = .ok (.aload_n 0, 1) := by decide +kernel
theorem d_L_isStation_267 : decode b_L_isStation 267 = .ok (.iload 5, 2) := by decide +kernel
theorem d_L_isStation_269 : decode b_L_isStation 269 = .ok (.invokevirtual 128, 3) := by decide +kernel
theorem d_L_isStation_272 : decode b_L_isStation 272 = .ok (.dconst 0, 1) := by decide +kernel
theorem d_L_isStation_273 : decode b_L_isStation 273 = .ok (.dcmp .g, 1) := by decide +kernel
theorem d_L_isStation_274 : decode b_L_isStation 274 = .ok (.ifCond .lt 16, 3) := by decide +kernel
theorem d_L_isStation_277 : decode b_L_isStation 277 = .ok (.aload_n 0, 1) := by decide +kernel
theorem d_L_isStation_278 : decode b_L_isStation 278 = .ok (.iload 5, 2) := by decide +kernel
theorem d_L_isStation_280 : decode b_L_isStation 280 = .ok (.invokevirtual 128, 3) := by decide +kernel
theorem d_L_isStation_283 : decode b_L_isStation 283 = .ok (.ldc2_w 132, 3) := by decide +kernel
theorem d_L_isStation_286 : decode b_L_isStation 286 = .ok (.dcmp .l, 1) := by decide +kernel
theorem d_L_isStation_287 : decode b_L_isStation 287 = .ok (.ifCond .le 5, 3) := by decide +kernel
theorem d_L_isStation_290 : decode b_L_isStation 290 = .ok (.iconst 0, 1) := by decide +kernel
theorem d_L_isStation_291 : decode b_L_isStation 291 = .ok (.ireturn, 1) := by decide +kernel
theorem d_L_isStation_292 : decode b_L_isStation 292 = .ok (.iinc 5 1, 3) := by decide +kernel
theorem d_L_isStation_295 : decode b_L_isStation 295 = .ok (.goto (-78), 3) := by decide +kernel
theorem d_L_isStation_298 : decode b_L_isStation 298 = .ok (.aload_n 0, 1) := by decide +kernel
theorem d_L_isStation_299 : decode b_L_isStation 299 = .ok (.invokevirtual 30, 3) := by decide +kernel
theorem d_L_isStation_302 : decode b_L_isStation 302 = .ok (.aload_n 0, 1) := by decide +kernel
theorem d_L_isStation_303 : decode b_L_isStation 303 = .ok (.invokevirtual 33, 3) := by decide +kernel
theorem d_L_isStation_306 : decode b_L_isStation 306 = .ok (.iadd, 1) := by decide +kernel
theorem d_L_isStation_307 : decode b_L_isStation 307 = .ok (.aload_n 0, 1) := by decide +kernel
theorem d_L_isStation_308 : decode b_L_isStation 308 = .ok (.invokevirtual 82, 3) := by decide +kernel
theorem d_L_isStation_311 : decode b_L_isStation 311 = .ok (.iadd, 1) := by decide +kernel
theorem d_L_isStation_312 : decode b_L_isStation 312 = .ok (.istore 5, 2) := by decide +kernel
theorem d_L_isStation_314 : decode b_L_isStation 314 = .ok (.aload_n 0, 1) := by decide +kernel
theorem d_L_isStation_315 : decode b_L_isStation 315 = .ok (.invokevirtual 42, 3) := by decide +kernel
theorem d_L_isStation_318 : decode b_L_isStation 318 = .ok (.istore 6, 2) := by decide +kernel
theorem d_L_isStation_320 : decode b_L_isStation 320 = .ok (.aload_n 0, 1) := by decide +kernel
theorem d_L_isStation_321 : decode b_L_isStation 321 = .ok (.invokevirtual 46, 3) := by decide +kernel
theorem d_L_isStation_324 : decode b_L_isStation 324 = .ok (.istore 7, 2) := by decide +kernel
theorem d_L_isStation_326 : decode b_L_isStation 326 = .ok (.aload_n 0, 1) := by decide +kernel
theorem d_L_isStation_327 : decode b_L_isStation 327 = .ok (.invokevirtual 134, 3) := by decide +kernel
theorem d_L_isStation_330 : decode b_L_isStation 330 = .ok (.istore 8, 2) := by decide +kernel
theorem d_L_isStation_332 : decode b_L_isStation 332 = .ok (.aload_n 0, 1) := by decide +kernel
theorem d_L_isStation_333 : decode b_L_isStation 333 = .ok (.invokevirtual 137, 3) := by decide +kernel
theorem d_L_isStation_336 : decode b_L_isStation 336 = .ok (.istore 9, 2) := by decide +kernel
theorem d_L_isStation_338 : decode b_L_isStation 338 = .ok (.iload 6, 2) := by decide +kernel
theorem d_L_isStation_340 : decode b_L_isStation 340 = .ok (.ifCond .eq 7, 3) := by decide +kernel
theorem d_L_isStation_343 : decode b_L_isStation 343 = .ok (.iconst 1, 1) := by decide +kernel
theorem d_L_isStation_344 : decode b_L_isStation 344 = .ok (.goto 4, 3) := by decide +kernel
theorem d_L_isStation_347 : decode b_L_isStation 347 = .ok (.iconst 0, 1) := by decide +kernel
theorem d_L_isStation_348 : decode b_L_isStation 348 = .ok (.iload 7, 2) := by decide +kernel
theorem d_L_isStation_350 : decode b_L_isStation 350 = .ok (.ifCond .eq 7, 3) := by decide +kernel
theorem d_L_isStation_353 : decode b_L_isStation 353 = .ok (.iconst 1, 1) := by decide +kernel
theorem d_L_isStation_354 : decode b_L_isStation 354 = .ok (.goto 4, 3) := by decide +kernel
theorem d_L_isStation_357 : decode b_L_isStation 357 = .ok (.iconst 0, 1) := by decide +kernel
theorem d_L_isStation_358 : decode b_L_isStation 358 = .ok (.iadd, 1) := by decide +kernel
theorem d_L_isStation_359 : decode b_L_isStation 359 = .ok (.aload_n 0, 1) := by decide +kernel
theorem d_L_isStation_360 : decode b_L_isStation 360 = .ok (.invokevirtual 140, 3) := by decide +kernel
theorem d_L_isStation_363 : decode b_L_isStation 363 = .ok (.ifCond .eq 7, 3) := by decide +kernel
theorem d_L_isStation_366 : decode b_L_isStation 366 = .ok (.iconst 1, 1) := by decide +kernel
theorem d_L_isStation_367 : decode b_L_isStation 367 = .ok (.goto 4, 3) := by decide +kernel
theorem d_L_isStation_370 : decode b_L_isStation 370 = .ok (.iconst 0, 1) := by decide +kernel
theorem d_L_isStation_371 : decode b_L_isStation 371 = .ok (.iadd, 1) := by decide +kernel
theorem d_L_isStation_372 : decode b_L_isStation 372 = .ok (.istore 10, 2) := by decide +kernel
theorem d_L_isStation_374 : decode b_L_isStation 374 = .ok (.iload 8, 2) := by decide +kernel
theorem d_L_isStation_376 : decode b_L_isStation 376 = .ok (.ifCond .lt 46, 3) := by decide +kernel
theorem d_L_isStation_379 : decode b_L_isStation 379 = .ok (.iconst 0, 1) := by decide +kernel
theorem d_L_isStation_380 : decode b_L_isStation 380 = .ok (.istore 11, 2) := by decide +kernel
theorem d_L_isStation_382 : decode b_L_isStation 382 = .ok (.iload 11, 2) := by decide +kernel
theorem d_L_isStation_384 : decode b_L_isStation 384 = .ok (.aload_n 0, 1) := by decide +kernel
theorem d_L_isStation_385 : decode b_L_isStation 385 = .ok (.invokevirtual 88, 3) := by decide +kernel
theorem d_L_isStation_388 : decode b_L_isStation 388 = .ok (.if_icmp .ge 34, 3) := by decide +kernel
theorem d_L_isStation_391 : decode b_L_isStation 391 = .ok (.aload_n 0, 1) := by decide +kernel
theorem d_L_isStation_392 : decode b_L_isStation 392 = .ok (.aload_n 0, 1) := by decide +kernel
theorem d_L_isStation_393 : decode b_L_isStation 393 = .ok (.iload 11, 2) := by decide +kernel
theorem d_L_isStation_395 : decode b_L_isStation 395 = .ok (.invokevirtual 143, 3) := by decide +kernel
theorem d_L_isStation_398 : decode b_L_isStation 398 = .ok (.iload 8, 2) := by decide +kernel
theorem d_L_isStation_400 : decode b_L_isStation 400 = .ok (.bipush 100, 2) := by decide +kernel
theorem d_L_isStation_402 : decode b_L_isStation 402 = .ok (.idiv, 1) := by decide +kernel
theorem d_L_isStation_403 : decode b_L_isStation 403 = .ok (.iadd, 1) := by decide +kernel
theorem d_L_isStation_404 : decode b_L_isStation 404 = .ok (.invokevirtual 146, 3) := by decide +kernel
theorem d_L_isStation_407 : decode b_L_isStation 407 = .ok (.aload_n 0, 1) := by decide +kernel
theorem d_L_isStation_408 : decode b_L_isStation 408 = .ok (.invokevirtual 55, 3) := by decide +kernel
theorem d_L_isStation_411 : decode b_L_isStation 411 = .ok (.if_icmp .le 5, 3) := by decide +kernel
theorem d_L_isStation_414 : decode b_L_isStation 414 = .ok (.iconst 0, 1) := by decide +kernel
theorem d_L_isStation_415 : decode b_L_isStation 415 = .ok (.ireturn, 1) := by decide +kernel
theorem d_L_isStation_416 : decode b_L_isStation 416 = .ok (.iinc 11 1, 3) := by decide +kernel
theorem d_L_isStation_419 : decode b_L_isStation 419 = .ok (.goto (-37), 3) := by decide +kernel
theorem d_L_isStation_422 : decode b_L_isStation 422 = .ok (.iload 10, 2) := by decide +kernel
theorem d_L_isStation_424 : decode b_L_isStation 424 = .ok (.iconst 1, 1) := by decide +kernel
theorem d_L_isStation_425 : decode b_L_isStation 425 = .ok (.if_icmp .ne 256, 3) := by decide +kernel
theorem d_L_isStation_428 : decode b_L_isStation 428 = .ok (.aload_n 0, 1) := by decide +kernel
theorem d_L_isStation_429 : decode b_L_isStation 429 = .ok (.invokevirtual 49, 3) := by decide +kernel
theorem d_L_isStation_432 : decode b_L_isStation 432 = .ok (.aload_n 0, 1) := by decide +kernel
theorem d_L_isStation_433 : decode b_L_isStation 433 = .ok (.invokevirtual 52, 3) := by decide +kernel
theorem d_L_isStation_436 : decode b_L_isStation 436 = .ok (.if_icmp .gt 245, 3) := by decide +kernel
theorem d_L_isStation_439 : decode b_L_isStation 439 = .ok (.iload 7, 2) := by decide +kernel
theorem d_L_isStation_441 : decode b_L_isStation 441 = .ok (.aload_n 0, 1) := by decide +kernel
theorem d_L_isStation_442 : decode b_L_isStation 442 = .ok (.invokevirtual 49, 3) := by decide +kernel
theorem d_L_isStation_445 : decode b_L_isStation 445 = .ok (.ifCond .le 7, 3) := by decide +kernel
theorem d_L_isStation_448 : decode b_L_isStation 448 = .ok (.iconst 1, 1) := by decide +kernel
theorem d_L_isStation_449 : decode b_L_isStation 449 = .ok (.goto 4, 3) := by decide +kernel
theorem d_L_isStation_452 : decode b_L_isStation 452 = .ok (.iconst 0, 1) := by decide +kernel
theorem d_L_isStation_453 : decode b_L_isStation 453 = .ok (.if_icmp .ne 228, 3) := by decide +kernel
theorem d_L_isStation_456 : decode b_L_isStation 456 = .ok (.iload 7, 2) := by decide +kernel
theorem d_L_isStation_458 : decode b_L_isStation 458 = .ok (.ifCond .ne 18, 3) := by decide +kernel
theorem d_L_isStation_461 : decode b_L_isStation 461 = .ok (.aload_n 0, 1) := by decide +kernel
theorem d_L_isStation_462 : decode b_L_isStation 462 = .ok (.invokevirtual 64, 3) := by decide +kernel
theorem d_L_isStation_465 : decode b_L_isStation 465 = .ok (.ifCond .ne 216, 3) := by decide +kernel
theorem d_L_isStation_468 : decode b_L_isStation 468 = .ok (.aload_n 0, 1) := by decide +kernel
theorem d_L_isStation_469 : decode b_L_isStation 469 = .ok (.invokevirtual 149, 3) := by decide +kernel
theorem d_L_isStation_472 : decode b_L_isStation 472 = .ok (.iconst (-1), 1) := by decide +kernel
theorem d_L_isStation_473 : decode b_L_isStation 473 = .ok (.if_icmp .ne 208, 3) := by decide +kernel
theorem d_L_isStation_476 : decode b_L_isStation 476 = .ok (.aload_n 0, 1) := by decide +kernel
theorem d_L_isStation_477 : decode b_L_isStation 477 = .ok (.invokevirtual 140, 3) := by decide +kernel
theorem d_L_isStation_480 : decode b_L_isStation 480 = .ok (.ifCond .ne 10, 3) := by decide +kernel
theorem d_L_isStation_483 : decode b_L_isStation 483 = .ok (.aload_n 0, 1) := by decide +kernel
theorem d_L_isStation_484 : decode b_L_isStation 484 = .ok (.invokevirtual 67, 3) := by decide +kernel
theorem d_L_isStation_487 : decode b_L_isStation 487 = .ok (.ifCond .ne 194, 3) := by decide +kernel
theorem d_L_isStation_490 : decode b_L_isStation 490 = .ok (.aload_n 0, 1) := by decide +kernel
theorem d_L_isStation_491 : decode b_L_isStation 491 = .ok (.invokevirtual 67, 3) := by decide +kernel
theorem d_L_isStation_494 : decode b_L_isStation 494 = .ok (.bipush 120, 2) := by decide +kernel
theorem d_L_isStation_496 : decode b_L_isStation 496 = .ok (.if_icmp .gt 185, 3) := by decide +kernel
theorem d_L_isStation_499 : decode b_L_isStation 499 = .ok (.iload 7, 2) := by decide +kernel
theorem d_L_isStation_501 : decode b_L_isStation 501 = .ok (.ifCond .eq 19, 3) := by decide +kernel
theorem d_L_isStation_504 : decode b_L_isStation 504 = .ok (.aload_n 0, 1) := by decide +kernel
theorem d_L_isStation_505 : decode b_L_isStation 505 = .ok (.invokevirtual 36, 3) := by decide +kernel
theorem d_L_isStation_508 : decode b_L_isStation 508 = .ok (.bipush 8, 2) := by decide +kernel
theorem d_L_isStation_510 : decode b_L_isStation 510 = .ok (.aload_n 0, 1) := by decide +kernel
theorem d_L_isStation_511 : decode b_L_isStation 511 = .ok (.invokevirtual 64, 3) := by decide +kernel
theorem d_L_isStation_514 : decode b_L_isStation 514 = .ok (.invokestatic 152, 3) := by decide +kernel
theorem d_L_isStation_517 : decode b_L_isStation 517 = .ok (.if_icmp .ne 164, 3) := by decide +kernel
theorem d_L_isStation_520 : decode b_L_isStation 520 = .ok (.iload 9, 2) := by decide +kernel
theorem d_L_isStation_522 : decode b_L_isStation 522 = .ok (.iconst 1, 1) := by decide +kernel
theorem d_L_isStation_523 : decode b_L_isStation 523 = .ok (.if_icmp .ne 7, 3) := by decide +kernel
theorem d_L_isStation_526 : decode b_L_isStation 526 = .ok (.iconst 1, 1) := by decide +kernel
theorem d_L_isStation_527 : decode b_L_isStation 527 = .ok (.goto 4, 3) := by decide +kernel
theorem d_L_isStation_530 : decode b_L_isStation 530 = .ok (.iconst 0, 1) := by decide +kernel
theorem d_L_isStation_531 : decode b_L_isStation 531 = .ok (.iload 7, 2) := by decide +kernel
theorem d_L_isStation_533 : decode b_L_isStation 533 = .ok (.if_icmp .ne 148, 3) := by decide +kernel
theorem d_L_isStation_536 : decode b_L_isStation 536 = .ok (.iload 9, 2) := by decide +kernel
theorem d_L_isStation_538 : decode b_L_isStation 538 = .ok (.iconst 2, 1) := by decide +kernel
theorem d_L_isStation_539 : decode b_L_isStation 539 = .ok (.if_icmp .ne 7, 3) := by decide +kernel
theorem d_L_isStation_542 : decode b_L_isStation 542 = .ok (.iconst 1, 1) := by decide +kernel
theorem d_L_isStation_543 : decode b_L_isStation 543 = .ok (.goto 4, 3) := by decide +kernel
theorem d_L_isStation_546 : decode b_L_isStation 546 = .ok (.iconst 0, 1) := by decide +kernel
theorem d_L_isStation_547 : decode b_L_isStation 547 = .ok (.aload_n 0, 1) := by decide +kernel
theorem d_L_isStation_548 : decode b_L_isStation 548 = .ok (.invokevirtual 140, 3) := by decide +kernel
theorem d_L_isStation_551 : decode b_L_isStation 551 = .ok (.if_icmp .ne 130, 3) := by decide +kernel
theorem d_L_isStation_554 : decode b_L_isStation 554 = .ok (.iload 9, 2) := by decide +kernel
theorem d_L_isStation_556 : decode b_L_isStation 556 = .ok (.ifCond .ne 21, 3) := by decide +kernel
theorem d_L_isStation_559 : decode b_L_isStation 559 = .ok (.aload_n 0, 1) := by decide +kernel
theorem d_L_isStation_560 : decode b_L_isStation 560 = .ok (.invokevirtual 52, 3) := by decide +kernel
theorem d_L_isStation_563 : decode b_L_isStation 563 = .ok (.bipush 10, 2) := by decide +kernel
theorem d_L_isStation_565 : decode b_L_isStation 565 = .ok (.if_icmp .lt 116, 3) := by decide +kernel
theorem d_L_isStation_568 : decode b_L_isStation 568 = .ok (.aload_n 0, 1) := by decide +kernel
theorem d_L_isStation_569 : decode b_L_isStation 569 = .ok (.iconst 0, 1) := by decide +kernel
theorem d_L_isStation_570 : decode b_L_isStation 570 = .ok (.invokevirtual 155, 3) := by decide +kernel
theorem d_L_isStation_573 : decode b_L_isStation 573 = .ok (.iconst 5, 1) := by decide +kernel
theorem d_L_isStation_574 : decode b_L_isStation 574 = .ok (.if_icmp .lt 107, 3) := by decide +kernel
theorem d_L_isStation_577 : decode b_L_isStation 577 = .ok (.aload_n 0, 1) := by decide +kernel
theorem d_L_isStation_578 : decode b_L_isStation 578 = .ok (.invokevirtual 73, 3) := by decide +kernel
theorem d_L_isStation_581 : decode b_L_isStation 581 = .ok (.aload_n 0, 1) := by decide +kernel
theorem d_L_isStation_582 : decode b_L_isStation 582 = .ok (.invokevirtual 70, 3) := by decide +kernel
theorem d_L_isStation_585 : decode b_L_isStation 585 = .ok (.if_icmp .gt 96, 3) := by decide +kernel
theorem d_L_isStation_588 : decode b_L_isStation 588 = .ok (.iload 4, 2) := by decide +kernel
theorem d_L_isStation_590 : decode b_L_isStation 590 = .ok (.aload_n 0, 1) := by decide +kernel
theorem d_L_isStation_591 : decode b_L_isStation 591 = .ok (.invokevirtual 33, 3) := by decide +kernel
theorem d_L_isStation_594 : decode b_L_isStation 594 = .ok (.if_icmp .ne 87, 3) := by decide +kernel
theorem d_L_isStation_597 : decode b_L_isStation 597 = .ok (.iload_n 2, 1) := by decide +kernel
theorem d_L_isStation_598 : decode b_L_isStation 598 = .ok (.aload_n 0, 1) := by decide +kernel
theorem d_L_isStation_599 : decode b_L_isStation 599 = .ok (.invokevirtual 158, 3) := by decide +kernel
theorem d_L_isStation_602 : decode b_L_isStation 602 = .ok (.if_icmp .ne 79, 3) := by decide +kernel
theorem d_L_isStation_605 : decode b_L_isStation 605 = .ok (.aload_n 0, 1) := by decide +kernel
theorem d_L_isStation_606 : decode b_L_isStation 606 = .ok (.invokevirtual 161, 3) := by decide +kernel
theorem d_L_isStation_609 : decode b_L_isStation 609 = .ok (.aload_n 0, 1) := by decide +kernel
theorem d_L_isStation_610 : decode b_L_isStation 610 = .ok (.invokevirtual 36, 3) := by decide +kernel
theorem d_L_isStation_613 : decode b_L_isStation 613 = .ok (.ifCond .ne 7, 3) := by decide +kernel
theorem d_L_isStation_616 : decode b_L_isStation 616 = .ok (.dconst 0, 1) := by decide +kernel
theorem d_L_isStation_617 : decode b_L_isStation 617 = .ok (.goto 11, 3) := by decide +kernel
theorem d_L_isStation_620 : decode b_L_isStation 620 = .ok (.iload_n 1, 1) := by decide +kernel
theorem d_L_isStation_621 : decode b_L_isStation 621 = .ok (.i2d, 1) := by decide +kernel
theorem d_L_isStation_622 : decode b_L_isStation 622 = .ok (.aload_n 0, 1) := by decide +kernel
theorem d_L_isStation_623 : decode b_L_isStation 623 = .ok (.invokevirtual 36, 3) := by decide +kernel
theorem d_L_isStation_626 : decode b_L_isStation 626 = .ok (.i2d, 1) := by decide +kernel
theorem d_L_isStation_627 : decode b_L_isStation 627 = .ok (.ddiv, 1) := by decide +kernel
theorem d_L_isStation_628 : decode b_L_isStation 628 = .ok (.dcmp .l, 1) := by decide +kernel
theorem d_L_isStation_629 : decode b_L_isStation 629 = .ok (.ifCond .ne 52, 3) := by decide +kernel
theorem d_L_isStation_632 : decode b_L_isStation 632 = .ok (.aload_n 0, 1) := by decide +kernel
theorem d_L_isStation_633 : decode b_L_isStation 633 = .ok (.invokevirtual 165, 3) := by decide +kernel
theorem d_L_isStation_636 : decode b_L_isStation 636 = .ok (.iload 5, 2) := by decide +kernel
theorem d_L_isStation_638 : decode b_L_isStation 638 = .ok (.ifCond .ne 7, 3) := by decide +kernel
theorem d_L_isStation_641 : decode b_L_isStation 641 = .ok (.fconst 0, 1) := by decide +kernel
theorem d_L_isStation_642 : decode b_L_isStation 642 = .ok (.goto 12, 3) := by decide +kernel
theorem d_L_isStation_645 : decode b_L_isStation 645 = .ok (.aload_n 0, 1) := by decide +kernel
theorem d_L_isStation_646 : decode b_L_isStation 646 = .ok (.invokevirtual 33, 3) := by decide +kernel
theorem d_L_isStation_649 : decode b_L_isStation 649 = .ok (.i2f, 1) := by decide +kernel
theorem d_L_isStation_650 : decode b_L_isStation 650 = .ok (.iload 5, 2) := by decide +kernel
theorem d_L_isStation_652 : decode b_L_isStation 652 = .ok (.i2f, 1) := by decide +kernel
theorem d_L_isStation_653 : decode b_L_isStation 653 = .ok (.fdiv, 1) := by decide +kernel
theorem d_L_isStation_654 : decode b_L_isStation 654 = .ok (.fcmp .l, 1) := by decide +kernel
theorem d_L_isStation_655 : decode b_L_isStation 655 = .ok (.ifCond .ne 26, 3) := by decide +kernel
theorem d_L_isStation_658 : decode b_L_isStation 658 = .ok (.aload_n 0, 1) := by decide +kernel
theorem d_L_isStation_659 : decode b_L_isStation 659 = .ok (.iconst 0, 1) := by decide +kernel
theorem d_L_isStation_660 : decode b_L_isStation 660 = .ok (.invokevirtual 169, 3) := by decide +kernel
theorem d_L_isStation_663 : decode b_L_isStation 663 = .ok (.aload_n 0, 1) := by decide +kernel
theorem d_L_isStation_664 : decode b_L_isStation 664 = .ok (.invokevirtual 49, 3) := by decide +kernel
theorem d_L_isStation_667 : decode b_L_isStation 667 = .ok (.if_icmp .ne 14, 3) := by decide +kernel
theorem d_L_isStation_670 : decode b_L_isStation 670 = .ok (.aload_n 0, 1) := by decide +kernel
theorem d_L_isStation_671 : decode b_L_isStation 671 = .ok (.invokevirtual 172, 3) := by decide +kernel
theorem d_L_isStation_674 : decode b_L_isStation 674 = .ok (.ifCond .ne 7, 3) := by decide +kernel
theorem d_L_isStation_677 : decode b_L_isStation 677 = .ok (.iconst 1, 1) := by decide +kernel
theorem d_L_isStation_678 : decode b_L_isStation 678 = .ok (.goto 4, 3) := by decide +kernel
theorem d_L_isStation_681 : decode b_L_isStation 681 = .ok (.iconst 0, 1) := by decide +kernel
theorem d_L_isStation_682 : decode b_L_isStation 682 = .ok (.ireturn, 1) := by decide +kernel
theorem cc_L_36 : CV "KiteLoggerLaw" 36 y_G_bufferSize b_G_bufferSize 1 (some .int) 0 := ⟨TT_in (i := 703) (by decide +kernel) (by decide +kernel), TT_in (i := 704) (by decide +kernel) (by decide +kernel), TT_in (i := 705) (by decide +kernel) (by decide +kernel), TT_in (i := 18) (by decide +kernel) (by decide +kernel), TT_in (i := 706) (by decide +kernel) (by decide +kernel), ⟨by decide +kernel, by decide +kernel, by decide +kernel⟩⟩
theorem cc_L_91 : CV "KiteLoggerLaw" 91 y_G_bufferedWind b_G_bufferedWind 2 (some .int) 1 := ⟨TT_in (i := 775) (by decide +kernel) (by decide +kernel), TT_in (i := 776) (by decide +kernel) (by decide +kernel), TT_in (i := 777) (by decide +kernel) (by decide +kernel), TT_in (i := 18) (by decide +kernel) (by decide +kernel), TT_in (i := 778) (by decide +kernel) (by decide +kernel), ⟨by decide +kernel, by decide +kernel, by decide +kernel⟩⟩
theorem ma_L_113 : Cond.methodLink "KiteLoggerLaw" 113 Lib.Math.max.name ∈ TT ∧ Cond.static Lib.Math.max.name ∈ TT ∧ Cond.initialized "java/lang/Math" ∈ TT ∧ Cond.code Lib.Math.max.name Lib.Math.max.code 2 (some .int) ∈ TT := ⟨TT_in (i := 860) (by decide +kernel) (by decide +kernel), TT_in (i := 255) (by decide +kernel) (by decide +kernel), TT_in (i := 21) (by decide +kernel) (by decide +kernel), TT_in (i := 256) (by decide +kernel) (by decide +kernel)⟩
theorem cc_L_33 : CV "KiteLoggerLaw" 33 y_G_archivedCount b_G_archivedCount 1 (some .int) 0 := ⟨TT_in (i := 699) (by decide +kernel) (by decide +kernel), TT_in (i := 700) (by decide +kernel) (by decide +kernel), TT_in (i := 701) (by decide +kernel) (by decide +kernel), TT_in (i := 18) (by decide +kernel) (by decide +kernel), TT_in (i := 702) (by decide +kernel) (by decide +kernel), ⟨by decide +kernel, by decide +kernel, by decide +kernel⟩⟩
theorem cc_L_104 : CV "KiteLoggerLaw" 104 y_G_archivedTick b_G_archivedTick 2 (some .int) 1 := ⟨TT_in (i := 842) (by decide +kernel) (by decide +kernel), TT_in (i := 843) (by decide +kernel) (by decide +kernel), TT_in (i := 844) (by decide +kernel) (by decide +kernel), TT_in (i := 18) (by decide +kernel) (by decide +kernel), TT_in (i := 845) (by decide +kernel) (by decide +kernel), ⟨by decide +kernel, by decide +kernel, by decide +kernel⟩⟩
theorem cc_L_119 : CV "KiteLoggerLaw" 119 y_G_archivedBefore b_G_archivedBefore 2 (some .int) 1 := ⟨TT_in (i := 861) (by decide +kernel) (by decide +kernel), TT_in (i := 862) (by decide +kernel) (by decide +kernel), TT_in (i := 863) (by decide +kernel) (by decide +kernel), TT_in (i := 18) (by decide +kernel) (by decide +kernel), TT_in (i := 864) (by decide +kernel) (by decide +kernel), ⟨by decide +kernel, by decide +kernel, by decide +kernel⟩⟩
theorem cc_L_107 : CV "KiteLoggerLaw" 107 y_G_archivedHeight b_G_archivedHeight 2 (some .int) 1 := ⟨TT_in (i := 846) (by decide +kernel) (by decide +kernel), TT_in (i := 847) (by decide +kernel) (by decide +kernel), TT_in (i := 848) (by decide +kernel) (by decide +kernel), TT_in (i := 18) (by decide +kernel) (by decide +kernel), TT_in (i := 849) (by decide +kernel) (by decide +kernel), ⟨by decide +kernel, by decide +kernel, by decide +kernel⟩⟩
theorem cc_L_122 : CV "KiteLoggerLaw" 122 y_G_highestArchived b_G_highestArchived 1 (some .int) 0 := ⟨TT_in (i := 870) (by decide +kernel) (by decide +kernel), TT_in (i := 871) (by decide +kernel) (by decide +kernel), TT_in (i := 872) (by decide +kernel) (by decide +kernel), TT_in (i := 18) (by decide +kernel) (by decide +kernel), TT_in (i := 873) (by decide +kernel) (by decide +kernel), ⟨by decide +kernel, by decide +kernel, by decide +kernel⟩⟩
theorem cc_L_30 : CV "KiteLoggerLaw" 30 y_G_loggedCount b_G_loggedCount 1 (some .int) 0 := ⟨TT_in (i := 695) (by decide +kernel) (by decide +kernel), TT_in (i := 696) (by decide +kernel) (by decide +kernel), TT_in (i := 697) (by decide +kernel) (by decide +kernel), TT_in (i := 18) (by decide +kernel) (by decide +kernel), TT_in (i := 698) (by decide +kernel) (by decide +kernel), ⟨by decide +kernel, by decide +kernel, by decide +kernel⟩⟩
theorem cc_L_95 : CV "KiteLoggerLaw" 95 y_G_loggedTick b_G_loggedTick 2 (some .int) 1 := ⟨TT_in (i := 790) (by decide +kernel) (by decide +kernel), TT_in (i := 791) (by decide +kernel) (by decide +kernel), TT_in (i := 792) (by decide +kernel) (by decide +kernel), TT_in (i := 18) (by decide +kernel) (by decide +kernel), TT_in (i := 793) (by decide +kernel) (by decide +kernel), ⟨by decide +kernel, by decide +kernel, by decide +kernel⟩⟩
theorem cc_L_39 : CV "KiteLoggerLaw" 39 y_G_tick b_G_tick 1 (some .int) 0 := ⟨TT_in (i := 707) (by decide +kernel) (by decide +kernel), TT_in (i := 708) (by decide +kernel) (by decide +kernel), TT_in (i := 709) (by decide +kernel) (by decide +kernel), TT_in (i := 18) (by decide +kernel) (by decide +kernel), TT_in (i := 710) (by decide +kernel) (by decide +kernel), ⟨by decide +kernel, by decide +kernel, by decide +kernel⟩⟩
theorem cc_L_98 : CV "KiteLoggerLaw" 98 y_G_loggedHeight b_G_loggedHeight 2 (some .int) 1 := ⟨TT_in (i := 826) (by decide +kernel) (by decide +kernel), TT_in (i := 827) (by decide +kernel) (by decide +kernel), TT_in (i := 828) (by decide +kernel) (by decide +kernel), TT_in (i := 18) (by decide +kernel) (by decide +kernel), TT_in (i := 829) (by decide +kernel) (by decide +kernel), ⟨by decide +kernel, by decide +kernel, by decide +kernel⟩⟩
theorem cc_L_101 : CV "KiteLoggerLaw" 101 y_G_loggedGust b_G_loggedGust 2 (some .int) 1 := ⟨TT_in (i := 834) (by decide +kernel) (by decide +kernel), TT_in (i := 835) (by decide +kernel) (by decide +kernel), TT_in (i := 836) (by decide +kernel) (by decide +kernel), TT_in (i := 18) (by decide +kernel) (by decide +kernel), TT_in (i := 837) (by decide +kernel) (by decide +kernel), ⟨by decide +kernel, by decide +kernel, by decide +kernel⟩⟩
theorem cc_L_125 : CV "KiteLoggerLaw" 125 y_G_archivedBetween b_G_archivedBetween 3 (some .int) 2 := ⟨TT_in (i := 879) (by decide +kernel) (by decide +kernel), TT_in (i := 880) (by decide +kernel) (by decide +kernel), TT_in (i := 881) (by decide +kernel) (by decide +kernel), TT_in (i := 18) (by decide +kernel) (by decide +kernel), TT_in (i := 882) (by decide +kernel) (by decide +kernel), ⟨by decide +kernel, by decide +kernel, by decide +kernel⟩⟩
theorem cc_L_128 : CV "KiteLoggerLaw" 128 y_G_meanGust b_G_meanGust 4 (some .double) 1 := ⟨TT_in (i := 888) (by decide +kernel) (by decide +kernel), TT_in (i := 889) (by decide +kernel) (by decide +kernel), TT_in (i := 890) (by decide +kernel) (by decide +kernel), TT_in (i := 18) (by decide +kernel) (by decide +kernel), TT_in (i := 891) (by decide +kernel) (by decide +kernel), ⟨by decide +kernel, by decide +kernel, by decide +kernel⟩⟩
theorem cc_L_82 : CV "KiteLoggerLaw" 82 y_G_droppedCount b_G_droppedCount 1 (some .int) 0 := ⟨TT_in (i := 763) (by decide +kernel) (by decide +kernel), TT_in (i := 764) (by decide +kernel) (by decide +kernel), TT_in (i := 765) (by decide +kernel) (by decide +kernel), TT_in (i := 18) (by decide +kernel) (by decide +kernel), TT_in (i := 766) (by decide +kernel) (by decide +kernel), ⟨by decide +kernel, by decide +kernel, by decide +kernel⟩⟩
theorem cc_L_42 : CV "KiteLoggerLaw" 42 y_G_isLanded b_G_isLanded 1 (some .boolean) 0 := ⟨TT_in (i := 711) (by decide +kernel) (by decide +kernel), TT_in (i := 712) (by decide +kernel) (by decide +kernel), TT_in (i := 713) (by decide +kernel) (by decide +kernel), TT_in (i := 18) (by decide +kernel) (by decide +kernel), TT_in (i := 714) (by decide +kernel) (by decide +kernel), ⟨by decide +kernel, by decide +kernel, by decide +kernel⟩⟩
theorem cc_L_46 : CV "KiteLoggerLaw" 46 y_G_isFlying b_G_isFlying 1 (some .boolean) 0 := ⟨TT_in (i := 715) (by decide +kernel) (by decide +kernel), TT_in (i := 716) (by decide +kernel) (by decide +kernel), TT_in (i := 717) (by decide +kernel) (by decide +kernel), TT_in (i := 18) (by decide +kernel) (by decide +kernel), TT_in (i := 718) (by decide +kernel) (by decide +kernel), ⟨by decide +kernel, by decide +kernel, by decide +kernel⟩⟩
theorem cc_L_134 : CV "KiteLoggerLaw" 134 y_G_safeHeight b_G_safeHeight 3 (some .int) 0 := ⟨TT_in (i := 906) (by decide +kernel) (by decide +kernel), TT_in (i := 907) (by decide +kernel) (by decide +kernel), TT_in (i := 908) (by decide +kernel) (by decide +kernel), TT_in (i := 18) (by decide +kernel) (by decide +kernel), TT_in (i := 909) (by decide +kernel) (by decide +kernel), ⟨by decide +kernel, by decide +kernel, by decide +kernel⟩⟩
theorem cc_L_137 : CV "KiteLoggerLaw" 137 y_G_launchObstacle b_G_launchObstacle 1 (some .int) 0 := ⟨TT_in (i := 920) (by decide +kernel) (by decide +kernel), TT_in (i := 921) (by decide +kernel) (by decide +kernel), TT_in (i := 922) (by decide +kernel) (by decide +kernel), TT_in (i := 18) (by decide +kernel) (by decide +kernel), TT_in (i := 923) (by decide +kernel) (by decide +kernel), ⟨by decide +kernel, by decide +kernel, by decide +kernel⟩⟩
theorem cc_L_140 : CV "KiteLoggerLaw" 140 y_G_isFallen b_G_isFallen 1 (some .boolean) 0 := ⟨TT_in (i := 932) (by decide +kernel) (by decide +kernel), TT_in (i := 933) (by decide +kernel) (by decide +kernel), TT_in (i := 934) (by decide +kernel) (by decide +kernel), TT_in (i := 18) (by decide +kernel) (by decide +kernel), TT_in (i := 935) (by decide +kernel) (by decide +kernel), ⟨by decide +kernel, by decide +kernel, by decide +kernel⟩⟩
theorem cc_L_49 : CV "KiteLoggerLaw" 49 y_G_height b_G_height 1 (some .int) 0 := ⟨TT_in (i := 719) (by decide +kernel) (by decide +kernel), TT_in (i := 720) (by decide +kernel) (by decide +kernel), TT_in (i := 721) (by decide +kernel) (by decide +kernel), TT_in (i := 18) (by decide +kernel) (by decide +kernel), TT_in (i := 722) (by decide +kernel) (by decide +kernel), ⟨by decide +kernel, by decide +kernel, by decide +kernel⟩⟩
theorem cc_L_52 : CV "KiteLoggerLaw" 52 y_G_tether b_G_tether 1 (some .int) 0 := ⟨TT_in (i := 723) (by decide +kernel) (by decide +kernel), TT_in (i := 724) (by decide +kernel) (by decide +kernel), TT_in (i := 725) (by decide +kernel) (by decide +kernel), TT_in (i := 18) (by decide +kernel) (by decide +kernel), TT_in (i := 726) (by decide +kernel) (by decide +kernel), ⟨by decide +kernel, by decide +kernel, by decide +kernel⟩⟩
theorem cc_L_67 : CV "KiteLoggerLaw" 67 y_G_beaconTime b_G_beaconTime 1 (some .int) 0 := ⟨TT_in (i := 743) (by decide +kernel) (by decide +kernel), TT_in (i := 744) (by decide +kernel) (by decide +kernel), TT_in (i := 745) (by decide +kernel) (by decide +kernel), TT_in (i := 18) (by decide +kernel) (by decide +kernel), TT_in (i := 746) (by decide +kernel) (by decide +kernel), ⟨by decide +kernel, by decide +kernel, by decide +kernel⟩⟩
theorem cc_L_73 : CV "KiteLoggerLaw" 73 y_G_snaps b_G_snaps 1 (some .int) 0 := ⟨TT_in (i := 751) (by decide +kernel) (by decide +kernel), TT_in (i := 752) (by decide +kernel) (by decide +kernel), TT_in (i := 753) (by decide +kernel) (by decide +kernel), TT_in (i := 18) (by decide +kernel) (by decide +kernel), TT_in (i := 754) (by decide +kernel) (by decide +kernel), ⟨by decide +kernel, by decide +kernel, by decide +kernel⟩⟩
theorem cc_L_70 : CV "KiteLoggerLaw" 70 y_G_launches b_G_launches 1 (some .int) 0 := ⟨TT_in (i := 747) (by decide +kernel) (by decide +kernel), TT_in (i := 748) (by decide +kernel) (by decide +kernel), TT_in (i := 749) (by decide +kernel) (by decide +kernel), TT_in (i := 18) (by decide +kernel) (by decide +kernel), TT_in (i := 750) (by decide +kernel) (by decide +kernel), ⟨by decide +kernel, by decide +kernel, by decide +kernel⟩⟩
theorem cc_L_158 : CV "KiteLoggerLaw" 158 y_G_greatestWind b_G_greatestWind 1 (some .int) 0 := ⟨TT_in (i := 978) (by decide +kernel) (by decide +kernel), TT_in (i := 979) (by decide +kernel) (by decide +kernel), TT_in (i := 980) (by decide +kernel) (by decide +kernel), TT_in (i := 18) (by decide +kernel) (by decide +kernel), TT_in (i := 981) (by decide +kernel) (by decide +kernel), ⟨by decide +kernel, by decide +kernel, by decide +kernel⟩⟩
theorem cc_L_161 : CV "KiteLoggerLaw" 161 y_G_meanWind b_G_meanWind 1 (some .double) 0 := ⟨TT_in (i := 988) (by decide +kernel) (by decide +kernel), TT_in (i := 989) (by decide +kernel) (by decide +kernel), TT_in (i := 990) (by decide +kernel) (by decide +kernel), TT_in (i := 18) (by decide +kernel) (by decide +kernel), TT_in (i := 991) (by decide +kernel) (by decide +kernel), ⟨by decide +kernel, by decide +kernel, by decide +kernel⟩⟩
theorem cc_L_165 : CV "KiteLoggerLaw" 165 y_G_archivedShare b_G_archivedShare 1 (some .float) 0 := ⟨TT_in (i := 996) (by decide +kernel) (by decide +kernel), TT_in (i := 997) (by decide +kernel) (by decide +kernel), TT_in (i := 998) (by decide +kernel) (by decide +kernel), TT_in (i := 18) (by decide +kernel) (by decide +kernel), TT_in (i := 999) (by decide +kernel) (by decide +kernel), ⟨by decide +kernel, by decide +kernel, by decide +kernel⟩⟩
theorem cc_L_169 : CV "KiteLoggerLaw" 169 y_G_heightAfter b_G_heightAfter 3 (some .int) 1 := ⟨TT_in (i := 1000) (by decide +kernel) (by decide +kernel), TT_in (i := 1001) (by decide +kernel) (by decide +kernel), TT_in (i := 1002) (by decide +kernel) (by decide +kernel), TT_in (i := 18) (by decide +kernel) (by decide +kernel), TT_in (i := 1003) (by decide +kernel) (by decide +kernel), ⟨by decide +kernel, by decide +kernel, by decide +kernel⟩⟩
theorem cc_L_172 : CV "KiteLoggerLaw" 172 y_G_gap b_G_gap 2 (some .int) 0 := ⟨TT_in (i := 1004) (by decide +kernel) (by decide +kernel), TT_in (i := 1005) (by decide +kernel) (by decide +kernel), TT_in (i := 1006) (by decide +kernel) (by decide +kernel), TT_in (i := 18) (by decide +kernel) (by decide +kernel), TT_in (i := 1007) (by decide +kernel) (by decide +kernel), ⟨by decide +kernel, by decide +kernel, by decide +kernel⟩⟩
theorem cc_L_155 : CV "KiteLoggerLaw" 155 y_G_windAt b_G_windAt 2 (some .int) 1 := ⟨TT_in (i := 974) (by decide +kernel) (by decide +kernel), TT_in (i := 975) (by decide +kernel) (by decide +kernel), TT_in (i := 976) (by decide +kernel) (by decide +kernel), TT_in (i := 18) (by decide +kernel) (by decide +kernel), TT_in (i := 977) (by decide +kernel) (by decide +kernel), ⟨by decide +kernel, by decide +kernel, by decide +kernel⟩⟩
theorem cc_L_64 : CV "KiteLoggerLaw" 64 y_G_flightTime b_G_flightTime 1 (some .int) 0 := ⟨TT_in (i := 739) (by decide +kernel) (by decide +kernel), TT_in (i := 740) (by decide +kernel) (by decide +kernel), TT_in (i := 741) (by decide +kernel) (by decide +kernel), TT_in (i := 18) (by decide +kernel) (by decide +kernel), TT_in (i := 742) (by decide +kernel) (by decide +kernel), ⟨by decide +kernel, by decide +kernel, by decide +kernel⟩⟩
theorem ma_L_152 : Cond.methodLink "KiteLoggerLaw" 152 Lib.Math.min.name ∈ TT ∧ Cond.static Lib.Math.min.name ∈ TT ∧ Cond.initialized "java/lang/Math" ∈ TT ∧ Cond.code Lib.Math.min.name Lib.Math.min.code 2 (some .int) ∈ TT := ⟨TT_in (i := 973) (by decide +kernel) (by decide +kernel), TT_in (i := 107) (by decide +kernel) (by decide +kernel), TT_in (i := 21) (by decide +kernel) (by decide +kernel), TT_in (i := 108) (by decide +kernel) (by decide +kernel)⟩
theorem cc_L_149 : CV "KiteLoggerLaw" 149 y_G_ticksToSnap b_G_ticksToSnap 2 (some .int) 0 := ⟨TT_in (i := 945) (by decide +kernel) (by decide +kernel), TT_in (i := 946) (by decide +kernel) (by decide +kernel), TT_in (i := 947) (by decide +kernel) (by decide +kernel), TT_in (i := 18) (by decide +kernel) (by decide +kernel), TT_in (i := 948) (by decide +kernel) (by decide +kernel), ⟨by decide +kernel, by decide +kernel, by decide +kernel⟩⟩
theorem cc_L_88 : CV "KiteLoggerLaw" 88 y_G_patternLength b_G_patternLength 1 (some .int) 0 := ⟨TT_in (i := 771) (by decide +kernel) (by decide +kernel), TT_in (i := 772) (by decide +kernel) (by decide +kernel), TT_in (i := 773) (by decide +kernel) (by decide +kernel), TT_in (i := 18) (by decide +kernel) (by decide +kernel), TT_in (i := 774) (by decide +kernel) (by decide +kernel), ⟨by decide +kernel, by decide +kernel, by decide +kernel⟩⟩
theorem cc_L_143 : CV "KiteLoggerLaw" 143 y_G_gust b_G_gust 2 (some .int) 1 := ⟨TT_in (i := 936) (by decide +kernel) (by decide +kernel), TT_in (i := 937) (by decide +kernel) (by decide +kernel), TT_in (i := 938) (by decide +kernel) (by decide +kernel), TT_in (i := 18) (by decide +kernel) (by decide +kernel), TT_in (i := 939) (by decide +kernel) (by decide +kernel), ⟨by decide +kernel, by decide +kernel, by decide +kernel⟩⟩
theorem cc_L_146 : CV "KiteLoggerLaw" 146 y_G_loadOf b_G_loadOf 2 (some .int) 1 := ⟨TT_in (i := 941) (by decide +kernel) (by decide +kernel), TT_in (i := 942) (by decide +kernel) (by decide +kernel), TT_in (i := 943) (by decide +kernel) (by decide +kernel), TT_in (i := 18) (by decide +kernel) (by decide +kernel), TT_in (i := 944) (by decide +kernel) (by decide +kernel), ⟨by decide +kernel, by decide +kernel, by decide +kernel⟩⟩
theorem cc_L_55 : CV "KiteLoggerLaw" 55 y_G_limit b_G_limit 1 (some .int) 0 := ⟨TT_in (i := 727) (by decide +kernel) (by decide +kernel), TT_in (i := 728) (by decide +kernel) (by decide +kernel), TT_in (i := 729) (by decide +kernel) (by decide +kernel), TT_in (i := 18) (by decide +kernel) (by decide +kernel), TT_in (i := 730) (by decide +kernel) (by decide +kernel), ⟨by decide +kernel, by decide +kernel, by decide +kernel⟩⟩
def lp_L_isStation_6 (N0 rr : Nat)   : Nat → Int32 × Int32 × Int32 → Mem → (Int32 × Int32 × Int32 → Mem → Option (Bool × Mem)) → Option (Bool × Mem)
  | 0, _, _, _ => none
  | N + 1, v6, M, k6 => bnd (f_G_bufferSize M) fun (x1 : Int32) (M2 : Mem) => if v6.2.2 < x1 then (bnd (f_G_bufferedWind v6.2.2 M2) fun (x3 : Int32) (M4 : Mem) => nm (v6.1 + x3) fun (x5 : Int32) => bnd (f_G_bufferedWind v6.2.2 M4) fun (x6 : Int32) (M7 : Mem) => nm (imax v6.2.1 x6) fun (x8 : Int32) => nm (v6.2.2 + (1 : Int32)) fun (x9 : Int32) => lp_L_isStation_6 N0 rr N (x5, x8, x9) M7 k6) else (k6 (v6.1, v6.2.1, v6.2.2) M2)
def lp_L_isStation_43 (N0 rr : Nat)  (c1 : Int32) (c2 : Int32) : Nat → Int32 × Int32 → Mem → (Int32 × Int32 → Mem → Option (Bool × Mem)) → Option (Bool × Mem)
  | 0, _, _, _ => none
  | N + 1, v43, M, k43 => bnd (f_G_archivedCount M) fun (x12 : Int32) (M13 : Mem) => if v43.2 < x12 then (bnd (f_G_archivedTick v43.2 M13) fun (x14 : Int32) (M15 : Mem) => if v43.1 < x14 then (bnd (f_G_archivedTick v43.2 M15) fun (x16 : Int32) (M17 : Mem) => bnd (f_G_archivedBefore N0 rr x16 M17) fun (x18 : Int32) (M19 : Mem) => if x18 = v43.2 then (bnd (f_G_archivedTick v43.2 M19) fun (x20 : Int32) (M21 : Mem) => bnd (f_G_archivedBefore N0 rr (x20 - (1 : Int32)) M21) fun (x22 : Int32) (M23 : Mem) => if x22 = (v43.2 - (1 : Int32)) then (bnd (f_G_archivedHeight v43.2 M23) fun (x24 : Int32) (M25 : Mem) => bnd (f_G_highestArchived N0 rr M25) fun (x26 : Int32) (M27 : Mem) => bnd (f_G_archivedHeight x26 M27) fun (x28 : Int32) (M29 : Mem) => if x28 < x24 then (some (false, M29)) else (bnd (f_G_archivedTick v43.2 M29) fun (x30 : Int32) (M31 : Mem) => nm (v43.2 + (1 : Int32)) fun (x32 : Int32) => lp_L_isStation_43 N0 rr c1 c2 N (x30, x32) M31 k43)) else (some (false, M23))) else (some (false, M19))) else (some (false, M15))) else (k43 (v43.1, v43.2) M13)
def lp_L_isStation_131 (N0 rr : Nat)  (c1 : Int32) (c2 : Int32) : Nat → Int32 × Int32 → Mem → (Int32 × Int32 → Mem → Option (Bool × Mem)) → Option (Bool × Mem)
  | 0, _, _, _ => none
  | N + 1, v131, M, k131 => bnd (f_G_loggedCount M) fun (x35 : Int32) (M36 : Mem) => if v131.2 < x35 then (bnd (f_G_loggedTick v131.2 M36) fun (x37 : Int32) (M38 : Mem) => if v131.1 < x37 then (bnd (f_G_loggedTick v131.2 M38) fun (x39 : Int32) (M40 : Mem) => bnd (f_G_tick M40) fun (x41 : Int32) (M42 : Mem) => if x39 < x41 then (bnd (f_G_loggedHeight v131.2 M42) fun (x43 : Int32) (M44 : Mem) => if x43 < (1 : Int32) then (some (false, M44)) else (bnd (f_G_loggedHeight v131.2 M44) fun (x45 : Int32) (M46 : Mem) => if x45 ≤ (600 : Int32) then (bnd (f_G_loggedGust v131.2 M46) fun (x47 : Int32) (M48 : Mem) => if (36 : Int32) < x47 then (some (false, M48)) else (bnd (f_G_loggedTick v131.2 M48) fun (x49 : Int32) (M50 : Mem) => nm (v131.2 + (1 : Int32)) fun (x51 : Int32) => lp_L_isStation_131 N0 rr c1 c2 N (x49, x51) M50 k131)) else (some (false, M46)))) else (some (false, M42))) else (some (false, M38))) else (k131 (v131.1, v131.2) M36)
def lp_L_isStation_217 (N0 rr : Nat)  (c1 : Int32) (c2 : Int32) (c3 : Int32) : Nat → Int32 × Int32 → Mem → (Int32 × Int32 → Mem → Option (Bool × Mem)) → Option (Bool × Mem)
  | 0, _, _, _ => none
  | N + 1, v217, M, k217 => if v217.2 < (7 : Int32) then (bnd (f_G_archivedBetween N0 rr ((100 : Int32) * v217.2) (((100 : Int32) * v217.2) + (99 : Int32)) M) fun (x54 : Int32) (M55 : Mem) => nm (v217.1 + x54) fun (x56 : Int32) => jn (fun (x58 : Unit) (M59 : Mem) => bnd (f_G_meanGust N0 rr v217.2 M59) fun (x60 : UInt64) (M61 : Mem) => if (Op.cmpValue (FP.dcmp x60 0) .g) < 0 then (some (false, M61)) else (bnd (f_G_meanGust N0 rr v217.2 M61) fun (x62 : UInt64) (M63 : Mem) => if 0 < (Op.cmpValue (FP.dcmp x62 (4630263366890291200 : UInt64)) .l) then (some (false, M63)) else (nm (v217.2 + (1 : Int32)) fun (x64 : Int32) => lp_L_isStation_217 N0 rr c1 c2 c3 N (x56, x64) M63 k217))) (fun j57 => if x54 = 0 then (bnd (f_G_meanGust N0 rr v217.2 M55) fun (x65 : UInt64) (M66 : Mem) => if (Op.cmpValue (FP.dcmp x65 0) .l) = 0 then (j57 () M66) else (some (false, M66))) else (j57 () M55))) else (k217 (v217.1, v217.2) M)
def lp_L_isStation_382 (N0 rr : Nat)  (c1 : Int32) (c2 : Int32) (c3 : Int32) (c4 : Int32) (c5 : Int32) (c6 : Bool) (c7 : Bool) (c8 : Int32) (c9 : Int32) (c10 : Int32) : Nat → Int32 → Mem → (Int32 → Mem → Option (Bool × Mem)) → Option (Bool × Mem)
  | 0, _, _, _ => none
  | N + 1, v382, M, k382 => bnd (f_G_patternLength M) fun (x176 : Int32) (M177 : Mem) => if v382 < x176 then (bnd (f_G_gust v382 M177) fun (x178 : Int32) (M179 : Mem) => bnd (f_G_loadOf (x178 + (c8 / (100 : Int32))) M179) fun (x180 : Int32) (M181 : Mem) => bnd (f_G_limit M181) fun (x182 : Int32) (M183 : Mem) => if x182 < x180 then (some (false, M183)) else (nm (v382 + (1 : Int32)) fun (x184 : Int32) => lp_L_isStation_382 N0 rr c1 c2 c3 c4 c5 c6 c7 c8 c9 c10 N x184 M183 k382)) else (k382 v382 M177)
def f_L_isStation (N : Nat) (rr : Nat) (M : Mem) : Option (Bool × Mem) :=
  lp_L_isStation_6 N rr N ((0 : Int32), (0 : Int32), (0 : Int32)) M (fun (a11 : Int32 × Int32 × Int32) (M10 : Mem) => lp_L_isStation_43 N rr a11.1 a11.2.1 N ((-1 : Int32), (0 : Int32)) M10 (fun (a34 : Int32 × Int32) (M33 : Mem) => lp_L_isStation_131 N rr a11.1 a11.2.1 N (a34.1, (0 : Int32)) M33 (fun (a53 : Int32 × Int32) (M52 : Mem) => lp_L_isStation_217 N rr a11.1 a11.2.1 a53.1 N ((0 : Int32), (0 : Int32)) M52 (fun (a68 : Int32 × Int32) (M67 : Mem) => bnd (f_G_loggedCount M67) fun (x69 : Int32) (M70 : Mem) => bnd (f_G_archivedCount M70) fun (x71 : Int32) (M72 : Mem) => bnd (f_G_droppedCount M72) fun (x73 : Int32) (M74 : Mem) => nm ((x69 + x71) + x73) fun (x75 : Int32) => bnd (f_G_isLanded M74) fun (x76 : Bool) (M77 : Mem) => bnd (f_G_isFlying M77) fun (x78 : Bool) (M79 : Mem) => bnd (f_G_safeHeight N rr M79) fun (x80 : Int32) (M81 : Mem) => bnd (f_G_launchObstacle M81) fun (x82 : Int32) (M83 : Mem) => jn (fun (x85 : Bool) (M86 : Mem) => jn (fun (x88 : Bool) (M89 : Mem) => bnd (f_G_isFallen M89) fun (x90 : Bool) (M91 : Mem) => jn (fun (x93 : Bool) (M94 : Mem) => nm (((b2i x85) + (b2i x88)) + (b2i x93)) fun (x95 : Int32) => jn (fun (x97 : Unit) (M98 : Mem) => if x95 = (1 : Int32) then (bnd (f_G_height M98) fun (x99 : Int32) (M100 : Mem) => bnd (f_G_tether M100) fun (x101 : Int32) (M102 : Mem) => if x99 ≤ x101 then (bnd (f_G_height M102) fun (x103 : Int32) (M104 : Mem) => jn (fun (x106 : Bool) (M107 : Mem) => if (b2i x78) = (b2i x106) then (jn (fun (x109 : Unit) (M110 : Mem) => bnd (f_G_isFallen M110) fun (x111 : Bool) (M112 : Mem) => jn (fun (x114 : Unit) (M115 : Mem) => bnd (f_G_beaconTime M115) fun (x116 : Int32) (M117 : Mem) => if x116 ≤ (120 : Int32) then (jn (fun (x119 : Unit) (M120 : Mem) => jn (fun (x122 : Bool) (M123 : Mem) => if (b2i x122) = (b2i x78) then (jn (fun (x125 : Bool) (M126 : Mem) => bnd (f_G_isFallen M126) fun (x127 : Bool) (M128 : Mem) => if (b2i x125) = (b2i x127) then (jn (fun (x130 : Unit) (M131 : Mem) => bnd (f_G_snaps M131) fun (x132 : Int32) (M133 : Mem) => bnd (f_G_launches M133) fun (x134 : Int32) (M135 : Mem) => if x132 ≤ x134 then (bnd (f_G_archivedCount M135) fun (x136 : Int32) (M137 : Mem) => if a68.1 = x136 then (bnd (f_G_greatestWind N rr M137) fun (x138 : Int32) (M139 : Mem) => if a11.2.1 = x138 then (bnd (f_G_meanWind N rr M139) fun (x140 : UInt64) (M141 : Mem) => bnd (f_G_bufferSize M141) fun (x142 : Int32) (M143 : Mem) => jn (fun (x145 : UInt64) (M146 : Mem) => if (Op.cmpValue (FP.dcmp x140 x145) .l) = 0 then (bnd (f_G_archivedShare M146) fun (x147 : UInt32) (M148 : Mem) => jn (fun (x150 : UInt32) (M151 : Mem) => if (Op.cmpValue (FP.fcmp x147 x150) .l) = 0 then (bnd (f_G_heightAfter N rr (0 : Int32) M151) fun (x152 : Int32) (M153 : Mem) => bnd (f_G_height M153) fun (x154 : Int32) (M155 : Mem) => if x152 = x154 then (bnd (f_G_gap N rr M155) fun (x156 : Int32) (M157 : Mem) => if x156 = 0 then (some (true, M157)) else (some (false, M157))) else (some (false, M155))) else (some (false, M151))) (fun j149 => if x75 = 0 then (j149 0 M148) else (bnd (f_G_archivedCount M148) fun (x158 : Int32) (M159 : Mem) => grd (nn32 (FP.fdiv (FP.i2f x158) (FP.i2f x75))) (j149 (FP.fdiv (FP.i2f x158) (FP.i2f x75)) M159)))) else (some (false, M146))) (fun j144 => if x142 = 0 then (j144 0 M143) else (bnd (f_G_bufferSize M143) fun (x160 : Int32) (M161 : Mem) => grd (nn64 (FP.ddiv (FP.i2d a11.1) (FP.i2d x160))) (j144 (FP.ddiv (FP.i2d a11.1) (FP.i2d x160)) M161)))) else (some (false, M139))) else (some (false, M137))) else (some (false, M135))) (fun j129 => if x82 = 0 then (bnd (f_G_tether M128) fun (x162 : Int32) (M163 : Mem) => if x162 < (10 : Int32) then (some (false, M163)) else (bnd (f_G_windAt (0 : Int32) M163) fun (x164 : Int32) (M165 : Mem) => if x164 < (5 : Int32) then (some (false, M165)) else (j129 () M165))) else (j129 () M128))) else (some (false, M128))) (fun j124 => if x82 = (2 : Int32) then (j124 true M123) else (j124 false M123))) else (some (false, M123))) (fun j121 => if x82 = (1 : Int32) then (j121 true M120) else (j121 false M120))) (fun j118 => if x78 = true then (bnd (f_G_bufferSize M117) fun (x166 : Int32) (M167 : Mem) => bnd (f_G_flightTime M167) fun (x168 : Int32) (M169 : Mem) => if x166 = (imin (8 : Int32) x168) then (j118 () M169) else (some (false, M169))) else (j118 () M117))) else (some (false, M117))) (fun j113 => if x111 = true then (j113 () M112) else (bnd (f_G_beaconTime M112) fun (x170 : Int32) (M171 : Mem) => if x170 = 0 then (j113 () M171) else (some (false, M171))))) (fun j108 => if x78 = true then (j108 () M107) else (bnd (f_G_flightTime M107) fun (x172 : Int32) (M173 : Mem) => if x172 = 0 then (bnd (f_G_ticksToSnap N rr M173) fun (x174 : Int32) (M175 : Mem) => if x174 = (-1 : Int32) then (j108 () M175) else (some (false, M175))) else (some (false, M173))))) else (some (false, M107))) (fun j105 => if 0 < x103 then (j105 true M104) else (j105 false M104))) else (some (false, M102))) else (some (false, M98))) (fun j96 => if x80 < 0 then (j96 () M94) else (lp_L_isStation_382 N rr a11.1 a11.2.1 a53.1 a68.1 x75 x76 x78 x80 x82 x95 N (0 : Int32) M94 (fun (a186 : Int32) (M185 : Mem) => j96 () M185)))) (fun j92 => if x90 = true then (j92 true M91) else (j92 false M91))) (fun j87 => if x78 = true then (j87 true M86) else (j87 false M86))) (fun j84 => if x76 = true then (j84 true M83) else (j84 false M83))))))
set_option maxHeartbeats 4000000 in
set_option maxRecDepth 100000 in
theorem c_L_isStation (l : Launch) (N : Nat) {w : Wc} {rr : Nat} (hw : WK w rr)  (M : Mem) : Ct QZ l y_L_isStation b_L_isStation 12 (some .boolean) (rmL 4) w [.ref (wad w 0)] M (f_L_isStation N rr M) := by
  refine Ct.go (by decide) (L := [(0, .ref (wad w 0))]) rfl (Nat.le_of_ble_eq_true rfl) (fun p0 e s m args below meth c g hret => ?_)
  unfold f_L_isStation
  refine G_iconst g (pc := 0) (0 : Int32) d_L_isStation_0 rfl ?_
  refine G_istore_n g (pc := 1) _ d_L_isStation_1 rfl (Nat.le_of_ble_eq_true rfl) rfl ?_
  refine G_sub [0, 1] [(1, .int (0 : Int32)), (0, .ref (wad w 0))] rfl ?_
  refine G_iconst g (pc := 2) (0 : Int32) d_L_isStation_2 rfl ?_
  refine G_istore_n g (pc := 3) _ d_L_isStation_3 rfl (Nat.le_of_ble_eq_true rfl) rfl ?_
  refine G_sub [0, 1, 2] [(2, .int (0 : Int32)), (1, .int (0 : Int32)), (0, .ref (wad w 0))] rfl ?_
  refine G_iconst g (pc := 4) (0 : Int32) d_L_isStation_4 rfl ?_
  refine G_istore_n g (pc := 5) _ d_L_isStation_5 rfl (Nat.le_of_ble_eq_true rfl) rfl ?_
  refine G_sub [0, 1, 2, 3] [(3, .int (0 : Int32)), (2, .int (0 : Int32)), (1, .int (0 : Int32)), (0, .ref (wad w 0))] rfl ?_
  refine G_sub [3, 2, 1, 0] _ rfl ?_
  refine G_loop (F := lp_L_isStation_6 N rr) 6 38 (fun (v6 : Int32 × Int32 × Int32) => [(0, .ref (wad w 0)), (1, .int v6.1), (2, .int v6.2.1), (3, .int v6.2.2)]) (fun (v6 : Int32 × Int32 × Int32) => [(0, .ref (wad w 0)), (1, .int v6.1), (2, .int v6.2.1), (3, .int v6.2.2)]) (fun _ _ _ => rfl) (fun a11 M10 => ?_) (fun k6 hk6 Nl6 ih6 v6 M => ?_) N ((0 : Int32), (0 : Int32), (0 : Int32)) M
  · refine G_iconst g (pc := 38) (-1 : Int32) d_L_isStation_38 rfl ?_
    refine G_istore_n g (pc := 39) _ d_L_isStation_39 rfl (Nat.le_of_ble_eq_true rfl) rfl ?_
    refine G_sub [0, 1, 2, 3] [(3, .int (-1 : Int32)), (0, .ref (wad w 0)), (1, .int a11.1), (2, .int a11.2.1)] rfl ?_
    refine G_iconst g (pc := 40) (0 : Int32) d_L_isStation_40 rfl ?_
    refine G_istore g (pc := 41) _ d_L_isStation_41 (Nat.le_of_ble_eq_true rfl) rfl ?_
    refine G_sub [0, 1, 2, 3, 4] [(4, .int (0 : Int32)), (3, .int (-1 : Int32)), (0, .ref (wad w 0)), (1, .int a11.1), (2, .int a11.2.1)] rfl ?_
    refine G_sub [2, 3, 4, 1, 0] _ rfl ?_
    refine G_loop (F := lp_L_isStation_43 N rr a11.1 a11.2.1) 43 128 (fun (v43 : Int32 × Int32) => [(0, .ref (wad w 0)), (1, .int a11.1), (2, .int a11.2.1), (3, .int v43.1), (4, .int v43.2)]) (fun (v43 : Int32 × Int32) => [(0, .ref (wad w 0)), (1, .int a11.1), (2, .int a11.2.1), (3, .int v43.1), (4, .int v43.2)]) (fun _ _ _ => rfl) (fun a34 M33 => ?_) (fun k43 hk43 Nl43 ih43 v43 M => ?_) N ((-1 : Int32), (0 : Int32)) M10
    · refine G_iconst g (pc := 128) (0 : Int32) d_L_isStation_128 rfl ?_
      refine G_istore g (pc := 129) _ d_L_isStation_129 (Nat.le_of_ble_eq_true rfl) rfl ?_
      refine G_sub [0, 1, 2, 3, 4] [(4, .int (0 : Int32)), (0, .ref (wad w 0)), (1, .int a11.1), (2, .int a11.2.1), (3, .int a34.1)] rfl ?_
      refine G_sub [1, 2, 3, 4, 0] _ rfl ?_
      refine G_loop (F := lp_L_isStation_131 N rr a11.1 a11.2.1) 131 211 (fun (v131 : Int32 × Int32) => [(0, .ref (wad w 0)), (1, .int a11.1), (2, .int a11.2.1), (3, .int v131.1), (4, .int v131.2)]) (fun (v131 : Int32 × Int32) => [(0, .ref (wad w 0)), (1, .int a11.1), (2, .int a11.2.1), (3, .int v131.1), (4, .int v131.2)]) (fun _ _ _ => rfl) (fun a53 M52 => ?_) (fun k131 hk131 Nl131 ih131 v131 M => ?_) N (a34.1, (0 : Int32)) M33
      · refine G_iconst g (pc := 211) (0 : Int32) d_L_isStation_211 rfl ?_
        refine G_istore g (pc := 212) _ d_L_isStation_212 (Nat.le_of_ble_eq_true rfl) rfl ?_
        refine G_sub [0, 1, 2, 3, 4] [(4, .int (0 : Int32)), (0, .ref (wad w 0)), (1, .int a11.1), (2, .int a11.2.1), (3, .int a53.1)] rfl ?_
        refine G_iconst g (pc := 214) (0 : Int32) d_L_isStation_214 rfl ?_
        refine G_istore g (pc := 215) _ d_L_isStation_215 (Nat.le_of_ble_eq_true rfl) rfl ?_
        refine G_sub [0, 1, 2, 3, 4, 5] [(5, .int (0 : Int32)), (4, .int (0 : Int32)), (0, .ref (wad w 0)), (1, .int a11.1), (2, .int a11.2.1), (3, .int a53.1)] rfl ?_
        refine G_sub [2, 3, 4, 5, 1, 0] _ rfl ?_
        refine G_loop (F := lp_L_isStation_217 N rr a11.1 a11.2.1 a53.1) 217 298 (fun (v217 : Int32 × Int32) => [(0, .ref (wad w 0)), (1, .int a11.1), (2, .int a11.2.1), (3, .int a53.1), (4, .int v217.1), (5, .int v217.2)]) (fun (v217 : Int32 × Int32) => [(0, .ref (wad w 0)), (1, .int a11.1), (2, .int a11.2.1), (3, .int a53.1), (4, .int v217.1), (5, .int v217.2)]) (fun _ _ _ => rfl) (fun a68 M67 => ?_) (fun k217 hk217 Nl217 ih217 v217 M => ?_) N ((0 : Int32), (0 : Int32)) M52
        · refine G_aload_n g (pc := 298) 0 d_L_isStation_298 rfl rfl ?_
          refine G_cVI0 g (pc := 299) (As := []) (st := []) cc_L_30 (c_G_loggedCount l hw M67) (hw.m 0 (Nat.le_of_ble_eq_true rfl)) (hw.k (Nat.le_of_ble_eq_true rfl) (zk0 rr)) rfl (by decide) rfl ⟨(Nat.le_of_ble_eq_true rfl), (Nat.le_of_ble_eq_true rfl)⟩ ⟨(Nat.le_of_ble_eq_true rfl), (Nat.le_of_ble_eq_true rfl)⟩ (Nat.le_of_ble_eq_true rfl) d_L_isStation_299 (fun x69 M70 => ?_)
          refine G_aload_n g (pc := 302) 0 d_L_isStation_302 rfl rfl ?_
          refine G_cVI0 g (pc := 303) (As := []) (st := [.int x69]) cc_L_33 (c_G_archivedCount l hw M70) (hw.m 0 (Nat.le_of_ble_eq_true rfl)) (hw.k (Nat.le_of_ble_eq_true rfl) (zk0 rr)) rfl (by decide) rfl ⟨(Nat.le_of_ble_eq_true rfl), (Nat.le_of_ble_eq_true rfl)⟩ ⟨(Nat.le_of_ble_eq_true rfl), (Nat.le_of_ble_eq_true rfl)⟩ (Nat.le_of_ble_eq_true rfl) d_L_isStation_303 (fun x71 M72 => ?_)
          refine G_iadd g (pc := 306) d_L_isStation_306 ?_
          refine G_aload_n g (pc := 307) 0 d_L_isStation_307 rfl rfl ?_
          refine G_cVI0 g (pc := 308) (As := []) (st := [.int (x69 + x71)]) cc_L_82 (c_G_droppedCount l hw M72) (hw.m 0 (Nat.le_of_ble_eq_true rfl)) (hw.k (Nat.le_of_ble_eq_true rfl) (zk0 rr)) rfl (by decide) rfl ⟨(Nat.le_of_ble_eq_true rfl), (Nat.le_of_ble_eq_true rfl)⟩ ⟨(Nat.le_of_ble_eq_true rfl), (Nat.le_of_ble_eq_true rfl)⟩ (Nat.le_of_ble_eq_true rfl) d_L_isStation_308 (fun x73 M74 => ?_)
          refine G_iadd g (pc := 311) d_L_isStation_311 ?_
          refine G_nmI (fun x75 => ?_)
          refine G_istore g (pc := 312) _ d_L_isStation_312 (Nat.le_of_ble_eq_true rfl) rfl ?_
          refine G_sub [0, 1, 2, 3, 4, 5] [(5, .int x75), (0, .ref (wad w 0)), (1, .int a11.1), (2, .int a11.2.1), (3, .int a53.1), (4, .int a68.1)] rfl ?_
          refine G_aload_n g (pc := 314) 1 d_L_isStation_314 rfl rfl ?_
          refine G_cVZ0 g (pc := 315) (As := []) (st := []) cc_L_42 (c_G_isLanded l hw M74) (hw.m 0 (Nat.le_of_ble_eq_true rfl)) (hw.k (Nat.le_of_ble_eq_true rfl) (zk0 rr)) rfl (by decide) rfl ⟨(Nat.le_of_ble_eq_true rfl), (Nat.le_of_ble_eq_true rfl)⟩ ⟨(Nat.le_of_ble_eq_true rfl), (Nat.le_of_ble_eq_true rfl)⟩ (Nat.le_of_ble_eq_true rfl) d_L_isStation_315 (fun x76 M77 => ?_)
          refine G_istore g (pc := 318) _ d_L_isStation_318 (Nat.le_of_ble_eq_true rfl) rfl ?_
          refine G_sub [0, 1, 2, 3, 4, 5, 6] [(6, .int (b2i x76)), (5, .int x75), (0, .ref (wad w 0)), (1, .int a11.1), (2, .int a11.2.1), (3, .int a53.1), (4, .int a68.1)] rfl ?_
          refine G_aload_n g (pc := 320) 2 d_L_isStation_320 rfl rfl ?_
          refine G_cVZ0 g (pc := 321) (As := []) (st := []) cc_L_46 (c_G_isFlying l hw M77) (hw.m 0 (Nat.le_of_ble_eq_true rfl)) (hw.k (Nat.le_of_ble_eq_true rfl) (zk0 rr)) rfl (by decide) rfl ⟨(Nat.le_of_ble_eq_true rfl), (Nat.le_of_ble_eq_true rfl)⟩ ⟨(Nat.le_of_ble_eq_true rfl), (Nat.le_of_ble_eq_true rfl)⟩ (Nat.le_of_ble_eq_true rfl) d_L_isStation_321 (fun x78 M79 => ?_)
          refine G_istore g (pc := 324) _ d_L_isStation_324 (Nat.le_of_ble_eq_true rfl) rfl ?_
          refine G_sub [0, 1, 2, 3, 4, 5, 6, 7] [(7, .int (b2i x78)), (6, .int (b2i x76)), (5, .int x75), (0, .ref (wad w 0)), (1, .int a11.1), (2, .int a11.2.1), (3, .int a53.1), (4, .int a68.1)] rfl ?_
          refine G_aload_n g (pc := 326) 3 d_L_isStation_326 rfl rfl ?_
          refine G_cVI0 g (pc := 327) (As := []) (st := []) cc_L_134 (c_G_safeHeight l N hw M79) (hw.m 0 (Nat.le_of_ble_eq_true rfl)) (hw.k (Nat.le_of_ble_eq_true rfl) (zk0 rr)) rfl (by decide) rfl ⟨(Nat.le_of_ble_eq_true rfl), (Nat.le_of_ble_eq_true rfl)⟩ ⟨(Nat.le_of_ble_eq_true rfl), (Nat.le_of_ble_eq_true rfl)⟩ (Nat.le_of_ble_eq_true rfl) d_L_isStation_327 (fun x80 M81 => ?_)
          refine G_istore g (pc := 330) _ d_L_isStation_330 (Nat.le_of_ble_eq_true rfl) rfl ?_
          refine G_sub [0, 1, 2, 3, 4, 5, 6, 7, 8] [(8, .int x80), (7, .int (b2i x78)), (6, .int (b2i x76)), (5, .int x75), (0, .ref (wad w 0)), (1, .int a11.1), (2, .int a11.2.1), (3, .int a53.1), (4, .int a68.1)] rfl ?_
          refine G_aload_n g (pc := 332) 4 d_L_isStation_332 rfl rfl ?_
          refine G_cVI0 g (pc := 333) (As := []) (st := []) cc_L_137 (c_G_launchObstacle l hw M81) (hw.m 0 (Nat.le_of_ble_eq_true rfl)) (hw.k (Nat.le_of_ble_eq_true rfl) (zk0 rr)) rfl (by decide) rfl ⟨(Nat.le_of_ble_eq_true rfl), (Nat.le_of_ble_eq_true rfl)⟩ ⟨(Nat.le_of_ble_eq_true rfl), (Nat.le_of_ble_eq_true rfl)⟩ (Nat.le_of_ble_eq_true rfl) d_L_isStation_333 (fun x82 M83 => ?_)
          refine G_istore g (pc := 336) _ d_L_isStation_336 (Nat.le_of_ble_eq_true rfl) rfl ?_
          refine G_sub [0, 1, 2, 3, 4, 5, 6, 7, 8, 9] [(9, .int x82), (8, .int x80), (7, .int (b2i x78)), (6, .int (b2i x76)), (5, .int x75), (0, .ref (wad w 0)), (1, .int a11.1), (2, .int a11.2.1), (3, .int a53.1), (4, .int a68.1)] rfl ?_
          refine G_iload g (pc := 338) 3 d_L_isStation_338 rfl ?_
          refine G_jn 348 (fun _ => [(9, .int x82), (8, .int x80), (7, .int (b2i x78)), (6, .int (b2i x76)), (5, .int x75), (0, .ref (wad w 0)), (1, .int a11.1), (2, .int a11.2.1), (3, .int a53.1), (4, .int a68.1)]) (fun (x85 : Bool) => [.int (b2i x85)]) (fun x85 M86 => ?_) (fun j84 hj84 => ?_)
          · refine G_iload g (pc := 348) 2 d_L_isStation_348 rfl ?_
            refine G_jn 358 (fun _ => [(9, .int x82), (8, .int x80), (7, .int (b2i x78)), (6, .int (b2i x76)), (5, .int x75), (0, .ref (wad w 0)), (1, .int a11.1), (2, .int a11.2.1), (3, .int a53.1), (4, .int a68.1)]) (fun (x88 : Bool) => [.int (b2i x88), .int (b2i x85)]) (fun x88 M89 => ?_) (fun j87 hj87 => ?_)
            · refine G_iadd g (pc := 358) d_L_isStation_358 ?_
              refine G_aload_n g (pc := 359) 5 d_L_isStation_359 rfl rfl ?_
              refine G_cVZ0 g (pc := 360) (As := []) (st := [.int ((b2i x85) + (b2i x88))]) cc_L_140 (c_G_isFallen l hw M89) (hw.m 0 (Nat.le_of_ble_eq_true rfl)) (hw.k (Nat.le_of_ble_eq_true rfl) (zk0 rr)) rfl (by decide) rfl ⟨(Nat.le_of_ble_eq_true rfl), (Nat.le_of_ble_eq_true rfl)⟩ ⟨(Nat.le_of_ble_eq_true rfl), (Nat.le_of_ble_eq_true rfl)⟩ (Nat.le_of_ble_eq_true rfl) d_L_isStation_360 (fun x90 M91 => ?_)
              refine G_jn 371 (fun _ => [(9, .int x82), (8, .int x80), (7, .int (b2i x78)), (6, .int (b2i x76)), (5, .int x75), (0, .ref (wad w 0)), (1, .int a11.1), (2, .int a11.2.1), (3, .int a53.1), (4, .int a68.1)]) (fun (x93 : Bool) => [.int (b2i x93), .int ((b2i x85) + (b2i x88))]) (fun x93 M94 => ?_) (fun j92 hj92 => ?_)
              · refine G_iadd g (pc := 371) d_L_isStation_371 ?_
                refine G_nmI (fun x95 => ?_)
                refine G_istore g (pc := 372) _ d_L_isStation_372 (Nat.le_of_ble_eq_true rfl) rfl ?_
                refine G_sub [0, 1, 2, 3, 4, 5, 6, 7, 8, 9, 10] [(10, .int x95), (9, .int x82), (8, .int x80), (7, .int (b2i x78)), (6, .int (b2i x76)), (5, .int x75), (0, .ref (wad w 0)), (1, .int a11.1), (2, .int a11.2.1), (3, .int a53.1), (4, .int a68.1)] rfl ?_
                refine G_iload g (pc := 374) 2 d_L_isStation_374 rfl ?_
                refine G_jn 422 (fun _ => [(10, .int x95), (9, .int x82), (8, .int x80), (7, .int (b2i x78)), (6, .int (b2i x76)), (5, .int x75), (0, .ref (wad w 0)), (1, .int a11.1), (2, .int a11.2.1), (3, .int a53.1), (4, .int a68.1)]) (fun (x97 : Unit) => []) (fun x97 M98 => ?_) (fun j96 hj96 => ?_)
                · refine G_iload g (pc := 422) 0 d_L_isStation_422 rfl ?_
                  refine G_iconst g (pc := 424) (1 : Int32) d_L_isStation_424 rfl ?_
                  refine G_icmp_ne g (pc := 425) 681 d_L_isStation_425 (by decide) ?_ ?_
                  · refine G_aload_n g (pc := 428) 6 d_L_isStation_428 rfl rfl ?_
                    refine G_cVI0 g (pc := 429) (As := []) (st := []) cc_L_49 (c_G_height l hw M98) (hw.m 0 (Nat.le_of_ble_eq_true rfl)) (hw.k (Nat.le_of_ble_eq_true rfl) (zk0 rr)) rfl (by decide) rfl ⟨(Nat.le_of_ble_eq_true rfl), (Nat.le_of_ble_eq_true rfl)⟩ ⟨(Nat.le_of_ble_eq_true rfl), (Nat.le_of_ble_eq_true rfl)⟩ (Nat.le_of_ble_eq_true rfl) d_L_isStation_429 (fun x99 M100 => ?_)
                    refine G_aload_n g (pc := 432) 6 d_L_isStation_432 rfl rfl ?_
                    refine G_cVI0 g (pc := 433) (As := []) (st := [.int x99]) cc_L_52 (c_G_tether l hw M100) (hw.m 0 (Nat.le_of_ble_eq_true rfl)) (hw.k (Nat.le_of_ble_eq_true rfl) (zk0 rr)) rfl (by decide) rfl ⟨(Nat.le_of_ble_eq_true rfl), (Nat.le_of_ble_eq_true rfl)⟩ ⟨(Nat.le_of_ble_eq_true rfl), (Nat.le_of_ble_eq_true rfl)⟩ (Nat.le_of_ble_eq_true rfl) d_L_isStation_433 (fun x101 M102 => ?_)
                    refine G_icmp_gt g (pc := 436) 681 d_L_isStation_436 (by decide) ?_ ?_
                    · refine G_iload g (pc := 439) 3 d_L_isStation_439 rfl ?_
                      refine G_aload_n g (pc := 441) 6 d_L_isStation_441 rfl rfl ?_
                      refine G_cVI0 g (pc := 442) (As := []) (st := [.int (b2i x78)]) cc_L_49 (c_G_height l hw M102) (hw.m 0 (Nat.le_of_ble_eq_true rfl)) (hw.k (Nat.le_of_ble_eq_true rfl) (zk0 rr)) rfl (by decide) rfl ⟨(Nat.le_of_ble_eq_true rfl), (Nat.le_of_ble_eq_true rfl)⟩ ⟨(Nat.le_of_ble_eq_true rfl), (Nat.le_of_ble_eq_true rfl)⟩ (Nat.le_of_ble_eq_true rfl) d_L_isStation_442 (fun x103 M104 => ?_)
                      refine G_jn 453 (fun _ => [(10, .int x95), (9, .int x82), (8, .int x80), (7, .int (b2i x78)), (6, .int (b2i x76)), (5, .int x75), (0, .ref (wad w 0)), (1, .int a11.1), (2, .int a11.2.1), (3, .int a53.1), (4, .int a68.1)]) (fun (x106 : Bool) => [.int (b2i x106), .int (b2i x78)]) (fun x106 M107 => ?_) (fun j105 hj105 => ?_)
                      · refine G_icmp_ne g (pc := 453) 681 d_L_isStation_453 (by decide) ?_ ?_
                        · refine G_iload g (pc := 456) 3 d_L_isStation_456 rfl ?_
                          refine G_jn 476 (fun _ => [(10, .int x95), (9, .int x82), (8, .int x80), (7, .int (b2i x78)), (6, .int (b2i x76)), (5, .int x75), (0, .ref (wad w 0)), (1, .int a11.1), (2, .int a11.2.1), (3, .int a53.1), (4, .int a68.1)]) (fun (x109 : Unit) => []) (fun x109 M110 => ?_) (fun j108 hj108 => ?_)
                          · refine G_aload_n g (pc := 476) 6 d_L_isStation_476 rfl rfl ?_
                            refine G_cVZ0 g (pc := 477) (As := []) (st := []) cc_L_140 (c_G_isFallen l hw M110) (hw.m 0 (Nat.le_of_ble_eq_true rfl)) (hw.k (Nat.le_of_ble_eq_true rfl) (zk0 rr)) rfl (by decide) rfl ⟨(Nat.le_of_ble_eq_true rfl), (Nat.le_of_ble_eq_true rfl)⟩ ⟨(Nat.le_of_ble_eq_true rfl), (Nat.le_of_ble_eq_true rfl)⟩ (Nat.le_of_ble_eq_true rfl) d_L_isStation_477 (fun x111 M112 => ?_)
                            refine G_jn 490 (fun _ => [(10, .int x95), (9, .int x82), (8, .int x80), (7, .int (b2i x78)), (6, .int (b2i x76)), (5, .int x75), (0, .ref (wad w 0)), (1, .int a11.1), (2, .int a11.2.1), (3, .int a53.1), (4, .int a68.1)]) (fun (x114 : Unit) => []) (fun x114 M115 => ?_) (fun j113 hj113 => ?_)
                            · refine G_aload_n g (pc := 490) 6 d_L_isStation_490 rfl rfl ?_
                              refine G_cVI0 g (pc := 491) (As := []) (st := []) cc_L_67 (c_G_beaconTime l hw M115) (hw.m 0 (Nat.le_of_ble_eq_true rfl)) (hw.k (Nat.le_of_ble_eq_true rfl) (zk0 rr)) rfl (by decide) rfl ⟨(Nat.le_of_ble_eq_true rfl), (Nat.le_of_ble_eq_true rfl)⟩ ⟨(Nat.le_of_ble_eq_true rfl), (Nat.le_of_ble_eq_true rfl)⟩ (Nat.le_of_ble_eq_true rfl) d_L_isStation_491 (fun x116 M117 => ?_)
                              refine G_bipush g (pc := 494) (120 : Int32) d_L_isStation_494 rfl ?_
                              refine G_icmp_gt g (pc := 496) 681 d_L_isStation_496 (by decide) ?_ ?_
                              · refine G_iload g (pc := 499) 3 d_L_isStation_499 rfl ?_
                                refine G_jn 520 (fun _ => [(10, .int x95), (9, .int x82), (8, .int x80), (7, .int (b2i x78)), (6, .int (b2i x76)), (5, .int x75), (0, .ref (wad w 0)), (1, .int a11.1), (2, .int a11.2.1), (3, .int a53.1), (4, .int a68.1)]) (fun (x119 : Unit) => []) (fun x119 M120 => ?_) (fun j118 hj118 => ?_)
                                · refine G_iload g (pc := 520) 1 d_L_isStation_520 rfl ?_
                                  refine G_iconst g (pc := 522) (1 : Int32) d_L_isStation_522 rfl ?_
                                  refine G_jn 531 (fun _ => [(10, .int x95), (9, .int x82), (8, .int x80), (7, .int (b2i x78)), (6, .int (b2i x76)), (5, .int x75), (0, .ref (wad w 0)), (1, .int a11.1), (2, .int a11.2.1), (3, .int a53.1), (4, .int a68.1)]) (fun (x122 : Bool) => [.int (b2i x122)]) (fun x122 M123 => ?_) (fun j121 hj121 => ?_)
                                  · refine G_iload g (pc := 531) 3 d_L_isStation_531 rfl ?_
                                    refine G_icmp_ne g (pc := 533) 681 d_L_isStation_533 (by decide) ?_ ?_
                                    · refine G_iload g (pc := 536) 1 d_L_isStation_536 rfl ?_
                                      refine G_iconst g (pc := 538) (2 : Int32) d_L_isStation_538 rfl ?_
                                      refine G_jn 547 (fun _ => [(10, .int x95), (9, .int x82), (8, .int x80), (7, .int (b2i x78)), (6, .int (b2i x76)), (5, .int x75), (0, .ref (wad w 0)), (1, .int a11.1), (2, .int a11.2.1), (3, .int a53.1), (4, .int a68.1)]) (fun (x125 : Bool) => [.int (b2i x125)]) (fun x125 M126 => ?_) (fun j124 hj124 => ?_)
                                      · refine G_aload_n g (pc := 547) 6 d_L_isStation_547 rfl rfl ?_
                                        refine G_cVZ0 g (pc := 548) (As := []) (st := [.int (b2i x125)]) cc_L_140 (c_G_isFallen l hw M126) (hw.m 0 (Nat.le_of_ble_eq_true rfl)) (hw.k (Nat.le_of_ble_eq_true rfl) (zk0 rr)) rfl (by decide) rfl ⟨(Nat.le_of_ble_eq_true rfl), (Nat.le_of_ble_eq_true rfl)⟩ ⟨(Nat.le_of_ble_eq_true rfl), (Nat.le_of_ble_eq_true rfl)⟩ (Nat.le_of_ble_eq_true rfl) d_L_isStation_548 (fun x127 M128 => ?_)
                                        refine G_icmp_ne g (pc := 551) 681 d_L_isStation_551 (by decide) ?_ ?_
                                        · refine G_iload g (pc := 554) 1 d_L_isStation_554 rfl ?_
                                          refine G_jn 577 (fun _ => [(10, .int x95), (9, .int x82), (8, .int x80), (7, .int (b2i x78)), (6, .int (b2i x76)), (5, .int x75), (0, .ref (wad w 0)), (1, .int a11.1), (2, .int a11.2.1), (3, .int a53.1), (4, .int a68.1)]) (fun (x130 : Unit) => []) (fun x130 M131 => ?_) (fun j129 hj129 => ?_)
                                          · refine G_aload_n g (pc := 577) 6 d_L_isStation_577 rfl rfl ?_
                                            refine G_cVI0 g (pc := 578) (As := []) (st := []) cc_L_73 (c_G_snaps l hw M131) (hw.m 0 (Nat.le_of_ble_eq_true rfl)) (hw.k (Nat.le_of_ble_eq_true rfl) (zk0 rr)) rfl (by decide) rfl ⟨(Nat.le_of_ble_eq_true rfl), (Nat.le_of_ble_eq_true rfl)⟩ ⟨(Nat.le_of_ble_eq_true rfl), (Nat.le_of_ble_eq_true rfl)⟩ (Nat.le_of_ble_eq_true rfl) d_L_isStation_578 (fun x132 M133 => ?_)
                                            refine G_aload_n g (pc := 581) 6 d_L_isStation_581 rfl rfl ?_
                                            refine G_cVI0 g (pc := 582) (As := []) (st := [.int x132]) cc_L_70 (c_G_launches l hw M133) (hw.m 0 (Nat.le_of_ble_eq_true rfl)) (hw.k (Nat.le_of_ble_eq_true rfl) (zk0 rr)) rfl (by decide) rfl ⟨(Nat.le_of_ble_eq_true rfl), (Nat.le_of_ble_eq_true rfl)⟩ ⟨(Nat.le_of_ble_eq_true rfl), (Nat.le_of_ble_eq_true rfl)⟩ (Nat.le_of_ble_eq_true rfl) d_L_isStation_582 (fun x134 M135 => ?_)
                                            refine G_icmp_gt g (pc := 585) 681 d_L_isStation_585 (by decide) ?_ ?_
                                            · refine G_iload g (pc := 588) 10 d_L_isStation_588 rfl ?_
                                              refine G_aload_n g (pc := 590) 6 d_L_isStation_590 rfl rfl ?_
                                              refine G_cVI0 g (pc := 591) (As := []) (st := [.int a68.1]) cc_L_33 (c_G_archivedCount l hw M135) (hw.m 0 (Nat.le_of_ble_eq_true rfl)) (hw.k (Nat.le_of_ble_eq_true rfl) (zk0 rr)) rfl (by decide) rfl ⟨(Nat.le_of_ble_eq_true rfl), (Nat.le_of_ble_eq_true rfl)⟩ ⟨(Nat.le_of_ble_eq_true rfl), (Nat.le_of_ble_eq_true rfl)⟩ (Nat.le_of_ble_eq_true rfl) d_L_isStation_591 (fun x136 M137 => ?_)
                                              refine G_icmp_ne g (pc := 594) 681 d_L_isStation_594 (by decide) ?_ ?_
                                              · refine G_iload_n g (pc := 597) 8 d_L_isStation_597 rfl rfl ?_
                                                refine G_aload_n g (pc := 598) 6 d_L_isStation_598 rfl rfl ?_
                                                refine G_cVI0 g (pc := 599) (As := []) (st := [.int a11.2.1]) cc_L_158 (c_G_greatestWind l N hw M137) (hw.m 0 (Nat.le_of_ble_eq_true rfl)) (hw.k (Nat.le_of_ble_eq_true rfl) (zk0 rr)) rfl (by decide) rfl ⟨(Nat.le_of_ble_eq_true rfl), (Nat.le_of_ble_eq_true rfl)⟩ ⟨(Nat.le_of_ble_eq_true rfl), (Nat.le_of_ble_eq_true rfl)⟩ (Nat.le_of_ble_eq_true rfl) d_L_isStation_599 (fun x138 M139 => ?_)
                                                refine G_icmp_ne g (pc := 602) 681 d_L_isStation_602 (by decide) ?_ ?_
                                                · refine G_aload_n g (pc := 605) 6 d_L_isStation_605 rfl rfl ?_
                                                  refine G_cVD0 g (pc := 606) (As := []) (st := []) cc_L_161 (c_G_meanWind l N hw M139) (hw.m 0 (Nat.le_of_ble_eq_true rfl)) (hw.k (Nat.le_of_ble_eq_true rfl) (zk0 rr)) rfl (by decide) rfl ⟨(Nat.le_of_ble_eq_true rfl), (Nat.le_of_ble_eq_true rfl)⟩ ⟨(Nat.le_of_ble_eq_true rfl), (Nat.le_of_ble_eq_true rfl)⟩ (Nat.le_of_ble_eq_true rfl) d_L_isStation_606 (fun x140 M141 => ?_)
                                                  refine G_aload_n g (pc := 609) 6 d_L_isStation_609 rfl rfl ?_
                                                  refine G_cVI0 g (pc := 610) (As := []) (st := [.double x140]) cc_L_36 (c_G_bufferSize l hw M141) (hw.m 0 (Nat.le_of_ble_eq_true rfl)) (hw.k (Nat.le_of_ble_eq_true rfl) (zk0 rr)) rfl (by decide) rfl ⟨(Nat.le_of_ble_eq_true rfl), (Nat.le_of_ble_eq_true rfl)⟩ ⟨(Nat.le_of_ble_eq_true rfl), (Nat.le_of_ble_eq_true rfl)⟩ (Nat.le_of_ble_eq_true rfl) d_L_isStation_610 (fun x142 M143 => ?_)
                                                  refine G_jn 628 (fun _ => [(10, .int x95), (9, .int x82), (8, .int x80), (7, .int (b2i x78)), (6, .int (b2i x76)), (5, .int x75), (0, .ref (wad w 0)), (1, .int a11.1), (2, .int a11.2.1), (3, .int a53.1), (4, .int a68.1)]) (fun (x145 : UInt64) => [.double x145, .double x140]) (fun x145 M146 => ?_) (fun j144 hj144 => ?_)
                                                  · refine G_dcmp g (pc := 628) d_L_isStation_628 ?_
                                                    refine G_if_ne g (pc := 629) 681 d_L_isStation_629 (by decide) ?_ ?_
                                                    · refine G_aload_n g (pc := 632) 6 d_L_isStation_632 rfl rfl ?_
                                                      refine G_cVF0 g (pc := 633) (As := []) (st := []) cc_L_165 (c_G_archivedShare l hw M146) (hw.m 0 (Nat.le_of_ble_eq_true rfl)) (hw.k (Nat.le_of_ble_eq_true rfl) (zk0 rr)) rfl (by decide) rfl ⟨(Nat.le_of_ble_eq_true rfl), (Nat.le_of_ble_eq_true rfl)⟩ ⟨(Nat.le_of_ble_eq_true rfl), (Nat.le_of_ble_eq_true rfl)⟩ (Nat.le_of_ble_eq_true rfl) d_L_isStation_633 (fun x147 M148 => ?_)
                                                      refine G_iload g (pc := 636) 5 d_L_isStation_636 rfl ?_
                                                      refine G_jn 654 (fun _ => [(10, .int x95), (9, .int x82), (8, .int x80), (7, .int (b2i x78)), (6, .int (b2i x76)), (5, .int x75), (0, .ref (wad w 0)), (1, .int a11.1), (2, .int a11.2.1), (3, .int a53.1), (4, .int a68.1)]) (fun (x150 : UInt32) => [.float x150, .float x147]) (fun x150 M151 => ?_) (fun j149 hj149 => ?_)
                                                      · refine G_fcmp g (pc := 654) d_L_isStation_654 ?_
                                                        refine G_if_ne g (pc := 655) 681 d_L_isStation_655 (by decide) ?_ ?_
                                                        · refine G_aload_n g (pc := 658) 6 d_L_isStation_658 rfl rfl ?_
                                                          refine G_iconst g (pc := 659) (0 : Int32) d_L_isStation_659 rfl ?_
                                                          refine G_cVI0 g (pc := 660) (As := [.int (0 : Int32)]) (st := []) cc_L_169 (c_G_heightAfter l N hw (0 : Int32) M151) (hw.m 0 (Nat.le_of_ble_eq_true rfl)) (hw.k (Nat.le_of_ble_eq_true rfl) (zk0 rr)) rfl (by decide) rfl ⟨(Nat.le_of_ble_eq_true rfl), (Nat.le_of_ble_eq_true rfl)⟩ ⟨(Nat.le_of_ble_eq_true rfl), (Nat.le_of_ble_eq_true rfl)⟩ (Nat.le_of_ble_eq_true rfl) d_L_isStation_660 (fun x152 M153 => ?_)
                                                          refine G_aload_n g (pc := 663) 6 d_L_isStation_663 rfl rfl ?_
                                                          refine G_cVI0 g (pc := 664) (As := []) (st := [.int x152]) cc_L_49 (c_G_height l hw M153) (hw.m 0 (Nat.le_of_ble_eq_true rfl)) (hw.k (Nat.le_of_ble_eq_true rfl) (zk0 rr)) rfl (by decide) rfl ⟨(Nat.le_of_ble_eq_true rfl), (Nat.le_of_ble_eq_true rfl)⟩ ⟨(Nat.le_of_ble_eq_true rfl), (Nat.le_of_ble_eq_true rfl)⟩ (Nat.le_of_ble_eq_true rfl) d_L_isStation_664 (fun x154 M155 => ?_)
                                                          refine G_icmp_ne g (pc := 667) 681 d_L_isStation_667 (by decide) ?_ ?_
                                                          · refine G_aload_n g (pc := 670) 6 d_L_isStation_670 rfl rfl ?_
                                                            refine G_cVI0 g (pc := 671) (As := []) (st := []) cc_L_172 (c_G_gap l N hw M155) (hw.m 0 (Nat.le_of_ble_eq_true rfl)) (hw.k (Nat.le_of_ble_eq_true rfl) (zk0 rr)) rfl (by decide) rfl ⟨(Nat.le_of_ble_eq_true rfl), (Nat.le_of_ble_eq_true rfl)⟩ ⟨(Nat.le_of_ble_eq_true rfl), (Nat.le_of_ble_eq_true rfl)⟩ (Nat.le_of_ble_eq_true rfl) d_L_isStation_671 (fun x156 M157 => ?_)
                                                            refine G_if_ne g (pc := 674) 681 d_L_isStation_674 (by decide) ?_ ?_
                                                            · refine G_iconst g (pc := 677) (1 : Int32) d_L_isStation_677 rfl ?_
                                                              refine G_goto g (pc := 678) 682 d_L_isStation_678 (by decide) ?_
                                                              exact G_zreturn g (pc := 682) true rfl hret (Nat.le_of_ble_eq_true rfl) (Nat.le_of_ble_eq_true rfl) d_L_isStation_682
                                                            · refine G_iconst g (pc := 681) (0 : Int32) d_L_isStation_681 rfl ?_
                                                              exact G_zreturn g (pc := 682) false rfl hret (Nat.le_of_ble_eq_true rfl) (Nat.le_of_ble_eq_true rfl) d_L_isStation_682
                                                          · refine G_iconst g (pc := 681) (0 : Int32) d_L_isStation_681 rfl ?_
                                                            exact G_zreturn g (pc := 682) false rfl hret (Nat.le_of_ble_eq_true rfl) (Nat.le_of_ble_eq_true rfl) d_L_isStation_682
                                                        · refine G_iconst g (pc := 681) (0 : Int32) d_L_isStation_681 rfl ?_
                                                          exact G_zreturn g (pc := 682) false rfl hret (Nat.le_of_ble_eq_true rfl) (Nat.le_of_ble_eq_true rfl) d_L_isStation_682
                                                      · refine G_if_ne g (pc := 638) 645 d_L_isStation_638 (by decide) ?_ ?_
                                                        · refine G_fconst0 g (pc := 641) d_L_isStation_641 ?_
                                                          refine G_goto g (pc := 642) 654 d_L_isStation_642 (by decide) ?_
                                                          refine G_sub [0, 1, 2, 3, 4, 5, 6, 7, 8, 9, 10] _ rfl ?_
                                                          exact hj149 0 M148
                                                        · refine G_aload_n g (pc := 645) 6 d_L_isStation_645 rfl rfl ?_
                                                          refine G_cVI0 g (pc := 646) (As := []) (st := [.float x147]) cc_L_33 (c_G_archivedCount l hw M148) (hw.m 0 (Nat.le_of_ble_eq_true rfl)) (hw.k (Nat.le_of_ble_eq_true rfl) (zk0 rr)) rfl (by decide) rfl ⟨(Nat.le_of_ble_eq_true rfl), (Nat.le_of_ble_eq_true rfl)⟩ ⟨(Nat.le_of_ble_eq_true rfl), (Nat.le_of_ble_eq_true rfl)⟩ (Nat.le_of_ble_eq_true rfl) d_L_isStation_646 (fun x158 M159 => ?_)
                                                          refine G_i2f g (pc := 649) d_L_isStation_649 ?_
                                                          refine G_iload g (pc := 650) 5 d_L_isStation_650 rfl ?_
                                                          refine G_i2f g (pc := 652) d_L_isStation_652 ?_
                                                          refine G_fdiv g (pc := 653) d_L_isStation_653 ?_
                                                          refine G_sub [0, 1, 2, 3, 4, 5, 6, 7, 8, 9, 10] _ rfl ?_
                                                          exact hj149 (FP.fdiv (FP.i2f x158) (FP.i2f x75)) M159
                                                    · refine G_iconst g (pc := 681) (0 : Int32) d_L_isStation_681 rfl ?_
                                                      exact G_zreturn g (pc := 682) false rfl hret (Nat.le_of_ble_eq_true rfl) (Nat.le_of_ble_eq_true rfl) d_L_isStation_682
                                                  · refine G_if_ne g (pc := 613) 620 d_L_isStation_613 (by decide) ?_ ?_
                                                    · refine G_dconst0 g (pc := 616) d_L_isStation_616 ?_
                                                      refine G_goto g (pc := 617) 628 d_L_isStation_617 (by decide) ?_
                                                      refine G_sub [0, 1, 2, 3, 4, 5, 6, 7, 8, 9, 10] _ rfl ?_
                                                      exact hj144 0 M143
                                                    · refine G_iload_n g (pc := 620) 7 d_L_isStation_620 rfl rfl ?_
                                                      refine G_i2d g (pc := 621) d_L_isStation_621 ?_
                                                      refine G_aload_n g (pc := 622) 6 d_L_isStation_622 rfl rfl ?_
                                                      refine G_cVI0 g (pc := 623) (As := []) (st := [.double (FP.i2d a11.1), .double x140]) cc_L_36 (c_G_bufferSize l hw M143) (hw.m 0 (Nat.le_of_ble_eq_true rfl)) (hw.k (Nat.le_of_ble_eq_true rfl) (zk0 rr)) rfl (by decide) rfl ⟨(Nat.le_of_ble_eq_true rfl), (Nat.le_of_ble_eq_true rfl)⟩ ⟨(Nat.le_of_ble_eq_true rfl), (Nat.le_of_ble_eq_true rfl)⟩ (Nat.le_of_ble_eq_true rfl) d_L_isStation_623 (fun x160 M161 => ?_)
                                                      refine G_i2d g (pc := 626) d_L_isStation_626 ?_
                                                      refine G_ddiv g (pc := 627) d_L_isStation_627 ?_
                                                      refine G_sub [0, 1, 2, 3, 4, 5, 6, 7, 8, 9, 10] _ rfl ?_
                                                      exact hj144 (FP.ddiv (FP.i2d a11.1) (FP.i2d x160)) M161
                                                · refine G_iconst g (pc := 681) (0 : Int32) d_L_isStation_681 rfl ?_
                                                  exact G_zreturn g (pc := 682) false rfl hret (Nat.le_of_ble_eq_true rfl) (Nat.le_of_ble_eq_true rfl) d_L_isStation_682
                                              · refine G_iconst g (pc := 681) (0 : Int32) d_L_isStation_681 rfl ?_
                                                exact G_zreturn g (pc := 682) false rfl hret (Nat.le_of_ble_eq_true rfl) (Nat.le_of_ble_eq_true rfl) d_L_isStation_682
                                            · refine G_iconst g (pc := 681) (0 : Int32) d_L_isStation_681 rfl ?_
                                              exact G_zreturn g (pc := 682) false rfl hret (Nat.le_of_ble_eq_true rfl) (Nat.le_of_ble_eq_true rfl) d_L_isStation_682
                                          · refine G_if_ne g (pc := 556) 577 d_L_isStation_556 (by decide) ?_ ?_
                                            · refine G_aload_n g (pc := 559) 6 d_L_isStation_559 rfl rfl ?_
                                              refine G_cVI0 g (pc := 560) (As := []) (st := []) cc_L_52 (c_G_tether l hw M128) (hw.m 0 (Nat.le_of_ble_eq_true rfl)) (hw.k (Nat.le_of_ble_eq_true rfl) (zk0 rr)) rfl (by decide) rfl ⟨(Nat.le_of_ble_eq_true rfl), (Nat.le_of_ble_eq_true rfl)⟩ ⟨(Nat.le_of_ble_eq_true rfl), (Nat.le_of_ble_eq_true rfl)⟩ (Nat.le_of_ble_eq_true rfl) d_L_isStation_560 (fun x162 M163 => ?_)
                                              refine G_bipush g (pc := 563) (10 : Int32) d_L_isStation_563 rfl ?_
                                              refine G_icmp_lt g (pc := 565) 681 d_L_isStation_565 (by decide) ?_ ?_
                                              · refine G_iconst g (pc := 681) (0 : Int32) d_L_isStation_681 rfl ?_
                                                exact G_zreturn g (pc := 682) false rfl hret (Nat.le_of_ble_eq_true rfl) (Nat.le_of_ble_eq_true rfl) d_L_isStation_682
                                              · refine G_aload_n g (pc := 568) 6 d_L_isStation_568 rfl rfl ?_
                                                refine G_iconst g (pc := 569) (0 : Int32) d_L_isStation_569 rfl ?_
                                                refine G_cVI0 g (pc := 570) (As := [.int (0 : Int32)]) (st := []) cc_L_155 (c_G_windAt l hw (0 : Int32) M163) (hw.m 0 (Nat.le_of_ble_eq_true rfl)) (hw.k (Nat.le_of_ble_eq_true rfl) (zk0 rr)) rfl (by decide) rfl ⟨(Nat.le_of_ble_eq_true rfl), (Nat.le_of_ble_eq_true rfl)⟩ ⟨(Nat.le_of_ble_eq_true rfl), (Nat.le_of_ble_eq_true rfl)⟩ (Nat.le_of_ble_eq_true rfl) d_L_isStation_570 (fun x164 M165 => ?_)
                                                refine G_iconst g (pc := 573) (5 : Int32) d_L_isStation_573 rfl ?_
                                                refine G_icmp_lt g (pc := 574) 681 d_L_isStation_574 (by decide) ?_ ?_
                                                · refine G_iconst g (pc := 681) (0 : Int32) d_L_isStation_681 rfl ?_
                                                  exact G_zreturn g (pc := 682) false rfl hret (Nat.le_of_ble_eq_true rfl) (Nat.le_of_ble_eq_true rfl) d_L_isStation_682
                                                · refine G_sub [0, 1, 2, 3, 4, 5, 6, 7, 8, 9, 10] _ rfl ?_
                                                  exact hj129 () M165
                                            · refine G_sub [0, 1, 2, 3, 4, 5, 6, 7, 8, 9, 10] _ rfl ?_
                                              exact hj129 () M128
                                        · refine G_iconst g (pc := 681) (0 : Int32) d_L_isStation_681 rfl ?_
                                          exact G_zreturn g (pc := 682) false rfl hret (Nat.le_of_ble_eq_true rfl) (Nat.le_of_ble_eq_true rfl) d_L_isStation_682
                                      · refine G_icmp_ne g (pc := 539) 546 d_L_isStation_539 (by decide) ?_ ?_
                                        · refine G_iconst g (pc := 542) (1 : Int32) d_L_isStation_542 rfl ?_
                                          refine G_goto g (pc := 543) 547 d_L_isStation_543 (by decide) ?_
                                          refine G_sub [0, 1, 2, 3, 4, 5, 6, 7, 8, 9, 10] _ rfl ?_
                                          exact hj124 true M123
                                        · refine G_iconst g (pc := 546) (0 : Int32) d_L_isStation_546 rfl ?_
                                          refine G_sub [0, 1, 2, 3, 4, 5, 6, 7, 8, 9, 10] _ rfl ?_
                                          exact hj124 false M123
                                    · refine G_iconst g (pc := 681) (0 : Int32) d_L_isStation_681 rfl ?_
                                      exact G_zreturn g (pc := 682) false rfl hret (Nat.le_of_ble_eq_true rfl) (Nat.le_of_ble_eq_true rfl) d_L_isStation_682
                                  · refine G_icmp_ne g (pc := 523) 530 d_L_isStation_523 (by decide) ?_ ?_
                                    · refine G_iconst g (pc := 526) (1 : Int32) d_L_isStation_526 rfl ?_
                                      refine G_goto g (pc := 527) 531 d_L_isStation_527 (by decide) ?_
                                      refine G_sub [0, 1, 2, 3, 4, 5, 6, 7, 8, 9, 10] _ rfl ?_
                                      exact hj121 true M120
                                    · refine G_iconst g (pc := 530) (0 : Int32) d_L_isStation_530 rfl ?_
                                      refine G_sub [0, 1, 2, 3, 4, 5, 6, 7, 8, 9, 10] _ rfl ?_
                                      exact hj121 false M120
                                · refine G_if_eqB g (pc := 501) 520 d_L_isStation_501 (by decide) ?_ ?_
                                  · refine G_aload_n g (pc := 504) 6 d_L_isStation_504 rfl rfl ?_
                                    refine G_cVI0 g (pc := 505) (As := []) (st := []) cc_L_36 (c_G_bufferSize l hw M117) (hw.m 0 (Nat.le_of_ble_eq_true rfl)) (hw.k (Nat.le_of_ble_eq_true rfl) (zk0 rr)) rfl (by decide) rfl ⟨(Nat.le_of_ble_eq_true rfl), (Nat.le_of_ble_eq_true rfl)⟩ ⟨(Nat.le_of_ble_eq_true rfl), (Nat.le_of_ble_eq_true rfl)⟩ (Nat.le_of_ble_eq_true rfl) d_L_isStation_505 (fun x166 M167 => ?_)
                                    refine G_bipush g (pc := 508) (8 : Int32) d_L_isStation_508 rfl ?_
                                    refine G_aload_n g (pc := 510) 6 d_L_isStation_510 rfl rfl ?_
                                    refine G_cVI0 g (pc := 511) (As := []) (st := [.int (8 : Int32), .int x166]) cc_L_64 (c_G_flightTime l hw M167) (hw.m 0 (Nat.le_of_ble_eq_true rfl)) (hw.k (Nat.le_of_ble_eq_true rfl) (zk0 rr)) rfl (by decide) rfl ⟨(Nat.le_of_ble_eq_true rfl), (Nat.le_of_ble_eq_true rfl)⟩ ⟨(Nat.le_of_ble_eq_true rfl), (Nat.le_of_ble_eq_true rfl)⟩ (Nat.le_of_ble_eq_true rfl) d_L_isStation_511 (fun x168 M169 => ?_)
                                    refine G_mmin g (pc := 514) ma_L_152 ⟨(Nat.le_of_ble_eq_true rfl), (Nat.le_of_ble_eq_true rfl), (Nat.le_of_ble_eq_true rfl), (Nat.le_of_ble_eq_true rfl)⟩ d_L_isStation_514 ?_
                                    refine G_icmp_ne g (pc := 517) 681 d_L_isStation_517 (by decide) ?_ ?_
                                    · refine G_sub [0, 1, 2, 3, 4, 5, 6, 7, 8, 9, 10] _ rfl ?_
                                      exact hj118 () M169
                                    · refine G_iconst g (pc := 681) (0 : Int32) d_L_isStation_681 rfl ?_
                                      exact G_zreturn g (pc := 682) false rfl hret (Nat.le_of_ble_eq_true rfl) (Nat.le_of_ble_eq_true rfl) d_L_isStation_682
                                  · refine G_sub [0, 1, 2, 3, 4, 5, 6, 7, 8, 9, 10] _ rfl ?_
                                    exact hj118 () M117
                              · refine G_iconst g (pc := 681) (0 : Int32) d_L_isStation_681 rfl ?_
                                exact G_zreturn g (pc := 682) false rfl hret (Nat.le_of_ble_eq_true rfl) (Nat.le_of_ble_eq_true rfl) d_L_isStation_682
                            · refine G_if_neB g (pc := 480) 490 d_L_isStation_480 (by decide) ?_ ?_
                              · refine G_sub [0, 1, 2, 3, 4, 5, 6, 7, 8, 9, 10] _ rfl ?_
                                exact hj113 () M112
                              · refine G_aload_n g (pc := 483) 6 d_L_isStation_483 rfl rfl ?_
                                refine G_cVI0 g (pc := 484) (As := []) (st := []) cc_L_67 (c_G_beaconTime l hw M112) (hw.m 0 (Nat.le_of_ble_eq_true rfl)) (hw.k (Nat.le_of_ble_eq_true rfl) (zk0 rr)) rfl (by decide) rfl ⟨(Nat.le_of_ble_eq_true rfl), (Nat.le_of_ble_eq_true rfl)⟩ ⟨(Nat.le_of_ble_eq_true rfl), (Nat.le_of_ble_eq_true rfl)⟩ (Nat.le_of_ble_eq_true rfl) d_L_isStation_484 (fun x170 M171 => ?_)
                                refine G_if_ne g (pc := 487) 681 d_L_isStation_487 (by decide) ?_ ?_
                                · refine G_sub [0, 1, 2, 3, 4, 5, 6, 7, 8, 9, 10] _ rfl ?_
                                  exact hj113 () M171
                                · refine G_iconst g (pc := 681) (0 : Int32) d_L_isStation_681 rfl ?_
                                  exact G_zreturn g (pc := 682) false rfl hret (Nat.le_of_ble_eq_true rfl) (Nat.le_of_ble_eq_true rfl) d_L_isStation_682
                          · refine G_if_neB g (pc := 458) 476 d_L_isStation_458 (by decide) ?_ ?_
                            · refine G_sub [0, 1, 2, 3, 4, 5, 6, 7, 8, 9, 10] _ rfl ?_
                              exact hj108 () M107
                            · refine G_aload_n g (pc := 461) 6 d_L_isStation_461 rfl rfl ?_
                              refine G_cVI0 g (pc := 462) (As := []) (st := []) cc_L_64 (c_G_flightTime l hw M107) (hw.m 0 (Nat.le_of_ble_eq_true rfl)) (hw.k (Nat.le_of_ble_eq_true rfl) (zk0 rr)) rfl (by decide) rfl ⟨(Nat.le_of_ble_eq_true rfl), (Nat.le_of_ble_eq_true rfl)⟩ ⟨(Nat.le_of_ble_eq_true rfl), (Nat.le_of_ble_eq_true rfl)⟩ (Nat.le_of_ble_eq_true rfl) d_L_isStation_462 (fun x172 M173 => ?_)
                              refine G_if_ne g (pc := 465) 681 d_L_isStation_465 (by decide) ?_ ?_
                              · refine G_aload_n g (pc := 468) 6 d_L_isStation_468 rfl rfl ?_
                                refine G_cVI0 g (pc := 469) (As := []) (st := []) cc_L_149 (c_G_ticksToSnap l N hw M173) (hw.m 0 (Nat.le_of_ble_eq_true rfl)) (hw.k (Nat.le_of_ble_eq_true rfl) (zk0 rr)) rfl (by decide) rfl ⟨(Nat.le_of_ble_eq_true rfl), (Nat.le_of_ble_eq_true rfl)⟩ ⟨(Nat.le_of_ble_eq_true rfl), (Nat.le_of_ble_eq_true rfl)⟩ (Nat.le_of_ble_eq_true rfl) d_L_isStation_469 (fun x174 M175 => ?_)
                                refine G_iconst g (pc := 472) (-1 : Int32) d_L_isStation_472 rfl ?_
                                refine G_icmp_ne g (pc := 473) 681 d_L_isStation_473 (by decide) ?_ ?_
                                · refine G_sub [0, 1, 2, 3, 4, 5, 6, 7, 8, 9, 10] _ rfl ?_
                                  exact hj108 () M175
                                · refine G_iconst g (pc := 681) (0 : Int32) d_L_isStation_681 rfl ?_
                                  exact G_zreturn g (pc := 682) false rfl hret (Nat.le_of_ble_eq_true rfl) (Nat.le_of_ble_eq_true rfl) d_L_isStation_682
                              · refine G_iconst g (pc := 681) (0 : Int32) d_L_isStation_681 rfl ?_
                                exact G_zreturn g (pc := 682) false rfl hret (Nat.le_of_ble_eq_true rfl) (Nat.le_of_ble_eq_true rfl) d_L_isStation_682
                        · refine G_iconst g (pc := 681) (0 : Int32) d_L_isStation_681 rfl ?_
                          exact G_zreturn g (pc := 682) false rfl hret (Nat.le_of_ble_eq_true rfl) (Nat.le_of_ble_eq_true rfl) d_L_isStation_682
                      · refine G_if_le g (pc := 445) 452 d_L_isStation_445 (by decide) ?_ ?_
                        · refine G_iconst g (pc := 448) (1 : Int32) d_L_isStation_448 rfl ?_
                          refine G_goto g (pc := 449) 453 d_L_isStation_449 (by decide) ?_
                          refine G_sub [0, 1, 2, 3, 4, 5, 6, 7, 8, 9, 10] _ rfl ?_
                          exact hj105 true M104
                        · refine G_iconst g (pc := 452) (0 : Int32) d_L_isStation_452 rfl ?_
                          refine G_sub [0, 1, 2, 3, 4, 5, 6, 7, 8, 9, 10] _ rfl ?_
                          exact hj105 false M104
                    · refine G_iconst g (pc := 681) (0 : Int32) d_L_isStation_681 rfl ?_
                      exact G_zreturn g (pc := 682) false rfl hret (Nat.le_of_ble_eq_true rfl) (Nat.le_of_ble_eq_true rfl) d_L_isStation_682
                  · refine G_iconst g (pc := 681) (0 : Int32) d_L_isStation_681 rfl ?_
                    exact G_zreturn g (pc := 682) false rfl hret (Nat.le_of_ble_eq_true rfl) (Nat.le_of_ble_eq_true rfl) d_L_isStation_682
                · refine G_if_lt g (pc := 376) 422 d_L_isStation_376 (by decide) ?_ ?_
                  · refine G_sub [0, 1, 2, 3, 4, 5, 6, 7, 8, 9, 10] _ rfl ?_
                    exact hj96 () M94
                  · refine G_iconst g (pc := 379) (0 : Int32) d_L_isStation_379 rfl ?_
                    refine G_istore g (pc := 380) _ d_L_isStation_380 (Nat.le_of_ble_eq_true rfl) rfl ?_
                    refine G_sub [0, 1, 2, 3, 4, 5, 6, 7, 8, 9, 10, 11] [(11, .int (0 : Int32)), (10, .int x95), (9, .int x82), (8, .int x80), (7, .int (b2i x78)), (6, .int (b2i x76)), (5, .int x75), (0, .ref (wad w 0)), (1, .int a11.1), (2, .int a11.2.1), (3, .int a53.1), (4, .int a68.1)] rfl ?_
                    refine G_sub [7, 8, 9, 10, 11, 6, 5, 4, 3, 2, 1, 0] _ rfl ?_
                    refine G_loop (F := lp_L_isStation_382 N rr a11.1 a11.2.1 a53.1 a68.1 x75 x76 x78 x80 x82 x95) 382 422 (fun (v382 : Int32) => [(0, .ref (wad w 0)), (1, .int a11.1), (2, .int a11.2.1), (3, .int a53.1), (4, .int a68.1), (5, .int x75), (6, .int (b2i x76)), (7, .int (b2i x78)), (8, .int x80), (9, .int x82), (10, .int x95), (11, .int v382)]) (fun (v382 : Int32) => [(0, .ref (wad w 0)), (1, .int a11.1), (2, .int a11.2.1), (3, .int a53.1), (4, .int a68.1), (5, .int x75), (6, .int (b2i x76)), (7, .int (b2i x78)), (8, .int x80), (9, .int x82), (10, .int x95), (11, .int v382)]) (fun _ _ _ => rfl) (fun a186 M185 => ?_) (fun k382 hk382 Nl382 ih382 v382 M => ?_) N (0 : Int32) M94
                    · refine G_sub [10, 9, 8, 7, 6, 5, 0, 1, 2, 3, 4] _ rfl ?_
                      exact hj96 () M185
                    · show Go p0 l e _ s m args below meth c w _ _ _ _ (lp_L_isStation_382 N rr a11.1 a11.2.1 a53.1 a68.1 x75 x76 x78 x80 x82 x95 (Nl382 + 1) v382 M k382) 382 _ _ M
                      unfold lp_L_isStation_382
                      refine G_iload g (pc := 382) 11 d_L_isStation_382 rfl ?_
                      refine G_aload_n g (pc := 384) 0 d_L_isStation_384 rfl rfl ?_
                      refine G_cVI0 g (pc := 385) (As := []) (st := [.int v382]) cc_L_88 (c_G_patternLength l hw M) (hw.m 0 (Nat.le_of_ble_eq_true rfl)) (hw.k (Nat.le_of_ble_eq_true rfl) (zk0 rr)) rfl (by decide) rfl ⟨(Nat.le_of_ble_eq_true rfl), (Nat.le_of_ble_eq_true rfl)⟩ ⟨(Nat.le_of_ble_eq_true rfl), (Nat.le_of_ble_eq_true rfl)⟩ (Nat.le_of_ble_eq_true rfl) d_L_isStation_385 (fun x176 M177 => ?_)
                      refine G_icmp_ge g (pc := 388) 422 d_L_isStation_388 (by decide) ?_ ?_
                      · refine G_aload_n g (pc := 391) 0 d_L_isStation_391 rfl rfl ?_
                        refine G_aload_n g (pc := 392) 0 d_L_isStation_392 rfl rfl ?_
                        refine G_iload g (pc := 393) 11 d_L_isStation_393 rfl ?_
                        refine G_cVI0 g (pc := 395) (As := [.int v382]) (st := [.ref (wad w 0)]) cc_L_143 (c_G_gust l hw v382 M177) (hw.m 0 (Nat.le_of_ble_eq_true rfl)) (hw.k (Nat.le_of_ble_eq_true rfl) (zk0 rr)) rfl (by decide) rfl ⟨(Nat.le_of_ble_eq_true rfl), (Nat.le_of_ble_eq_true rfl)⟩ ⟨(Nat.le_of_ble_eq_true rfl), (Nat.le_of_ble_eq_true rfl)⟩ (Nat.le_of_ble_eq_true rfl) d_L_isStation_395 (fun x178 M179 => ?_)
                        refine G_iload g (pc := 398) 8 d_L_isStation_398 rfl ?_
                        refine G_bipush g (pc := 400) (100 : Int32) d_L_isStation_400 rfl ?_
                        refine G_idivK g (pc := 402) (by decide) d_L_isStation_402 ?_
                        refine G_iadd g (pc := 403) d_L_isStation_403 ?_
                        refine G_cVI0 g (pc := 404) (As := [.int (x178 + (x80 / (100 : Int32)))]) (st := []) cc_L_146 (c_G_loadOf l hw (x178 + (x80 / (100 : Int32))) M179) (hw.m 0 (Nat.le_of_ble_eq_true rfl)) (hw.k (Nat.le_of_ble_eq_true rfl) (zk0 rr)) rfl (by decide) rfl ⟨(Nat.le_of_ble_eq_true rfl), (Nat.le_of_ble_eq_true rfl)⟩ ⟨(Nat.le_of_ble_eq_true rfl), (Nat.le_of_ble_eq_true rfl)⟩ (Nat.le_of_ble_eq_true rfl) d_L_isStation_404 (fun x180 M181 => ?_)
                        refine G_aload_n g (pc := 407) 0 d_L_isStation_407 rfl rfl ?_
                        refine G_cVI0 g (pc := 408) (As := []) (st := [.int x180]) cc_L_55 (c_G_limit l hw M181) (hw.m 0 (Nat.le_of_ble_eq_true rfl)) (hw.k (Nat.le_of_ble_eq_true rfl) (zk0 rr)) rfl (by decide) rfl ⟨(Nat.le_of_ble_eq_true rfl), (Nat.le_of_ble_eq_true rfl)⟩ ⟨(Nat.le_of_ble_eq_true rfl), (Nat.le_of_ble_eq_true rfl)⟩ (Nat.le_of_ble_eq_true rfl) d_L_isStation_408 (fun x182 M183 => ?_)
                        refine G_icmp_le g (pc := 411) 416 d_L_isStation_411 (by decide) ?_ ?_
                        · refine G_iconst g (pc := 414) (0 : Int32) d_L_isStation_414 rfl ?_
                          exact G_zreturn g (pc := 415) false rfl hret (Nat.le_of_ble_eq_true rfl) (Nat.le_of_ble_eq_true rfl) d_L_isStation_415
                        · refine G_nmX (v382 + (1 : Int32)) (fun x184 e_x184 => ?_)
                          refine G_iinc g (pc := 416) x184 _ 11 d_L_isStation_416 rfl e_x184.symm (Nat.le_of_ble_eq_true rfl) rfl ?_
                          refine G_sub [0, 1, 2, 3, 4, 5, 6, 7, 8, 9, 10, 11] [(11, .int x184), (0, .ref (wad w 0)), (1, .int a11.1), (2, .int a11.2.1), (3, .int a53.1), (4, .int a68.1), (5, .int x75), (6, .int (b2i x76)), (7, .int (b2i x78)), (8, .int x80), (9, .int x82), (10, .int x95)] rfl ?_
                          refine G_goto g (pc := 419) 382 d_L_isStation_419 (by decide) ?_
                          refine G_sub [1, 2, 3, 4, 5, 6, 7, 8, 9, 10, 11, 0] _ rfl ?_
                          exact ih382 x184 M183
                      · refine G_sub [0, 1, 2, 3, 4, 5, 6, 7, 8, 9, 10, 11] _ rfl ?_
                        exact hk382 v382 M177
              · refine G_if_eqB g (pc := 363) 370 d_L_isStation_363 (by decide) ?_ ?_
                · refine G_iconst g (pc := 366) (1 : Int32) d_L_isStation_366 rfl ?_
                  refine G_goto g (pc := 367) 371 d_L_isStation_367 (by decide) ?_
                  refine G_sub [0, 1, 2, 3, 4, 5, 6, 7, 8, 9] _ rfl ?_
                  exact hj92 true M91
                · refine G_iconst g (pc := 370) (0 : Int32) d_L_isStation_370 rfl ?_
                  refine G_sub [0, 1, 2, 3, 4, 5, 6, 7, 8, 9] _ rfl ?_
                  exact hj92 false M91
            · refine G_if_eqB g (pc := 350) 357 d_L_isStation_350 (by decide) ?_ ?_
              · refine G_iconst g (pc := 353) (1 : Int32) d_L_isStation_353 rfl ?_
                refine G_goto g (pc := 354) 358 d_L_isStation_354 (by decide) ?_
                refine G_sub [0, 1, 2, 3, 4, 5, 6, 7, 8, 9] _ rfl ?_
                exact hj87 true M86
              · refine G_iconst g (pc := 357) (0 : Int32) d_L_isStation_357 rfl ?_
                refine G_sub [0, 1, 2, 3, 4, 5, 6, 7, 8, 9] _ rfl ?_
                exact hj87 false M86
          · refine G_if_eqB g (pc := 340) 347 d_L_isStation_340 (by decide) ?_ ?_
            · refine G_iconst g (pc := 343) (1 : Int32) d_L_isStation_343 rfl ?_
              refine G_goto g (pc := 344) 348 d_L_isStation_344 (by decide) ?_
              refine G_sub [0, 1, 2, 3, 4, 5, 6, 7, 8, 9] _ rfl ?_
              exact hj84 true M83
            · refine G_iconst g (pc := 347) (0 : Int32) d_L_isStation_347 rfl ?_
              refine G_sub [0, 1, 2, 3, 4, 5, 6, 7, 8, 9] _ rfl ?_
              exact hj84 false M83
        · show Go p0 l e _ s m args below meth c w _ _ _ _ (lp_L_isStation_217 N rr a11.1 a11.2.1 a53.1 (Nl217 + 1) v217 M k217) 217 _ _ M
          unfold lp_L_isStation_217
          refine G_iload g (pc := 217) 5 d_L_isStation_217 rfl ?_
          refine G_bipush g (pc := 219) (7 : Int32) d_L_isStation_219 rfl ?_
          refine G_icmp_ge g (pc := 221) 298 d_L_isStation_221 (by decide) ?_ ?_
          · refine G_aload_n g (pc := 224) 0 d_L_isStation_224 rfl rfl ?_
            refine G_bipush g (pc := 225) (100 : Int32) d_L_isStation_225 rfl ?_
            refine G_iload g (pc := 227) 5 d_L_isStation_227 rfl ?_
            refine G_imul g (pc := 229) d_L_isStation_229 ?_
            refine G_bipush g (pc := 230) (100 : Int32) d_L_isStation_230 rfl ?_
            refine G_iload g (pc := 232) 5 d_L_isStation_232 rfl ?_
            refine G_imul g (pc := 234) d_L_isStation_234 ?_
            refine G_bipush g (pc := 235) (99 : Int32) d_L_isStation_235 rfl ?_
            refine G_iadd g (pc := 237) d_L_isStation_237 ?_
            refine G_cVI0 g (pc := 238) (As := [.int ((100 : Int32) * v217.2), .int (((100 : Int32) * v217.2) + (99 : Int32))]) (st := []) cc_L_125 (c_G_archivedBetween l N hw ((100 : Int32) * v217.2) (((100 : Int32) * v217.2) + (99 : Int32)) M) (hw.m 0 (Nat.le_of_ble_eq_true rfl)) (hw.k (Nat.le_of_ble_eq_true rfl) (zk0 rr)) rfl (by decide) rfl ⟨(Nat.le_of_ble_eq_true rfl), (Nat.le_of_ble_eq_true rfl)⟩ ⟨(Nat.le_of_ble_eq_true rfl), (Nat.le_of_ble_eq_true rfl)⟩ (Nat.le_of_ble_eq_true rfl) d_L_isStation_238 (fun x54 M55 => ?_)
            refine G_istore g (pc := 241) _ d_L_isStation_241 (Nat.le_of_ble_eq_true rfl) rfl ?_
            refine G_sub [0, 1, 2, 3, 4, 5, 6] [(6, .int x54), (0, .ref (wad w 0)), (1, .int a11.1), (2, .int a11.2.1), (3, .int a53.1), (4, .int v217.1), (5, .int v217.2)] rfl ?_
            refine G_iload g (pc := 243) 5 d_L_isStation_243 rfl ?_
            refine G_iload g (pc := 245) 0 d_L_isStation_245 rfl ?_
            refine G_iadd g (pc := 247) d_L_isStation_247 ?_
            refine G_nmI (fun x56 => ?_)
            refine G_istore g (pc := 248) _ d_L_isStation_248 (Nat.le_of_ble_eq_true rfl) rfl ?_
            refine G_sub [0, 1, 2, 3, 4, 5, 6] [(4, .int x56), (6, .int x54), (0, .ref (wad w 0)), (1, .int a11.1), (2, .int a11.2.1), (3, .int a53.1), (5, .int v217.2)] rfl ?_
            refine G_iload g (pc := 250) 1 d_L_isStation_250 rfl ?_
            refine G_jn 266 (fun _ => [(4, .int x56), (6, .int x54), (0, .ref (wad w 0)), (1, .int a11.1), (2, .int a11.2.1), (3, .int a53.1), (5, .int v217.2)]) (fun (x58 : Unit) => []) (fun x58 M59 => ?_) (fun j57 hj57 => ?_)
            · refine G_aload_n g (pc := 266) 2 d_L_isStation_266 rfl rfl ?_
              refine G_iload g (pc := 267) 6 d_L_isStation_267 rfl ?_
              refine G_cVD0 g (pc := 269) (As := [.int v217.2]) (st := []) cc_L_128 (c_G_meanGust l N hw v217.2 M59) (hw.m 0 (Nat.le_of_ble_eq_true rfl)) (hw.k (Nat.le_of_ble_eq_true rfl) (zk0 rr)) rfl (by decide) rfl ⟨(Nat.le_of_ble_eq_true rfl), (Nat.le_of_ble_eq_true rfl)⟩ ⟨(Nat.le_of_ble_eq_true rfl), (Nat.le_of_ble_eq_true rfl)⟩ (Nat.le_of_ble_eq_true rfl) d_L_isStation_269 (fun x60 M61 => ?_)
              refine G_dconst0 g (pc := 272) d_L_isStation_272 ?_
              refine G_dcmp g (pc := 273) d_L_isStation_273 ?_
              refine G_if_lt g (pc := 274) 290 d_L_isStation_274 (by decide) ?_ ?_
              · refine G_iconst g (pc := 290) (0 : Int32) d_L_isStation_290 rfl ?_
                exact G_zreturn g (pc := 291) false rfl hret (Nat.le_of_ble_eq_true rfl) (Nat.le_of_ble_eq_true rfl) d_L_isStation_291
              · refine G_aload_n g (pc := 277) 2 d_L_isStation_277 rfl rfl ?_
                refine G_iload g (pc := 278) 6 d_L_isStation_278 rfl ?_
                refine G_cVD0 g (pc := 280) (As := [.int v217.2]) (st := []) cc_L_128 (c_G_meanGust l N hw v217.2 M61) (hw.m 0 (Nat.le_of_ble_eq_true rfl)) (hw.k (Nat.le_of_ble_eq_true rfl) (zk0 rr)) rfl (by decide) rfl ⟨(Nat.le_of_ble_eq_true rfl), (Nat.le_of_ble_eq_true rfl)⟩ ⟨(Nat.le_of_ble_eq_true rfl), (Nat.le_of_ble_eq_true rfl)⟩ (Nat.le_of_ble_eq_true rfl) d_L_isStation_280 (fun x62 M63 => ?_)
                refine G_ldcD g (pc := 283) (own := "KiteLoggerLaw") (v := (4630263366890291200 : UInt64)) (TT_in (i := 905) (by decide +kernel) (by decide +kernel)) d_L_isStation_283 ?_
                refine G_dcmp g (pc := 286) d_L_isStation_286 ?_
                refine G_if_le g (pc := 287) 292 d_L_isStation_287 (by decide) ?_ ?_
                · refine G_iconst g (pc := 290) (0 : Int32) d_L_isStation_290 rfl ?_
                  exact G_zreturn g (pc := 291) false rfl hret (Nat.le_of_ble_eq_true rfl) (Nat.le_of_ble_eq_true rfl) d_L_isStation_291
                · refine G_nmX (v217.2 + (1 : Int32)) (fun x64 e_x64 => ?_)
                  refine G_iinc g (pc := 292) x64 _ 6 d_L_isStation_292 rfl e_x64.symm (Nat.le_of_ble_eq_true rfl) rfl ?_
                  refine G_sub [0, 1, 2, 3, 4, 5, 6] [(5, .int x64), (4, .int x56), (6, .int x54), (0, .ref (wad w 0)), (1, .int a11.1), (2, .int a11.2.1), (3, .int a53.1)] rfl ?_
                  refine G_goto g (pc := 295) 217 d_L_isStation_295 (by decide) ?_
                  refine G_sub [3, 4, 5, 6, 1, 0] _ rfl ?_
                  exact ih217 (x56, x64) M63
            · refine G_if_ne g (pc := 252) 266 d_L_isStation_252 (by decide) ?_ ?_
              · refine G_aload_n g (pc := 255) 2 d_L_isStation_255 rfl rfl ?_
                refine G_iload g (pc := 256) 6 d_L_isStation_256 rfl ?_
                refine G_cVD0 g (pc := 258) (As := [.int v217.2]) (st := []) cc_L_128 (c_G_meanGust l N hw v217.2 M55) (hw.m 0 (Nat.le_of_ble_eq_true rfl)) (hw.k (Nat.le_of_ble_eq_true rfl) (zk0 rr)) rfl (by decide) rfl ⟨(Nat.le_of_ble_eq_true rfl), (Nat.le_of_ble_eq_true rfl)⟩ ⟨(Nat.le_of_ble_eq_true rfl), (Nat.le_of_ble_eq_true rfl)⟩ (Nat.le_of_ble_eq_true rfl) d_L_isStation_258 (fun x65 M66 => ?_)
                refine G_dconst0 g (pc := 261) d_L_isStation_261 ?_
                refine G_dcmp g (pc := 262) d_L_isStation_262 ?_
                refine G_if_ne g (pc := 263) 290 d_L_isStation_263 (by decide) ?_ ?_
                · refine G_sub [0, 1, 2, 3, 4, 5, 6] _ rfl ?_
                  exact hj57 () M66
                · refine G_iconst g (pc := 290) (0 : Int32) d_L_isStation_290 rfl ?_
                  exact G_zreturn g (pc := 291) false rfl hret (Nat.le_of_ble_eq_true rfl) (Nat.le_of_ble_eq_true rfl) d_L_isStation_291
              · refine G_sub [0, 1, 2, 3, 4, 5, 6] _ rfl ?_
                exact hj57 () M55
          · refine G_sub [0, 1, 2, 3, 4, 5] _ rfl ?_
            exact hk217 (v217.1, v217.2) M
      · show Go p0 l e _ s m args below meth c w _ _ _ _ (lp_L_isStation_131 N rr a11.1 a11.2.1 (Nl131 + 1) v131 M k131) 131 _ _ M
        unfold lp_L_isStation_131
        refine G_iload g (pc := 131) 4 d_L_isStation_131 rfl ?_
        refine G_aload_n g (pc := 133) 0 d_L_isStation_133 rfl rfl ?_
        refine G_cVI0 g (pc := 134) (As := []) (st := [.int v131.2]) cc_L_30 (c_G_loggedCount l hw M) (hw.m 0 (Nat.le_of_ble_eq_true rfl)) (hw.k (Nat.le_of_ble_eq_true rfl) (zk0 rr)) rfl (by decide) rfl ⟨(Nat.le_of_ble_eq_true rfl), (Nat.le_of_ble_eq_true rfl)⟩ ⟨(Nat.le_of_ble_eq_true rfl), (Nat.le_of_ble_eq_true rfl)⟩ (Nat.le_of_ble_eq_true rfl) d_L_isStation_134 (fun x35 M36 => ?_)
        refine G_icmp_ge g (pc := 137) 211 d_L_isStation_137 (by decide) ?_ ?_
        · refine G_aload_n g (pc := 140) 0 d_L_isStation_140 rfl rfl ?_
          refine G_iload g (pc := 141) 4 d_L_isStation_141 rfl ?_
          refine G_cVI0 g (pc := 143) (As := [.int v131.2]) (st := []) cc_L_95 (c_G_loggedTick l hw v131.2 M36) (hw.m 0 (Nat.le_of_ble_eq_true rfl)) (hw.k (Nat.le_of_ble_eq_true rfl) (zk0 rr)) rfl (by decide) rfl ⟨(Nat.le_of_ble_eq_true rfl), (Nat.le_of_ble_eq_true rfl)⟩ ⟨(Nat.le_of_ble_eq_true rfl), (Nat.le_of_ble_eq_true rfl)⟩ (Nat.le_of_ble_eq_true rfl) d_L_isStation_143 (fun x37 M38 => ?_)
          refine G_iload_n g (pc := 146) 3 d_L_isStation_146 rfl rfl ?_
          refine G_icmp_le g (pc := 147) 196 d_L_isStation_147 (by decide) ?_ ?_
          · refine G_aload_n g (pc := 150) 0 d_L_isStation_150 rfl rfl ?_
            refine G_iload g (pc := 151) 4 d_L_isStation_151 rfl ?_
            refine G_cVI0 g (pc := 153) (As := [.int v131.2]) (st := []) cc_L_95 (c_G_loggedTick l hw v131.2 M38) (hw.m 0 (Nat.le_of_ble_eq_true rfl)) (hw.k (Nat.le_of_ble_eq_true rfl) (zk0 rr)) rfl (by decide) rfl ⟨(Nat.le_of_ble_eq_true rfl), (Nat.le_of_ble_eq_true rfl)⟩ ⟨(Nat.le_of_ble_eq_true rfl), (Nat.le_of_ble_eq_true rfl)⟩ (Nat.le_of_ble_eq_true rfl) d_L_isStation_153 (fun x39 M40 => ?_)
            refine G_aload_n g (pc := 156) 0 d_L_isStation_156 rfl rfl ?_
            refine G_cVI0 g (pc := 157) (As := []) (st := [.int x39]) cc_L_39 (c_G_tick l hw M40) (hw.m 0 (Nat.le_of_ble_eq_true rfl)) (hw.k (Nat.le_of_ble_eq_true rfl) (zk0 rr)) rfl (by decide) rfl ⟨(Nat.le_of_ble_eq_true rfl), (Nat.le_of_ble_eq_true rfl)⟩ ⟨(Nat.le_of_ble_eq_true rfl), (Nat.le_of_ble_eq_true rfl)⟩ (Nat.le_of_ble_eq_true rfl) d_L_isStation_157 (fun x41 M42 => ?_)
            refine G_icmp_ge g (pc := 160) 196 d_L_isStation_160 (by decide) ?_ ?_
            · refine G_aload_n g (pc := 163) 0 d_L_isStation_163 rfl rfl ?_
              refine G_iload g (pc := 164) 4 d_L_isStation_164 rfl ?_
              refine G_cVI0 g (pc := 166) (As := [.int v131.2]) (st := []) cc_L_98 (c_G_loggedHeight l hw v131.2 M42) (hw.m 0 (Nat.le_of_ble_eq_true rfl)) (hw.k (Nat.le_of_ble_eq_true rfl) (zk0 rr)) rfl (by decide) rfl ⟨(Nat.le_of_ble_eq_true rfl), (Nat.le_of_ble_eq_true rfl)⟩ ⟨(Nat.le_of_ble_eq_true rfl), (Nat.le_of_ble_eq_true rfl)⟩ (Nat.le_of_ble_eq_true rfl) d_L_isStation_166 (fun x43 M44 => ?_)
              refine G_iconst g (pc := 169) (1 : Int32) d_L_isStation_169 rfl ?_
              refine G_icmp_lt g (pc := 170) 196 d_L_isStation_170 (by decide) ?_ ?_
              · refine G_iconst g (pc := 196) (0 : Int32) d_L_isStation_196 rfl ?_
                exact G_zreturn g (pc := 197) false rfl hret (Nat.le_of_ble_eq_true rfl) (Nat.le_of_ble_eq_true rfl) d_L_isStation_197
              · refine G_aload_n g (pc := 173) 0 d_L_isStation_173 rfl rfl ?_
                refine G_iload g (pc := 174) 4 d_L_isStation_174 rfl ?_
                refine G_cVI0 g (pc := 176) (As := [.int v131.2]) (st := []) cc_L_98 (c_G_loggedHeight l hw v131.2 M44) (hw.m 0 (Nat.le_of_ble_eq_true rfl)) (hw.k (Nat.le_of_ble_eq_true rfl) (zk0 rr)) rfl (by decide) rfl ⟨(Nat.le_of_ble_eq_true rfl), (Nat.le_of_ble_eq_true rfl)⟩ ⟨(Nat.le_of_ble_eq_true rfl), (Nat.le_of_ble_eq_true rfl)⟩ (Nat.le_of_ble_eq_true rfl) d_L_isStation_176 (fun x45 M46 => ?_)
                refine G_sipush g (pc := 179) (600 : Int32) d_L_isStation_179 rfl ?_
                refine G_icmp_gt g (pc := 182) 196 d_L_isStation_182 (by decide) ?_ ?_
                · refine G_aload_n g (pc := 185) 0 d_L_isStation_185 rfl rfl ?_
                  refine G_iload g (pc := 186) 4 d_L_isStation_186 rfl ?_
                  refine G_cVI0 g (pc := 188) (As := [.int v131.2]) (st := []) cc_L_101 (c_G_loggedGust l hw v131.2 M46) (hw.m 0 (Nat.le_of_ble_eq_true rfl)) (hw.k (Nat.le_of_ble_eq_true rfl) (zk0 rr)) rfl (by decide) rfl ⟨(Nat.le_of_ble_eq_true rfl), (Nat.le_of_ble_eq_true rfl)⟩ ⟨(Nat.le_of_ble_eq_true rfl), (Nat.le_of_ble_eq_true rfl)⟩ (Nat.le_of_ble_eq_true rfl) d_L_isStation_188 (fun x47 M48 => ?_)
                  refine G_bipush g (pc := 191) (36 : Int32) d_L_isStation_191 rfl ?_
                  refine G_icmp_le g (pc := 193) 198 d_L_isStation_193 (by decide) ?_ ?_
                  · refine G_iconst g (pc := 196) (0 : Int32) d_L_isStation_196 rfl ?_
                    exact G_zreturn g (pc := 197) false rfl hret (Nat.le_of_ble_eq_true rfl) (Nat.le_of_ble_eq_true rfl) d_L_isStation_197
                  · refine G_aload_n g (pc := 198) 0 d_L_isStation_198 rfl rfl ?_
                    refine G_iload g (pc := 199) 4 d_L_isStation_199 rfl ?_
                    refine G_cVI0 g (pc := 201) (As := [.int v131.2]) (st := []) cc_L_95 (c_G_loggedTick l hw v131.2 M48) (hw.m 0 (Nat.le_of_ble_eq_true rfl)) (hw.k (Nat.le_of_ble_eq_true rfl) (zk0 rr)) rfl (by decide) rfl ⟨(Nat.le_of_ble_eq_true rfl), (Nat.le_of_ble_eq_true rfl)⟩ ⟨(Nat.le_of_ble_eq_true rfl), (Nat.le_of_ble_eq_true rfl)⟩ (Nat.le_of_ble_eq_true rfl) d_L_isStation_201 (fun x49 M50 => ?_)
                    refine G_istore_n g (pc := 204) _ d_L_isStation_204 rfl (Nat.le_of_ble_eq_true rfl) rfl ?_
                    refine G_sub [0, 1, 2, 3, 4] [(3, .int x49), (0, .ref (wad w 0)), (1, .int a11.1), (2, .int a11.2.1), (4, .int v131.2)] rfl ?_
                    refine G_nmX (v131.2 + (1 : Int32)) (fun x51 e_x51 => ?_)
                    refine G_iinc g (pc := 205) x51 _ 4 d_L_isStation_205 rfl e_x51.symm (Nat.le_of_ble_eq_true rfl) rfl ?_
                    refine G_sub [0, 1, 2, 3, 4] [(4, .int x51), (3, .int x49), (0, .ref (wad w 0)), (1, .int a11.1), (2, .int a11.2.1)] rfl ?_
                    refine G_goto g (pc := 208) 131 d_L_isStation_208 (by decide) ?_
                    refine G_sub [2, 3, 4, 1, 0] _ rfl ?_
                    exact ih131 (x49, x51) M50
                · refine G_iconst g (pc := 196) (0 : Int32) d_L_isStation_196 rfl ?_
                  exact G_zreturn g (pc := 197) false rfl hret (Nat.le_of_ble_eq_true rfl) (Nat.le_of_ble_eq_true rfl) d_L_isStation_197
            · refine G_iconst g (pc := 196) (0 : Int32) d_L_isStation_196 rfl ?_
              exact G_zreturn g (pc := 197) false rfl hret (Nat.le_of_ble_eq_true rfl) (Nat.le_of_ble_eq_true rfl) d_L_isStation_197
          · refine G_iconst g (pc := 196) (0 : Int32) d_L_isStation_196 rfl ?_
            exact G_zreturn g (pc := 197) false rfl hret (Nat.le_of_ble_eq_true rfl) (Nat.le_of_ble_eq_true rfl) d_L_isStation_197
        · refine G_sub [0, 1, 2, 3, 4] _ rfl ?_
          exact hk131 (v131.1, v131.2) M36
    · show Go p0 l e _ s m args below meth c w _ _ _ _ (lp_L_isStation_43 N rr a11.1 a11.2.1 (Nl43 + 1) v43 M k43) 43 _ _ M
      unfold lp_L_isStation_43
      refine G_iload g (pc := 43) 4 d_L_isStation_43 rfl ?_
      refine G_aload_n g (pc := 45) 0 d_L_isStation_45 rfl rfl ?_
      refine G_cVI0 g (pc := 46) (As := []) (st := [.int v43.2]) cc_L_33 (c_G_archivedCount l hw M) (hw.m 0 (Nat.le_of_ble_eq_true rfl)) (hw.k (Nat.le_of_ble_eq_true rfl) (zk0 rr)) rfl (by decide) rfl ⟨(Nat.le_of_ble_eq_true rfl), (Nat.le_of_ble_eq_true rfl)⟩ ⟨(Nat.le_of_ble_eq_true rfl), (Nat.le_of_ble_eq_true rfl)⟩ (Nat.le_of_ble_eq_true rfl) d_L_isStation_46 (fun x12 M13 => ?_)
      refine G_icmp_ge g (pc := 49) 128 d_L_isStation_49 (by decide) ?_ ?_
      · refine G_aload_n g (pc := 52) 0 d_L_isStation_52 rfl rfl ?_
        refine G_iload g (pc := 53) 4 d_L_isStation_53 rfl ?_
        refine G_cVI0 g (pc := 55) (As := [.int v43.2]) (st := []) cc_L_104 (c_G_archivedTick l hw v43.2 M13) (hw.m 0 (Nat.le_of_ble_eq_true rfl)) (hw.k (Nat.le_of_ble_eq_true rfl) (zk0 rr)) rfl (by decide) rfl ⟨(Nat.le_of_ble_eq_true rfl), (Nat.le_of_ble_eq_true rfl)⟩ ⟨(Nat.le_of_ble_eq_true rfl), (Nat.le_of_ble_eq_true rfl)⟩ (Nat.le_of_ble_eq_true rfl) d_L_isStation_55 (fun x14 M15 => ?_)
        refine G_iload_n g (pc := 58) 3 d_L_isStation_58 rfl rfl ?_
        refine G_icmp_le g (pc := 59) 113 d_L_isStation_59 (by decide) ?_ ?_
        · refine G_aload_n g (pc := 62) 0 d_L_isStation_62 rfl rfl ?_
          refine G_aload_n g (pc := 63) 0 d_L_isStation_63 rfl rfl ?_
          refine G_iload g (pc := 64) 4 d_L_isStation_64 rfl ?_
          refine G_cVI0 g (pc := 66) (As := [.int v43.2]) (st := [.ref (wad w 0)]) cc_L_104 (c_G_archivedTick l hw v43.2 M15) (hw.m 0 (Nat.le_of_ble_eq_true rfl)) (hw.k (Nat.le_of_ble_eq_true rfl) (zk0 rr)) rfl (by decide) rfl ⟨(Nat.le_of_ble_eq_true rfl), (Nat.le_of_ble_eq_true rfl)⟩ ⟨(Nat.le_of_ble_eq_true rfl), (Nat.le_of_ble_eq_true rfl)⟩ (Nat.le_of_ble_eq_true rfl) d_L_isStation_66 (fun x16 M17 => ?_)
          refine G_cVI0 g (pc := 69) (As := [.int x16]) (st := []) cc_L_119 (c_G_archivedBefore l N hw x16 M17) (hw.m 0 (Nat.le_of_ble_eq_true rfl)) (hw.k (Nat.le_of_ble_eq_true rfl) (zk0 rr)) rfl (by decide) rfl ⟨(Nat.le_of_ble_eq_true rfl), (Nat.le_of_ble_eq_true rfl)⟩ ⟨(Nat.le_of_ble_eq_true rfl), (Nat.le_of_ble_eq_true rfl)⟩ (Nat.le_of_ble_eq_true rfl) d_L_isStation_69 (fun x18 M19 => ?_)
          refine G_iload g (pc := 72) 4 d_L_isStation_72 rfl ?_
          refine G_icmp_ne g (pc := 74) 113 d_L_isStation_74 (by decide) ?_ ?_
          · refine G_aload_n g (pc := 77) 0 d_L_isStation_77 rfl rfl ?_
            refine G_aload_n g (pc := 78) 0 d_L_isStation_78 rfl rfl ?_
            refine G_iload g (pc := 79) 4 d_L_isStation_79 rfl ?_
            refine G_cVI0 g (pc := 81) (As := [.int v43.2]) (st := [.ref (wad w 0)]) cc_L_104 (c_G_archivedTick l hw v43.2 M19) (hw.m 0 (Nat.le_of_ble_eq_true rfl)) (hw.k (Nat.le_of_ble_eq_true rfl) (zk0 rr)) rfl (by decide) rfl ⟨(Nat.le_of_ble_eq_true rfl), (Nat.le_of_ble_eq_true rfl)⟩ ⟨(Nat.le_of_ble_eq_true rfl), (Nat.le_of_ble_eq_true rfl)⟩ (Nat.le_of_ble_eq_true rfl) d_L_isStation_81 (fun x20 M21 => ?_)
            refine G_iconst g (pc := 84) (1 : Int32) d_L_isStation_84 rfl ?_
            refine G_isub g (pc := 85) d_L_isStation_85 ?_
            refine G_cVI0 g (pc := 86) (As := [.int (x20 - (1 : Int32))]) (st := []) cc_L_119 (c_G_archivedBefore l N hw (x20 - (1 : Int32)) M21) (hw.m 0 (Nat.le_of_ble_eq_true rfl)) (hw.k (Nat.le_of_ble_eq_true rfl) (zk0 rr)) rfl (by decide) rfl ⟨(Nat.le_of_ble_eq_true rfl), (Nat.le_of_ble_eq_true rfl)⟩ ⟨(Nat.le_of_ble_eq_true rfl), (Nat.le_of_ble_eq_true rfl)⟩ (Nat.le_of_ble_eq_true rfl) d_L_isStation_86 (fun x22 M23 => ?_)
            refine G_iload g (pc := 89) 4 d_L_isStation_89 rfl ?_
            refine G_iconst g (pc := 91) (1 : Int32) d_L_isStation_91 rfl ?_
            refine G_isub g (pc := 92) d_L_isStation_92 ?_
            refine G_icmp_ne g (pc := 93) 113 d_L_isStation_93 (by decide) ?_ ?_
            · refine G_aload_n g (pc := 96) 0 d_L_isStation_96 rfl rfl ?_
              refine G_iload g (pc := 97) 4 d_L_isStation_97 rfl ?_
              refine G_cVI0 g (pc := 99) (As := [.int v43.2]) (st := []) cc_L_107 (c_G_archivedHeight l hw v43.2 M23) (hw.m 0 (Nat.le_of_ble_eq_true rfl)) (hw.k (Nat.le_of_ble_eq_true rfl) (zk0 rr)) rfl (by decide) rfl ⟨(Nat.le_of_ble_eq_true rfl), (Nat.le_of_ble_eq_true rfl)⟩ ⟨(Nat.le_of_ble_eq_true rfl), (Nat.le_of_ble_eq_true rfl)⟩ (Nat.le_of_ble_eq_true rfl) d_L_isStation_99 (fun x24 M25 => ?_)
              refine G_aload_n g (pc := 102) 0 d_L_isStation_102 rfl rfl ?_
              refine G_aload_n g (pc := 103) 0 d_L_isStation_103 rfl rfl ?_
              refine G_cVI0 g (pc := 104) (As := []) (st := [.ref (wad w 0), .int x24]) cc_L_122 (c_G_highestArchived l N hw M25) (hw.m 0 (Nat.le_of_ble_eq_true rfl)) (hw.k (Nat.le_of_ble_eq_true rfl) (zk0 rr)) rfl (by decide) rfl ⟨(Nat.le_of_ble_eq_true rfl), (Nat.le_of_ble_eq_true rfl)⟩ ⟨(Nat.le_of_ble_eq_true rfl), (Nat.le_of_ble_eq_true rfl)⟩ (Nat.le_of_ble_eq_true rfl) d_L_isStation_104 (fun x26 M27 => ?_)
              refine G_cVI0 g (pc := 107) (As := [.int x26]) (st := [.int x24]) cc_L_107 (c_G_archivedHeight l hw x26 M27) (hw.m 0 (Nat.le_of_ble_eq_true rfl)) (hw.k (Nat.le_of_ble_eq_true rfl) (zk0 rr)) rfl (by decide) rfl ⟨(Nat.le_of_ble_eq_true rfl), (Nat.le_of_ble_eq_true rfl)⟩ ⟨(Nat.le_of_ble_eq_true rfl), (Nat.le_of_ble_eq_true rfl)⟩ (Nat.le_of_ble_eq_true rfl) d_L_isStation_107 (fun x28 M29 => ?_)
              refine G_icmp_le g (pc := 110) 115 d_L_isStation_110 (by decide) ?_ ?_
              · refine G_iconst g (pc := 113) (0 : Int32) d_L_isStation_113 rfl ?_
                exact G_zreturn g (pc := 114) false rfl hret (Nat.le_of_ble_eq_true rfl) (Nat.le_of_ble_eq_true rfl) d_L_isStation_114
              · refine G_aload_n g (pc := 115) 0 d_L_isStation_115 rfl rfl ?_
                refine G_iload g (pc := 116) 4 d_L_isStation_116 rfl ?_
                refine G_cVI0 g (pc := 118) (As := [.int v43.2]) (st := []) cc_L_104 (c_G_archivedTick l hw v43.2 M29) (hw.m 0 (Nat.le_of_ble_eq_true rfl)) (hw.k (Nat.le_of_ble_eq_true rfl) (zk0 rr)) rfl (by decide) rfl ⟨(Nat.le_of_ble_eq_true rfl), (Nat.le_of_ble_eq_true rfl)⟩ ⟨(Nat.le_of_ble_eq_true rfl), (Nat.le_of_ble_eq_true rfl)⟩ (Nat.le_of_ble_eq_true rfl) d_L_isStation_118 (fun x30 M31 => ?_)
                refine G_istore_n g (pc := 121) _ d_L_isStation_121 rfl (Nat.le_of_ble_eq_true rfl) rfl ?_
                refine G_sub [0, 1, 2, 3, 4] [(3, .int x30), (0, .ref (wad w 0)), (1, .int a11.1), (2, .int a11.2.1), (4, .int v43.2)] rfl ?_
                refine G_nmX (v43.2 + (1 : Int32)) (fun x32 e_x32 => ?_)
                refine G_iinc g (pc := 122) x32 _ 4 d_L_isStation_122 rfl e_x32.symm (Nat.le_of_ble_eq_true rfl) rfl ?_
                refine G_sub [0, 1, 2, 3, 4] [(4, .int x32), (3, .int x30), (0, .ref (wad w 0)), (1, .int a11.1), (2, .int a11.2.1)] rfl ?_
                refine G_goto g (pc := 125) 43 d_L_isStation_125 (by decide) ?_
                refine G_sub [2, 3, 4, 1, 0] _ rfl ?_
                exact ih43 (x30, x32) M31
            · refine G_iconst g (pc := 113) (0 : Int32) d_L_isStation_113 rfl ?_
              exact G_zreturn g (pc := 114) false rfl hret (Nat.le_of_ble_eq_true rfl) (Nat.le_of_ble_eq_true rfl) d_L_isStation_114
          · refine G_iconst g (pc := 113) (0 : Int32) d_L_isStation_113 rfl ?_
            exact G_zreturn g (pc := 114) false rfl hret (Nat.le_of_ble_eq_true rfl) (Nat.le_of_ble_eq_true rfl) d_L_isStation_114
        · refine G_iconst g (pc := 113) (0 : Int32) d_L_isStation_113 rfl ?_
          exact G_zreturn g (pc := 114) false rfl hret (Nat.le_of_ble_eq_true rfl) (Nat.le_of_ble_eq_true rfl) d_L_isStation_114
      · refine G_sub [0, 1, 2, 3, 4] _ rfl ?_
        exact hk43 (v43.1, v43.2) M13
  · show Go p0 l e _ s m args below meth c w _ _ _ _ (lp_L_isStation_6 N rr (Nl6 + 1) v6 M k6) 6 _ _ M
    unfold lp_L_isStation_6
    refine G_iload_n g (pc := 6) 3 d_L_isStation_6 rfl rfl ?_
    refine G_aload_n g (pc := 7) 0 d_L_isStation_7 rfl rfl ?_
    refine G_cVI0 g (pc := 8) (As := []) (st := [.int v6.2.2]) cc_L_36 (c_G_bufferSize l hw M) (hw.m 0 (Nat.le_of_ble_eq_true rfl)) (hw.k (Nat.le_of_ble_eq_true rfl) (zk0 rr)) rfl (by decide) rfl ⟨(Nat.le_of_ble_eq_true rfl), (Nat.le_of_ble_eq_true rfl)⟩ ⟨(Nat.le_of_ble_eq_true rfl), (Nat.le_of_ble_eq_true rfl)⟩ (Nat.le_of_ble_eq_true rfl) d_L_isStation_8 (fun x1 M2 => ?_)
    refine G_icmp_ge g (pc := 11) 38 d_L_isStation_11 (by decide) ?_ ?_
    · refine G_iload_n g (pc := 14) 1 d_L_isStation_14 rfl rfl ?_
      refine G_aload_n g (pc := 15) 0 d_L_isStation_15 rfl rfl ?_
      refine G_iload_n g (pc := 16) 3 d_L_isStation_16 rfl rfl ?_
      refine G_cVI0 g (pc := 17) (As := [.int v6.2.2]) (st := [.int v6.1]) cc_L_91 (c_G_bufferedWind l hw v6.2.2 M2) (hw.m 0 (Nat.le_of_ble_eq_true rfl)) (hw.k (Nat.le_of_ble_eq_true rfl) (zk0 rr)) rfl (by decide) rfl ⟨(Nat.le_of_ble_eq_true rfl), (Nat.le_of_ble_eq_true rfl)⟩ ⟨(Nat.le_of_ble_eq_true rfl), (Nat.le_of_ble_eq_true rfl)⟩ (Nat.le_of_ble_eq_true rfl) d_L_isStation_17 (fun x3 M4 => ?_)
      refine G_iadd g (pc := 20) d_L_isStation_20 ?_
      refine G_nmI (fun x5 => ?_)
      refine G_istore_n g (pc := 21) _ d_L_isStation_21 rfl (Nat.le_of_ble_eq_true rfl) rfl ?_
      refine G_sub [0, 1, 2, 3] [(1, .int x5), (0, .ref (wad w 0)), (2, .int v6.2.1), (3, .int v6.2.2)] rfl ?_
      refine G_iload_n g (pc := 22) 2 d_L_isStation_22 rfl rfl ?_
      refine G_aload_n g (pc := 23) 1 d_L_isStation_23 rfl rfl ?_
      refine G_iload_n g (pc := 24) 3 d_L_isStation_24 rfl rfl ?_
      refine G_cVI0 g (pc := 25) (As := [.int v6.2.2]) (st := [.int v6.2.1]) cc_L_91 (c_G_bufferedWind l hw v6.2.2 M4) (hw.m 0 (Nat.le_of_ble_eq_true rfl)) (hw.k (Nat.le_of_ble_eq_true rfl) (zk0 rr)) rfl (by decide) rfl ⟨(Nat.le_of_ble_eq_true rfl), (Nat.le_of_ble_eq_true rfl)⟩ ⟨(Nat.le_of_ble_eq_true rfl), (Nat.le_of_ble_eq_true rfl)⟩ (Nat.le_of_ble_eq_true rfl) d_L_isStation_25 (fun x6 M7 => ?_)
      refine G_mmax g (pc := 28) ma_L_113 ⟨(Nat.le_of_ble_eq_true rfl), (Nat.le_of_ble_eq_true rfl), (Nat.le_of_ble_eq_true rfl), (Nat.le_of_ble_eq_true rfl)⟩ d_L_isStation_28 ?_
      refine G_nmI (fun x8 => ?_)
      refine G_istore_n g (pc := 31) _ d_L_isStation_31 rfl (Nat.le_of_ble_eq_true rfl) rfl ?_
      refine G_sub [0, 1, 2, 3] [(2, .int x8), (1, .int x5), (0, .ref (wad w 0)), (3, .int v6.2.2)] rfl ?_
      refine G_nmX (v6.2.2 + (1 : Int32)) (fun x9 e_x9 => ?_)
      refine G_iinc g (pc := 32) x9 _ 3 d_L_isStation_32 rfl e_x9.symm (Nat.le_of_ble_eq_true rfl) rfl ?_
      refine G_sub [0, 1, 2, 3] [(3, .int x9), (2, .int x8), (1, .int x5), (0, .ref (wad w 0))] rfl ?_
      refine G_goto g (pc := 35) 6 d_L_isStation_35 (by decide) ?_
      refine G_sub [3, 2, 1, 0] _ rfl ?_
      exact ih6 (x5, x8, x9) M7
    · refine G_sub [0, 1, 2, 3] _ rfl ?_
      exact hk6 (v6.1, v6.2.1, v6.2.2) M2
